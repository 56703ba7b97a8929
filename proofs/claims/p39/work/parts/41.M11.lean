set_option maxRecDepth 100000 in
set_option maxHeartbeats 4000000 in
theorem m_X12_highest (l : Launch) (X : xW) (Γ : Nat → Option Nat) (H0 : Heap) (hC0 : Conf X Γ H0) (h0 : Nat) (g0 : Γ h0 = some 11) (p1 : Int32) {a1 : Int} (e1 : p1.toInt = a1) (ca : Nat) (gca : Γ ca = some 64) (uc : ∀ a, Γ a = some 64 → a = ca) : Ctr l X Γ yX12_highest cX12_highest 5 (some .int) 1 [.ref h0, .int p1] H0 (QI X Γ (fun v H1 => Kp X Γ [1, 6, 7, 8, 9, 10, 11, 12, 14, 15, 16, 17, 19, 22, 24, 26, 28] H0 H1 ∧ (True))) := by
  refine q_enterI (own := "SnowFortsModel") (by decide) rfl (Nat.le_of_ble_eq_true rfl) ?_
  intro p e s m args below meth c ls Qz E hl ret hS0
  have hx := E.1; have hb := E.2.1
  have hKp0 : Kp X Γ [1, 6, 7, 8, 9, 10, 11, 12, 14, 15, 16, 17, 19, 22, 24, 26, 28] H0 H0 := Kp.rf
  have hl : lv_has ls 5 [(0, .ref h0), (1, .int p1)] := hl
  refine lv_aload_n hx hb dX12_highest_0 rfl (lv_at hl 0 rfl) ?_
  refine lv_iconst (v := 0) hx hb dX12_highest_1 rfl ?_
  refine q_put E hC0 hS0 g0 fp_RX12_69 tv_F rfl rfl dX12_highest_2 (fun H21 locs21 hC21 hS21 U21 => ?_)
  have hKp21 := Kp.upO E g0 fp_RX12_69 rfl U21 hKp0
  have e22 := up_I U21
  refine lv_aload_n hx hb dX12_highest_5 rfl (lv_at hl 0 rfl) ?_
  refine lv_iconst (v := 0) hx hb dX12_highest_6 rfl ?_
  refine q_put E hC21 hS21 g0 fp_RX12_72 tv_F rfl rfl dX12_highest_7 (fun H23 locs23 hC23 hS23 U23 => ?_)
  have hKp23 := Kp.upO E g0 fp_RX12_72 rfl U23 hKp21
  have e24 := up_I U23
  refine lv_iload_n hx hb dX12_highest_10 rfl (lv_at hl 1 rfl) ?_
  refine lv_i2l (v := p1.toInt64) hx hb dX12_highest_11 rfl (lv_topl (fun v25 ev25 => ?_))
  have ev25i : v25.toInt = a1 := l_ofi ev25.symm e1
  refine lv_lconst (v := 0) hx hb dX12_highest_12 rfl ?_
  refine lv_lconst (v := 1) hx hb dX12_highest_13 rfl ?_
  refine q_goIp (q_runS (As := [.long v25, .long 0, .long 1]) (rest := []) E hS23 (m_X12_isIn l X Γ H23 hC23 v25 (a0 := a1) ev25i 0 (a1 := 0) (show (0 : Int64).toInt = 0 from by decide) 1 (a2 := 1) (show (1 : Int64).toInt = 1 from by decide)) cw_X12_isIn cl_RX12_104 rfl hl.1 rfl (Nat.zero_le _) (by decide) dX12_highest_14) hS23 (fun v26 locs26 hr26 hS26 => ?_)
  rcases hr26 with ⟨rfl, f26a0, f26a1⟩ | ⟨rfl, f26b⟩
  · refine q_if_ne hx hb (a := 1) (by decide) (tgt := 26) dX12_highest_17 rfl (fun c27 => ?_) (fun c27 => absurd c27 (by omega))
    refine lv_iconst (v := 0) hx hb dX12_highest_26 rfl ?_
    refine lv_istore_n hx hb dX12_highest_27 rfl hl (by decide) rfl (fun ls hl => ?_)
    replace hl : lv_has ls 5 [(2, .int 0), (0, .ref h0), (1, .int p1)] := hl
    refine lv_iconst (v := 0) hx hb dX12_highest_28 rfl ?_
    refine lv_istore_n hx hb dX12_highest_29 rfl hl (by decide) rfl (fun ls hl => ?_)
    replace hl : lv_has ls 5 [(3, .int 0), (2, .int 0), (0, .ref h0), (1, .int p1)] := hl
    have L30 : ∀ (n30 : Nat) (locs30 : List Loc) (v28 : Int32) (z28 : Int) (v29 : Int32) (z29 : Int) (ls : Array Slot), (6 - z28).toNat < n30 → v28.toInt = z28 → v29.toInt = z29 → z28 ≤ 6 → 0 ≤ z28 → va_S (AΓ Γ) H0 H23 locs30 → lv_has ls 5 [(3, .int v28), (2, .int v29), (0, .ref h0), (1, .int p1)] → W p l e (rmL 1) s m args below meth c H23 locs30 0 0 Qz (F0 m 30 ls []) := by
      intro n30
      induction n30 with
      | zero => intro locs30 v28 z28 v29 z29 ls hm30 ev28 ev29 iv30_0 iv30_1 hS30 hl; exact absurd hm30 (Nat.not_lt_zero _)
      | succ n30 ih30 =>
        intro locs30 v28 z28 v29 z29 ls hm30 ev28 ev29 iv30_0 iv30_1 hS30 hl
        refine lv_iload_n hx hb dX12_highest_30 rfl (lv_at hl 0 rfl) ?_
        refine lv_aload_n hx hb dX12_highest_31 rfl (lv_at hl 2 rfl) ?_
        refine q_getC E hC23 g0 fa_RX12_35 uc dX12_highest_32 ?_
        refine lv_iconst (v := 1) hx hb dX12_highest_35 rfl ?_
        refine q_cald E hC23 (lo := 0) (hi := 6) gca (a := 1) (show (1 : Int32).toInt = 1 from by decide) (by omega) (by omega) (cr_c0 (by omega) (by omega)) dX12_highest_36 (fun v31 ev31 lv31 uv31 => ?_)
        refine q_icmp_ge hx hb (a := z28) (b := v31.toInt) ev28 rfl (tgt := 95) dX12_highest_37 rfl (fun c32 => ?_) (fun c32 => ?_)
        · refine lv_iload_n hx hb dX12_highest_95 rfl (lv_at hl 1 rfl) ?_
          exact ret v29 H23 locs30 _ _ dX12_highest_96 ⟨hKp23, trivial⟩ hC23 hS30
        · refine lv_iconst (v := 0) hx hb dX12_highest_40 rfl ?_
          refine lv_istore hx hb dX12_highest_41 hl (by decide) rfl (fun ls hl => ?_)
          replace hl : lv_has ls 5 [(4, .int 0), (3, .int v28), (2, .int v29), (0, .ref h0), (1, .int p1)] := hl
          have L43 : ∀ (n35 : Nat) (locs35 : List Loc) (v33 : Int32) (z33 : Int) (v34 : Int32) (z34 : Int) (ls : Array Slot), (6 - z33).toNat < n35 → v33.toInt = z33 → v34.toInt = z34 → z33 ≤ 6 → 0 ≤ z33 → va_S (AΓ Γ) H0 H23 locs35 → lv_has ls 5 [(4, .int v33), (3, .int v28), (2, .int v34), (0, .ref h0), (1, .int p1)] → W p l e (rmL 1) s m args below meth c H23 locs35 0 0 Qz (F0 m 43 ls []) := by
            intro n35
            induction n35 with
            | zero => intro locs35 v33 z33 v34 z34 ls hm35 ev33 ev34 iv35_0 iv35_1 hS35 hl; exact absurd hm35 (Nat.not_lt_zero _)
            | succ n35 ih35 =>
              intro locs35 v33 z33 v34 z34 ls hm35 ev33 ev34 iv35_0 iv35_1 hS35 hl
              refine lv_iload hx hb dX12_highest_43 (lv_at hl 0 rfl) ?_
              refine lv_aload_n hx hb dX12_highest_45 rfl (lv_at hl 3 rfl) ?_
              refine q_getC E hC23 g0 fa_RX12_35 uc dX12_highest_46 ?_
              refine lv_iconst (v := 0) hx hb dX12_highest_49 rfl ?_
              refine q_cald E hC23 (lo := 0) (hi := 6) gca (a := 0) (show (0 : Int32).toInt = 0 from by decide) (by omega) (by omega) (cr_c0 (by omega) (by omega)) dX12_highest_50 (fun v36 ev36 lv36 uv36 => ?_)
              refine q_icmp_ge hx hb (a := z33) (b := v36.toInt) ev33 rfl (tgt := 89) dX12_highest_51 rfl (fun c37 => ?_) (fun c37 => ?_)
              · obtain ⟨v38, ev38⟩ : ∃ z, z = v28 + Int32.ofInt 1 := ⟨_, rfl⟩
                have ev38i : v38.toInt = (z28 + 1) := i_add ev38 ev28 (by decide) (by omega) (by omega)
                refine lv_iinc hx hb dX12_highest_89 hl (k := 1) rfl ev38.symm (by decide) rfl (fun ls hl => ?_)
                replace hl : lv_has ls 5 [(3, .int v38), (4, .int v33), (2, .int v34), (0, .ref h0), (1, .int p1)] := hl
                refine lv_goto (tgt := 30) hx hb dX12_highest_92 rfl ?_
                exact ih30 locs35 v38 ((z28 + 1)) v34 (z34) ls (by omega) ev38i ev34 (by omega) (by omega) hS35 (lv_sub hl [0, 2, 3, 4] rfl)
              · refine lv_aload_n hx hb dX12_highest_54 rfl (lv_at hl 3 rfl) ?_
                refine lv_iload hx hb dX12_highest_55 (lv_at hl 0 rfl) ?_
                refine q_goIp (q_runV (As := [.int v33]) (rest := []) E hC23 hS35 (m_X12_halfOf l X Γ H23 hC23 h0 g0 v33 (a1 := z33) ev33 ca gca uc) cw_X12_halfOf cl_RX12_270 g0 ⟨rfl, rfl⟩ rfl hl.1 rfl (Nat.zero_le _) (by decide) dX12_highest_57) hS35 (fun v39 locs39 hr39 hS39 => ?_)
                obtain ⟨f39_0, f39_1⟩ := hr39
                refine lv_iload_n hx hb dX12_highest_60 rfl (lv_at hl 4 rfl) ?_
                refine q_icmp_ne hx hb (a := v39.toInt) (b := a1) rfl e1 (tgt := 81) dX12_highest_61 rfl (fun c40 => ?_) (fun c40 => ?_)
                · refine lv_iload_n hx hb dX12_highest_81 rfl (lv_at hl 2 rfl) ?_
                  refine lv_istore_n hx hb dX12_highest_82 rfl hl (by decide) rfl (fun ls hl => ?_)
                  replace hl : lv_has ls 5 [(2, .int v34), (4, .int v33), (3, .int v28), (0, .ref h0), (1, .int p1)] := hl
                  obtain ⟨v41, ev41⟩ : ∃ z, z = v33 + Int32.ofInt 1 := ⟨_, rfl⟩
                  have ev41i : v41.toInt = (z33 + 1) := i_add ev41 ev33 (by decide) (by omega) (by omega)
                  refine lv_iinc hx hb dX12_highest_83 hl (k := 1) rfl ev41.symm (by decide) rfl (fun ls hl => ?_)
                  replace hl : lv_has ls 5 [(4, .int v41), (2, .int v34), (3, .int v28), (0, .ref h0), (1, .int p1)] := hl
                  refine lv_goto (tgt := 43) hx hb dX12_highest_86 rfl ?_
                  exact ih35 locs39 v41 ((z33 + 1)) v34 (z34) ls (by omega) ev41i ev34 (by omega) (by omega) hS39 (lv_sub hl [0, 2, 1, 3, 4] rfl)
                · refine lv_iload_n hx hb dX12_highest_64 rfl (lv_at hl 2 rfl) ?_
                  refine lv_aload_n hx hb dX12_highest_65 rfl (lv_at hl 3 rfl) ?_
                  refine lv_iload hx hb dX12_highest_66 (lv_at hl 0 rfl) ?_
                  refine lv_iload_n hx hb dX12_highest_68 rfl (lv_at hl 1 rfl) ?_
                  refine q_goIp (q_runS (As := [.int v33, .int v28]) (rest := [.ref h0, .int v34]) E hS39 (m_X12_at2 l X Γ H23 hC23 v33 (a0 := z33) ev33 v28 (a1 := z28) ev28 (by omega) (by omega) (by omega) (by omega)) cw_X12_at2 cl_RX12_292 rfl hl.1 rfl (show _ ≤ _ from by simp [Value.category]) (by decide) dX12_highest_69) hS39 (fun v42 locs42 hr42 hS42 => ?_)
                  have f42_0 := hr42
                  refine q_goIp (q_runV (As := [.int v42]) (rest := [.int v34]) E hC23 hS42 (m_X12_topOf l X Γ H23 hC23 h0 g0 v42 (a1 := v42.toInt) rfl ca gca uc (by omega) (by omega)) cw_X12_topOf cl_RX12_359 g0 ⟨rfl, rfl⟩ rfl hl.1 rfl (show _ ≤ _ from by simp [Value.category]) (by decide) dX12_highest_72) hS42 (fun v43 locs43 hr43 hS43 => ?_)
                  obtain ⟨f43_0, f43_1, f43_2⟩ := hr43
                  refine q_mmax E hl.1 w_1731 mathw_max (a := z34) (b := v43.toInt) ev34 rfl (by decide) (Nat.zero_le _) dX12_highest_75 (fun v44 mv44a mv44b mv44c => ?_)
                  refine lv_goto (tgt := 82) hx hb dX12_highest_78 rfl ?_
                  refine lv_istore_n hx hb dX12_highest_82 rfl hl (by decide) rfl (fun ls hl => ?_)
                  replace hl : lv_has ls 5 [(2, .int v44), (4, .int v33), (3, .int v28), (0, .ref h0), (1, .int p1)] := hl
                  obtain ⟨v45, ev45⟩ : ∃ z, z = v33 + Int32.ofInt 1 := ⟨_, rfl⟩
                  have ev45i : v45.toInt = (z33 + 1) := i_add ev45 ev33 (by decide) (by omega) (by omega)
                  refine lv_iinc hx hb dX12_highest_83 hl (k := 1) rfl ev45.symm (by decide) rfl (fun ls hl => ?_)
                  replace hl : lv_has ls 5 [(4, .int v45), (2, .int v44), (3, .int v28), (0, .ref h0), (1, .int p1)] := hl
                  refine lv_goto (tgt := 43) hx hb dX12_highest_86 rfl ?_
                  exact ih35 locs43 v45 ((z33 + 1)) v44 (v44.toInt) ls (by omega) ev45i rfl (by omega) (by omega) hS43 (lv_sub hl [0, 2, 1, 3, 4] rfl)
          exact L43 _ locs30 0 0 v29 z29 ls (Nat.lt_succ_self _) (by decide) ev29 (by omega) (by omega) hS30 hl
    exact L30 _ locs26 0 0 0 0 ls (Nat.lt_succ_self _) (by decide) (by decide) (by omega) (by omega) hS26 hl
  · refine q_if_ne hx hb (a := 0) (by decide) (tgt := 26) dX12_highest_17 rfl (fun c46 => absurd c46 (by omega)) (fun c46 => ?_)
    refine lv_aload_n hx hb dX12_highest_20 rfl (lv_at hl 0 rfl) ?_
    refine lv_iconst (v := 5) hx hb dX12_highest_21 rfl ?_
    refine q_goI (q_runV (As := [.int 5]) (rest := []) E hC23 hS26 (m_X12_refuse l X Γ H23 hC23 h0 g0 5 (a1 := 5) (by decide) ca gca uc) cw_X12_refuse cl_RX12_298 g0 ⟨rfl, rfl⟩ rfl hl.1 rfl (Nat.zero_le _) (by decide) dX12_highest_22) hS26 (fun v47 H47 locs47 hr47 hC47 hS47 => ?_)
    obtain ⟨hp47, hr47⟩ := hr47
    have hKp47 := hKp23.tr (hp47.mono rfl)
    have f47_0 := hr47
    exact ret v47 H47 locs47 _ _ dX12_highest_25 ⟨hKp47, trivial⟩ hC47 hS47
set_option maxRecDepth 100000 in
set_option maxHeartbeats 4000000 in
theorem m_X12_steepest (l : Launch) (X : xW) (Γ : Nat → Option Nat) (H0 : Heap) (hC0 : Conf X Γ H0) (h0 : Nat) (g0 : Γ h0 = some 11) (ca : Nat) (gca : Γ ca = some 64) (uc : ∀ a, Γ a = some 64 → a = ca) : Ctr l X Γ yX12_steepest cX12_steepest 4 (some .int) 1 [.ref h0] H0 (QI X Γ (fun v H1 => Kp X Γ [1, 6, 7, 8, 9, 10, 11, 12, 14, 15, 16, 17, 19, 22, 24, 26, 28] H0 H1 ∧ (True))) := by
  refine q_enterI (own := "SnowFortsModel") (by decide) rfl (Nat.le_of_ble_eq_true rfl) ?_
  intro p e s m args below meth c ls Qz E hl ret hS0
  have hx := E.1; have hb := E.2.1
  have hKp0 : Kp X Γ [1, 6, 7, 8, 9, 10, 11, 12, 14, 15, 16, 17, 19, 22, 24, 26, 28] H0 H0 := Kp.rf
  have hl : lv_has ls 4 [(0, .ref h0)] := hl
  refine lv_aload_n hx hb dX12_steepest_0 rfl (lv_at hl 0 rfl) ?_
  refine lv_iconst (v := 0) hx hb dX12_steepest_1 rfl ?_
  refine q_put E hC0 hS0 g0 fp_RX12_69 tv_F rfl rfl dX12_steepest_2 (fun H21 locs21 hC21 hS21 U21 => ?_)
  have hKp21 := Kp.upO E g0 fp_RX12_69 rfl U21 hKp0
  have e22 := up_I U21
  refine lv_aload_n hx hb dX12_steepest_5 rfl (lv_at hl 0 rfl) ?_
  refine lv_iconst (v := 0) hx hb dX12_steepest_6 rfl ?_
  refine q_put E hC21 hS21 g0 fp_RX12_72 tv_F rfl rfl dX12_steepest_7 (fun H23 locs23 hC23 hS23 U23 => ?_)
  have hKp23 := Kp.upO E g0 fp_RX12_72 rfl U23 hKp21
  have e24 := up_I U23
  refine lv_iconst (v := 0) hx hb dX12_steepest_10 rfl ?_
  refine lv_istore_n hx hb dX12_steepest_11 rfl hl (by decide) rfl (fun ls hl => ?_)
  replace hl : lv_has ls 4 [(1, .int 0), (0, .ref h0)] := hl
  refine lv_iconst (v := 0) hx hb dX12_steepest_12 rfl ?_
  refine lv_istore_n hx hb dX12_steepest_13 rfl hl (by decide) rfl (fun ls hl => ?_)
  replace hl : lv_has ls 4 [(2, .int 0), (1, .int 0), (0, .ref h0)] := hl
  have L14 : ∀ (n27 : Nat) (locs27 : List Loc) (v25 : Int32) (z25 : Int) (v26 : Int32) (z26 : Int) (ls : Array Slot), (6 - z25).toNat < n27 → v25.toInt = z25 → v26.toInt = z26 → z25 ≤ 6 → 0 ≤ z25 → va_S (AΓ Γ) H0 H23 locs27 → lv_has ls 4 [(2, .int v25), (1, .int v26), (0, .ref h0)] → W p l e (rmL 1) s m args below meth c H23 locs27 0 0 Qz (F0 m 14 ls []) := by
    intro n27
    induction n27 with
    | zero => intro locs27 v25 z25 v26 z26 ls hm27 ev25 ev26 iv27_0 iv27_1 hS27 hl; exact absurd hm27 (Nat.not_lt_zero _)
    | succ n27 ih27 =>
      intro locs27 v25 z25 v26 z26 ls hm27 ev25 ev26 iv27_0 iv27_1 hS27 hl
      refine lv_iload_n hx hb dX12_steepest_14 rfl (lv_at hl 0 rfl) ?_
      refine lv_aload_n hx hb dX12_steepest_15 rfl (lv_at hl 2 rfl) ?_
      refine q_getC E hC23 g0 fa_RX12_35 uc dX12_steepest_16 ?_
      refine lv_iconst (v := 1) hx hb dX12_steepest_19 rfl ?_
      refine q_cald E hC23 (lo := 0) (hi := 6) gca (a := 1) (show (1 : Int32).toInt = 1 from by decide) (by omega) (by omega) (cr_c0 (by omega) (by omega)) dX12_steepest_20 (fun v28 ev28 lv28 uv28 => ?_)
      refine q_icmp_ge hx hb (a := z25) (b := v28.toInt) ev25 rfl (tgt := 114) dX12_steepest_21 rfl (fun c29 => ?_) (fun c29 => ?_)
      · refine lv_iload_n hx hb dX12_steepest_114 rfl (lv_at hl 1 rfl) ?_
        exact ret v26 H23 locs27 _ _ dX12_steepest_115 ⟨hKp23, trivial⟩ hC23 hS27
      · refine lv_iconst (v := 0) hx hb dX12_steepest_24 rfl ?_
        refine lv_istore_n hx hb dX12_steepest_25 rfl hl (by decide) rfl (fun ls hl => ?_)
        replace hl : lv_has ls 4 [(3, .int 0), (2, .int v25), (1, .int v26), (0, .ref h0)] := hl
        have L26 : ∀ (n32 : Nat) (locs32 : List Loc) (v30 : Int32) (z30 : Int) (v31 : Int32) (z31 : Int) (ls : Array Slot), (6 - z30).toNat < n32 → v30.toInt = z30 → v31.toInt = z31 → z30 ≤ 6 → 0 ≤ z30 → va_S (AΓ Γ) H0 H23 locs32 → lv_has ls 4 [(3, .int v30), (2, .int v25), (1, .int v31), (0, .ref h0)] → W p l e (rmL 1) s m args below meth c H23 locs32 0 0 Qz (F0 m 26 ls []) := by
          intro n32
          induction n32 with
          | zero => intro locs32 v30 z30 v31 z31 ls hm32 ev30 ev31 iv32_0 iv32_1 hS32 hl; exact absurd hm32 (Nat.not_lt_zero _)
          | succ n32 ih32 =>
            intro locs32 v30 z30 v31 z31 ls hm32 ev30 ev31 iv32_0 iv32_1 hS32 hl
            refine lv_iload_n hx hb dX12_steepest_26 rfl (lv_at hl 0 rfl) ?_
            refine lv_aload_n hx hb dX12_steepest_27 rfl (lv_at hl 3 rfl) ?_
            refine q_getC E hC23 g0 fa_RX12_35 uc dX12_steepest_28 ?_
            refine lv_iconst (v := 0) hx hb dX12_steepest_31 rfl ?_
            refine q_cald E hC23 (lo := 0) (hi := 6) gca (a := 0) (show (0 : Int32).toInt = 0 from by decide) (by omega) (by omega) (cr_c0 (by omega) (by omega)) dX12_steepest_32 (fun v33 ev33 lv33 uv33 => ?_)
            refine q_icmp_ge hx hb (a := z30) (b := v33.toInt) ev30 rfl (tgt := 108) dX12_steepest_33 rfl (fun c34 => ?_) (fun c34 => ?_)
            · obtain ⟨v35, ev35⟩ : ∃ z, z = v25 + Int32.ofInt 1 := ⟨_, rfl⟩
              have ev35i : v35.toInt = (z25 + 1) := i_add ev35 ev25 (by decide) (by omega) (by omega)
              refine lv_iinc hx hb dX12_steepest_108 hl (k := 1) rfl ev35.symm (by decide) rfl (fun ls hl => ?_)
              replace hl : lv_has ls 4 [(2, .int v35), (3, .int v30), (1, .int v31), (0, .ref h0)] := hl
              refine lv_goto (tgt := 14) hx hb dX12_steepest_111 rfl ?_
              exact ih27 locs32 v35 ((z25 + 1)) v31 (z31) ls (by omega) ev35i ev31 (by omega) (by omega) hS32 (lv_sub hl [0, 2, 3] rfl)
            · refine lv_iload_n hx hb dX12_steepest_36 rfl (lv_at hl 0 rfl) ?_
              refine q_if_le hx hb (a := z30) ev30 (tgt := 69) dX12_steepest_37 rfl (fun c36 => ?_) (fun c36 => ?_)
              · refine lv_iload_n hx hb dX12_steepest_69 rfl (lv_at hl 1 rfl) ?_
                refine q_if_le hx hb (a := z25) ev25 (tgt := 102) dX12_steepest_70 rfl (fun c37 => ?_) (fun c37 => ?_)
                · obtain ⟨v38, ev38⟩ : ∃ z, z = v30 + Int32.ofInt 1 := ⟨_, rfl⟩
                  have ev38i : v38.toInt = (z30 + 1) := i_add ev38 ev30 (by decide) (by omega) (by omega)
                  refine lv_iinc hx hb dX12_steepest_102 hl (k := 0) rfl ev38.symm (by decide) rfl (fun ls hl => ?_)
                  replace hl : lv_has ls 4 [(3, .int v38), (2, .int v25), (1, .int v31), (0, .ref h0)] := hl
                  refine lv_goto (tgt := 26) hx hb dX12_steepest_105 rfl ?_
                  exact ih32 locs32 v38 ((z30 + 1)) v31 (z31) ls (by omega) ev38i ev31 (by omega) (by omega) hS32 hl
                · refine lv_iload_n hx hb dX12_steepest_73 rfl (lv_at hl 2 rfl) ?_
                  refine lv_aload_n hx hb dX12_steepest_74 rfl (lv_at hl 3 rfl) ?_
                  refine lv_iload_n hx hb dX12_steepest_75 rfl (lv_at hl 0 rfl) ?_
                  refine lv_iload_n hx hb dX12_steepest_76 rfl (lv_at hl 1 rfl) ?_
                  refine q_goIp (q_runS (As := [.int v30, .int v25]) (rest := [.ref h0, .int v31]) E hS32 (m_X12_at2 l X Γ H23 hC23 v30 (a0 := z30) ev30 v25 (a1 := z25) ev25 (by omega) (by omega) (by omega) (by omega)) cw_X12_at2 cl_RX12_292 rfl hl.1 rfl (show _ ≤ _ from by simp [Value.category]) (by decide) dX12_steepest_77) hS32 (fun v39 locs39 hr39 hS39 => ?_)
                  have f39_0 := hr39
                  refine q_goIp (q_runV (As := [.int v39]) (rest := [.int v31]) E hC23 hS39 (m_X12_topOf l X Γ H23 hC23 h0 g0 v39 (a1 := v39.toInt) rfl ca gca uc (by omega) (by omega)) cw_X12_topOf cl_RX12_359 g0 ⟨rfl, rfl⟩ rfl hl.1 rfl (show _ ≤ _ from by simp [Value.category]) (by decide) dX12_steepest_80) hS39 (fun v40 locs40 hr40 hS40 => ?_)
                  obtain ⟨f40_0, f40_1, f40_2⟩ := hr40
                  refine lv_aload_n hx hb dX12_steepest_83 rfl (lv_at hl 3 rfl) ?_
                  refine lv_iload_n hx hb dX12_steepest_84 rfl (lv_at hl 0 rfl) ?_
                  refine lv_iload_n hx hb dX12_steepest_85 rfl (lv_at hl 1 rfl) ?_
                  refine lv_iconst (v := 1) hx hb dX12_steepest_86 rfl ?_
                  refine lv_isub hx hb dX12_steepest_87 (lv_topi (fun v41 ev41 => ?_))
                  have ev41i : v41.toInt = (z25 - 1) := i_sub ev41 ev25 (by decide) (by omega) (by omega)
                  refine q_goIp (q_runS (As := [.int v30, .int v41]) (rest := [.ref h0, .int v40, .int v31]) E hS40 (m_X12_at2 l X Γ H23 hC23 v30 (a0 := z30) ev30 v41 (a1 := (z25 - 1)) ev41i (by omega) (by omega) (by omega) (by omega)) cw_X12_at2 cl_RX12_292 rfl hl.1 rfl (show _ ≤ _ from by simp [Value.category]) (by decide) dX12_steepest_88) hS40 (fun v42 locs42 hr42 hS42 => ?_)
                  have f42_0 := hr42
                  refine q_goIp (q_runV (As := [.int v42]) (rest := [.int v40, .int v31]) E hC23 hS42 (m_X12_topOf l X Γ H23 hC23 h0 g0 v42 (a1 := v42.toInt) rfl ca gca uc (by omega) (by omega)) cw_X12_topOf cl_RX12_359 g0 ⟨rfl, rfl⟩ rfl hl.1 rfl (show _ ≤ _ from by simp [Value.category]) (by decide) dX12_steepest_91) hS42 (fun v43 locs43 hr43 hS43 => ?_)
                  obtain ⟨f43_0, f43_1, f43_2⟩ := hr43
                  refine lv_isub hx hb dX12_steepest_94 (lv_topi (fun v44 ev44 => ?_))
                  have ev44i : v44.toInt = (v40.toInt - v43.toInt) := i_sub ev44 rfl rfl (by omega) (by omega)
                  refine q_mabs E hl.1 w_1822 mathw_abs (by decide) (show _ ≤ _ from by simp [Value.category]) dX12_steepest_95 (fun v45 => ?_)
                  refine q_mmax E hl.1 w_1731 mathw_max (a := z31) (b := v45.toInt) ev31 rfl (by decide) (Nat.zero_le _) dX12_steepest_98 (fun v46 mv46a mv46b mv46c => ?_)
                  refine lv_istore_n hx hb dX12_steepest_101 rfl hl (by decide) rfl (fun ls hl => ?_)
                  replace hl : lv_has ls 4 [(1, .int v46), (3, .int v30), (2, .int v25), (0, .ref h0)] := hl
                  obtain ⟨v47, ev47⟩ : ∃ z, z = v30 + Int32.ofInt 1 := ⟨_, rfl⟩
                  have ev47i : v47.toInt = (z30 + 1) := i_add ev47 ev30 (by decide) (by omega) (by omega)
                  refine lv_iinc hx hb dX12_steepest_102 hl (k := 1) rfl ev47.symm (by decide) rfl (fun ls hl => ?_)
                  replace hl : lv_has ls 4 [(3, .int v47), (1, .int v46), (2, .int v25), (0, .ref h0)] := hl
                  refine lv_goto (tgt := 26) hx hb dX12_steepest_105 rfl ?_
                  exact ih32 locs43 v47 ((z30 + 1)) v46 (v46.toInt) ls (by omega) ev47i rfl (by omega) (by omega) hS43 (lv_sub hl [0, 2, 1, 3] rfl)
              · refine lv_iload_n hx hb dX12_steepest_40 rfl (lv_at hl 2 rfl) ?_
                refine lv_aload_n hx hb dX12_steepest_41 rfl (lv_at hl 3 rfl) ?_
                refine lv_iload_n hx hb dX12_steepest_42 rfl (lv_at hl 0 rfl) ?_
                refine lv_iload_n hx hb dX12_steepest_43 rfl (lv_at hl 1 rfl) ?_
                refine q_goIp (q_runS (As := [.int v30, .int v25]) (rest := [.ref h0, .int v31]) E hS32 (m_X12_at2 l X Γ H23 hC23 v30 (a0 := z30) ev30 v25 (a1 := z25) ev25 (by omega) (by omega) (by omega) (by omega)) cw_X12_at2 cl_RX12_292 rfl hl.1 rfl (show _ ≤ _ from by simp [Value.category]) (by decide) dX12_steepest_44) hS32 (fun v48 locs48 hr48 hS48 => ?_)
                have f48_0 := hr48
                refine q_goIp (q_runV (As := [.int v48]) (rest := [.int v31]) E hC23 hS48 (m_X12_topOf l X Γ H23 hC23 h0 g0 v48 (a1 := v48.toInt) rfl ca gca uc (by omega) (by omega)) cw_X12_topOf cl_RX12_359 g0 ⟨rfl, rfl⟩ rfl hl.1 rfl (show _ ≤ _ from by simp [Value.category]) (by decide) dX12_steepest_47) hS48 (fun v49 locs49 hr49 hS49 => ?_)
                obtain ⟨f49_0, f49_1, f49_2⟩ := hr49
                refine lv_aload_n hx hb dX12_steepest_50 rfl (lv_at hl 3 rfl) ?_
                refine lv_iload_n hx hb dX12_steepest_51 rfl (lv_at hl 0 rfl) ?_
                refine lv_iconst (v := 1) hx hb dX12_steepest_52 rfl ?_
                refine lv_isub hx hb dX12_steepest_53 (lv_topi (fun v50 ev50 => ?_))
                have ev50i : v50.toInt = (z30 - 1) := i_sub ev50 ev30 (by decide) (by omega) (by omega)
                refine lv_iload_n hx hb dX12_steepest_54 rfl (lv_at hl 1 rfl) ?_
                refine q_goIp (q_runS (As := [.int v50, .int v25]) (rest := [.ref h0, .int v49, .int v31]) E hS49 (m_X12_at2 l X Γ H23 hC23 v50 (a0 := (z30 - 1)) ev50i v25 (a1 := z25) ev25 (by omega) (by omega) (by omega) (by omega)) cw_X12_at2 cl_RX12_292 rfl hl.1 rfl (show _ ≤ _ from by simp [Value.category]) (by decide) dX12_steepest_55) hS49 (fun v51 locs51 hr51 hS51 => ?_)
                have f51_0 := hr51
                refine q_goIp (q_runV (As := [.int v51]) (rest := [.int v49, .int v31]) E hC23 hS51 (m_X12_topOf l X Γ H23 hC23 h0 g0 v51 (a1 := v51.toInt) rfl ca gca uc (by omega) (by omega)) cw_X12_topOf cl_RX12_359 g0 ⟨rfl, rfl⟩ rfl hl.1 rfl (show _ ≤ _ from by simp [Value.category]) (by decide) dX12_steepest_58) hS51 (fun v52 locs52 hr52 hS52 => ?_)
                obtain ⟨f52_0, f52_1, f52_2⟩ := hr52
                refine lv_isub hx hb dX12_steepest_61 (lv_topi (fun v53 ev53 => ?_))
                have ev53i : v53.toInt = (v49.toInt - v52.toInt) := i_sub ev53 rfl rfl (by omega) (by omega)
                refine q_mabs E hl.1 w_1822 mathw_abs (by decide) (show _ ≤ _ from by simp [Value.category]) dX12_steepest_62 (fun v54 => ?_)
                refine q_mmax E hl.1 w_1731 mathw_max (a := z31) (b := v54.toInt) ev31 rfl (by decide) (Nat.zero_le _) dX12_steepest_65 (fun v55 mv55a mv55b mv55c => ?_)
                refine lv_istore_n hx hb dX12_steepest_68 rfl hl (by decide) rfl (fun ls hl => ?_)
                replace hl : lv_has ls 4 [(1, .int v55), (3, .int v30), (2, .int v25), (0, .ref h0)] := hl
                refine lv_iload_n hx hb dX12_steepest_69 rfl (lv_at hl 2 rfl) ?_
                refine q_if_le hx hb (a := z25) ev25 (tgt := 102) dX12_steepest_70 rfl (fun c56 => ?_) (fun c56 => ?_)
                · obtain ⟨v57, ev57⟩ : ∃ z, z = v30 + Int32.ofInt 1 := ⟨_, rfl⟩
                  have ev57i : v57.toInt = (z30 + 1) := i_add ev57 ev30 (by decide) (by omega) (by omega)
                  refine lv_iinc hx hb dX12_steepest_102 hl (k := 1) rfl ev57.symm (by decide) rfl (fun ls hl => ?_)
                  replace hl : lv_has ls 4 [(3, .int v57), (1, .int v55), (2, .int v25), (0, .ref h0)] := hl
                  refine lv_goto (tgt := 26) hx hb dX12_steepest_105 rfl ?_
                  exact ih32 locs52 v57 ((z30 + 1)) v55 (v55.toInt) ls (by omega) ev57i rfl (by omega) (by omega) hS52 (lv_sub hl [0, 2, 1, 3] rfl)
                · refine lv_iload_n hx hb dX12_steepest_73 rfl (lv_at hl 0 rfl) ?_
                  refine lv_aload_n hx hb dX12_steepest_74 rfl (lv_at hl 3 rfl) ?_
                  refine lv_iload_n hx hb dX12_steepest_75 rfl (lv_at hl 1 rfl) ?_
                  refine lv_iload_n hx hb dX12_steepest_76 rfl (lv_at hl 2 rfl) ?_
                  refine q_goIp (q_runS (As := [.int v30, .int v25]) (rest := [.ref h0, .int v55]) E hS52 (m_X12_at2 l X Γ H23 hC23 v30 (a0 := z30) ev30 v25 (a1 := z25) ev25 (by omega) (by omega) (by omega) (by omega)) cw_X12_at2 cl_RX12_292 rfl hl.1 rfl (show _ ≤ _ from by simp [Value.category]) (by decide) dX12_steepest_77) hS52 (fun v58 locs58 hr58 hS58 => ?_)
                  have f58_0 := hr58
                  refine q_goIp (q_runV (As := [.int v58]) (rest := [.int v55]) E hC23 hS58 (m_X12_topOf l X Γ H23 hC23 h0 g0 v58 (a1 := v58.toInt) rfl ca gca uc (by omega) (by omega)) cw_X12_topOf cl_RX12_359 g0 ⟨rfl, rfl⟩ rfl hl.1 rfl (show _ ≤ _ from by simp [Value.category]) (by decide) dX12_steepest_80) hS58 (fun v59 locs59 hr59 hS59 => ?_)
                  obtain ⟨f59_0, f59_1, f59_2⟩ := hr59
                  refine lv_aload_n hx hb dX12_steepest_83 rfl (lv_at hl 3 rfl) ?_
                  refine lv_iload_n hx hb dX12_steepest_84 rfl (lv_at hl 1 rfl) ?_
                  refine lv_iload_n hx hb dX12_steepest_85 rfl (lv_at hl 2 rfl) ?_
                  refine lv_iconst (v := 1) hx hb dX12_steepest_86 rfl ?_
                  refine lv_isub hx hb dX12_steepest_87 (lv_topi (fun v60 ev60 => ?_))
                  have ev60i : v60.toInt = (z25 - 1) := i_sub ev60 ev25 (by decide) (by omega) (by omega)
                  refine q_goIp (q_runS (As := [.int v30, .int v60]) (rest := [.ref h0, .int v59, .int v55]) E hS59 (m_X12_at2 l X Γ H23 hC23 v30 (a0 := z30) ev30 v60 (a1 := (z25 - 1)) ev60i (by omega) (by omega) (by omega) (by omega)) cw_X12_at2 cl_RX12_292 rfl hl.1 rfl (show _ ≤ _ from by simp [Value.category]) (by decide) dX12_steepest_88) hS59 (fun v61 locs61 hr61 hS61 => ?_)
                  have f61_0 := hr61
                  refine q_goIp (q_runV (As := [.int v61]) (rest := [.int v59, .int v55]) E hC23 hS61 (m_X12_topOf l X Γ H23 hC23 h0 g0 v61 (a1 := v61.toInt) rfl ca gca uc (by omega) (by omega)) cw_X12_topOf cl_RX12_359 g0 ⟨rfl, rfl⟩ rfl hl.1 rfl (show _ ≤ _ from by simp [Value.category]) (by decide) dX12_steepest_91) hS61 (fun v62 locs62 hr62 hS62 => ?_)
                  obtain ⟨f62_0, f62_1, f62_2⟩ := hr62
                  refine lv_isub hx hb dX12_steepest_94 (lv_topi (fun v63 ev63 => ?_))
                  have ev63i : v63.toInt = (v59.toInt - v62.toInt) := i_sub ev63 rfl rfl (by omega) (by omega)
                  refine q_mabs E hl.1 w_1822 mathw_abs (by decide) (show _ ≤ _ from by simp [Value.category]) dX12_steepest_95 (fun v64 => ?_)
                  refine q_mmax E hl.1 w_1731 mathw_max (a := v55.toInt) (b := v64.toInt) rfl rfl (by decide) (Nat.zero_le _) dX12_steepest_98 (fun v65 mv65a mv65b mv65c => ?_)
                  refine lv_istore_n hx hb dX12_steepest_101 rfl hl (by decide) rfl (fun ls hl => ?_)
                  replace hl : lv_has ls 4 [(1, .int v65), (3, .int v30), (2, .int v25), (0, .ref h0)] := hl
                  obtain ⟨v66, ev66⟩ : ∃ z, z = v30 + Int32.ofInt 1 := ⟨_, rfl⟩
                  have ev66i : v66.toInt = (z30 + 1) := i_add ev66 ev30 (by decide) (by omega) (by omega)
                  refine lv_iinc hx hb dX12_steepest_102 hl (k := 1) rfl ev66.symm (by decide) rfl (fun ls hl => ?_)
                  replace hl : lv_has ls 4 [(3, .int v66), (1, .int v65), (2, .int v25), (0, .ref h0)] := hl
                  refine lv_goto (tgt := 26) hx hb dX12_steepest_105 rfl ?_
                  exact ih32 locs62 v66 ((z30 + 1)) v65 (v65.toInt) ls (by omega) ev66i rfl (by omega) (by omega) hS62 (lv_sub hl [0, 2, 1, 3] rfl)
        exact L26 _ locs27 0 0 v26 z26 ls (Nat.lt_succ_self _) (by decide) ev26 (by omega) (by omega) hS27 hl
  exact L14 _ locs23 0 0 0 0 ls (Nat.lt_succ_self _) (by decide) (by decide) (by omega) (by omega) hS23 hl
set_option maxRecDepth 100000 in
set_option maxHeartbeats 4000000 in
theorem m_X12_unlike (l : Launch) (X : xW) (Γ : Nat → Option Nat) (H0 : Heap) (hC0 : Conf X Γ H0) (h0 : Nat) (g0 : Γ h0 = some 11) (ca : Nat) (gca : Γ ca = some 64) (uc : ∀ a, Γ a = some 64 → a = ca) : Ctr l X Γ yX12_unlike cX12_unlike 4 (some .int) 1 [.ref h0] H0 (QI X Γ (fun v H1 => Kp X Γ [1, 6, 7, 8, 9, 10, 11, 12, 14, 15, 16, 17, 19, 22, 24, 26, 28] H0 H1 ∧ (True))) := by
  refine q_enterI (own := "SnowFortsModel") (by decide) rfl (Nat.le_of_ble_eq_true rfl) ?_
  intro p e s m args below meth c ls Qz E hl ret hS0
  have hx := E.1; have hb := E.2.1
  have hKp0 : Kp X Γ [1, 6, 7, 8, 9, 10, 11, 12, 14, 15, 16, 17, 19, 22, 24, 26, 28] H0 H0 := Kp.rf
  have hl : lv_has ls 4 [(0, .ref h0)] := hl
  refine lv_aload_n hx hb dX12_unlike_0 rfl (lv_at hl 0 rfl) ?_
  refine lv_iconst (v := 0) hx hb dX12_unlike_1 rfl ?_
  refine q_put E hC0 hS0 g0 fp_RX12_69 tv_F rfl rfl dX12_unlike_2 (fun H21 locs21 hC21 hS21 U21 => ?_)
  have hKp21 := Kp.upO E g0 fp_RX12_69 rfl U21 hKp0
  have e22 := up_I U21
  refine lv_aload_n hx hb dX12_unlike_5 rfl (lv_at hl 0 rfl) ?_
  refine lv_iconst (v := 0) hx hb dX12_unlike_6 rfl ?_
  refine q_put E hC21 hS21 g0 fp_RX12_72 tv_F rfl rfl dX12_unlike_7 (fun H23 locs23 hC23 hS23 U23 => ?_)
  have hKp23 := Kp.upO E g0 fp_RX12_72 rfl U23 hKp21
  have e24 := up_I U23
  refine lv_iconst (v := 0) hx hb dX12_unlike_10 rfl ?_
  refine lv_istore_n hx hb dX12_unlike_11 rfl hl (by decide) rfl (fun ls hl => ?_)
  replace hl : lv_has ls 4 [(1, .int 0), (0, .ref h0)] := hl
  refine lv_iconst (v := 0) hx hb dX12_unlike_12 rfl ?_
  refine lv_istore_n hx hb dX12_unlike_13 rfl hl (by decide) rfl (fun ls hl => ?_)
  replace hl : lv_has ls 4 [(2, .int 0), (1, .int 0), (0, .ref h0)] := hl
  have L14 : ∀ (n27 : Nat) (locs27 : List Loc) (v25 : Int32) (z25 : Int) (v26 : Int32) (z26 : Int) (ls : Array Slot), (6 - z25).toNat < n27 → v25.toInt = z25 → v26.toInt = z26 → z25 ≤ 6 → 0 ≤ z25 → va_S (AΓ Γ) H0 H23 locs27 → lv_has ls 4 [(2, .int v25), (1, .int v26), (0, .ref h0)] → W p l e (rmL 1) s m args below meth c H23 locs27 0 0 Qz (F0 m 14 ls []) := by
    intro n27
    induction n27 with
    | zero => intro locs27 v25 z25 v26 z26 ls hm27 ev25 ev26 iv27_0 iv27_1 hS27 hl; exact absurd hm27 (Nat.not_lt_zero _)
    | succ n27 ih27 =>
      intro locs27 v25 z25 v26 z26 ls hm27 ev25 ev26 iv27_0 iv27_1 hS27 hl
      refine lv_iload_n hx hb dX12_unlike_14 rfl (lv_at hl 0 rfl) ?_
      refine lv_aload_n hx hb dX12_unlike_15 rfl (lv_at hl 2 rfl) ?_
      refine q_getC E hC23 g0 fa_RX12_35 uc dX12_unlike_16 ?_
      refine lv_iconst (v := 1) hx hb dX12_unlike_19 rfl ?_
      refine q_cald E hC23 (lo := 0) (hi := 6) gca (a := 1) (show (1 : Int32).toInt = 1 from by decide) (by omega) (by omega) (cr_c0 (by omega) (by omega)) dX12_unlike_20 (fun v28 ev28 lv28 uv28 => ?_)
      have m29 : (sI H23 ca (1 : Int).toNat).toInt = v28.toInt := congrArg Int32.toInt ev28
      refine q_icmp_ge hx hb (a := z25) (b := v28.toInt) ev25 rfl (tgt := 83) dX12_unlike_21 rfl (fun c30 => ?_) (fun c30 => ?_)
      · refine lv_iload_n hx hb dX12_unlike_83 rfl (lv_at hl 1 rfl) ?_
        exact ret v26 H23 locs27 _ _ dX12_unlike_84 ⟨hKp23, trivial⟩ hC23 hS27
      · refine lv_iconst (v := 0) hx hb dX12_unlike_24 rfl ?_
        refine lv_istore_n hx hb dX12_unlike_25 rfl hl (by decide) rfl (fun ls hl => ?_)
        replace hl : lv_has ls 4 [(3, .int 0), (2, .int v25), (1, .int v26), (0, .ref h0)] := hl
        have L26 : ∀ (n33 : Nat) (locs33 : List Loc) (v31 : Int32) (z31 : Int) (v32 : Int32) (z32 : Int) (ls : Array Slot), (6 - z31).toNat < n33 → v31.toInt = z31 → v32.toInt = z32 → 0 ≤ z31 → z31 ≤ 3 → va_S (AΓ Γ) H0 H23 locs33 → lv_has ls 4 [(3, .int v31), (2, .int v25), (1, .int v32), (0, .ref h0)] → W p l e (rmL 1) s m args below meth c H23 locs33 0 0 Qz (F0 m 26 ls []) := by
          intro n33
          induction n33 with
          | zero => intro locs33 v31 z31 v32 z32 ls hm33 ev31 ev32 iv33_0 iv33_1 hS33 hl; exact absurd hm33 (Nat.not_lt_zero _)
          | succ n33 ih33 =>
            intro locs33 v31 z31 v32 z32 ls hm33 ev31 ev32 iv33_0 iv33_1 hS33 hl
            refine lv_iconst (v := 2) hx hb dX12_unlike_26 rfl ?_
            refine lv_iload_n hx hb dX12_unlike_27 rfl (lv_at hl 0 rfl) ?_
            refine lv_imul hx hb dX12_unlike_28 (lv_topi (fun v34 ev34 => ?_))
            have ev34i : v34.toInt = (2 * z31) := i_mul ev34 (by decide) ev31 (by omega) (by omega)
            refine lv_aload_n hx hb dX12_unlike_29 rfl (lv_at hl 3 rfl) ?_
            refine q_getC E hC23 g0 fa_RX12_35 uc dX12_unlike_30 ?_
            refine lv_iconst (v := 0) hx hb dX12_unlike_33 rfl ?_
            refine q_cald E hC23 (lo := 0) (hi := 6) gca (a := 0) (show (0 : Int32).toInt = 0 from by decide) (by omega) (by omega) (cr_c0 (by omega) (by omega)) dX12_unlike_34 (fun v35 ev35 lv35 uv35 => ?_)
            have m36 : (sI H23 ca (0 : Int).toNat).toInt = v35.toInt := congrArg Int32.toInt ev35
            refine q_icmp_ge hx hb (a := (2 * z31)) (b := v35.toInt) ev34i rfl (tgt := 77) dX12_unlike_35 rfl (fun c37 => ?_) (fun c37 => ?_)
            · obtain ⟨v38, ev38⟩ : ∃ z, z = v25 + Int32.ofInt 1 := ⟨_, rfl⟩
              have ev38i : v38.toInt = (z25 + 1) := i_add ev38 ev25 (by decide) (by omega) (by omega)
              refine lv_iinc hx hb dX12_unlike_77 hl (k := 1) rfl ev38.symm (by decide) rfl (fun ls hl => ?_)
              replace hl : lv_has ls 4 [(2, .int v38), (3, .int v31), (1, .int v32), (0, .ref h0)] := hl
              refine lv_goto (tgt := 14) hx hb dX12_unlike_80 rfl ?_
              exact ih27 locs33 v38 ((z25 + 1)) v32 (z32) ls (by omega) ev38i ev32 (by omega) (by omega) hS33 (lv_sub hl [0, 2, 3] rfl)
            · refine lv_iload_n hx hb dX12_unlike_38 rfl (lv_at hl 2 rfl) ?_
              refine lv_aload_n hx hb dX12_unlike_39 rfl (lv_at hl 3 rfl) ?_
              refine lv_iload_n hx hb dX12_unlike_40 rfl (lv_at hl 0 rfl) ?_
              refine lv_iload_n hx hb dX12_unlike_41 rfl (lv_at hl 1 rfl) ?_
              refine q_goIp (q_runS (As := [.int v31, .int v25]) (rest := [.ref h0, .int v32]) E hS33 (m_X12_at2 l X Γ H23 hC23 v31 (a0 := z31) ev31 v25 (a1 := z25) ev25 (by omega) (by omega) (by omega) (by omega)) cw_X12_at2 cl_RX12_292 rfl hl.1 rfl (show _ ≤ _ from by simp [Value.category]) (by decide) dX12_unlike_42) hS33 (fun v39 locs39 hr39 hS39 => ?_)
              have f39_0 := hr39
              refine q_goIp (q_runV (As := [.int v39]) (rest := [.int v32]) E hC23 hS39 (m_X12_topOf l X Γ H23 hC23 h0 g0 v39 (a1 := v39.toInt) rfl ca gca uc (by omega) (by omega)) cw_X12_topOf cl_RX12_359 g0 ⟨rfl, rfl⟩ rfl hl.1 rfl (show _ ≤ _ from by simp [Value.category]) (by decide) dX12_unlike_45) hS39 (fun v40 locs40 hr40 hS40 => ?_)
              obtain ⟨f40_0, f40_1, f40_2⟩ := hr40
              refine lv_aload_n hx hb dX12_unlike_48 rfl (lv_at hl 3 rfl) ?_
              refine lv_aload_n hx hb dX12_unlike_49 rfl (lv_at hl 3 rfl) ?_
              refine lv_iload_n hx hb dX12_unlike_50 rfl (lv_at hl 0 rfl) ?_
              refine lv_iload_n hx hb dX12_unlike_51 rfl (lv_at hl 1 rfl) ?_
              refine q_goIp (q_runS (As := [.int v31, .int v25]) (rest := [.ref h0, .ref h0, .int v40, .int v32]) E hS40 (m_X12_at2 l X Γ H23 hC23 v31 (a0 := z31) ev31 v25 (a1 := z25) ev25 (by omega) (by omega) (by omega) (by omega)) cw_X12_at2 cl_RX12_292 rfl hl.1 rfl (show _ ≤ _ from by simp [Value.category]) (by decide) dX12_unlike_52) hS40 (fun v41 locs41 hr41 hS41 => ?_)
              have f41_0 := hr41
              refine q_goIp (q_runV (As := [.int v41]) (rest := [.ref h0, .int v40, .int v32]) E hC23 hS41 (m_X12_acrossOf l X Γ H23 hC23 h0 g0 v41 (a1 := v41.toInt) rfl ca gca uc (by omega) (by omega)) cw_X12_acrossOf cl_RX12_329 g0 ⟨rfl, rfl⟩ rfl hl.1 rfl (show _ ≤ _ from by simp [Value.category]) (by decide) dX12_unlike_55) hS41 (fun v42 locs42 hr42 hS42 => ?_)
              obtain ⟨f42_0, f42_1, f42_2⟩ := hr42
              refine q_goIp (q_runV (As := [.int v42]) (rest := [.int v40, .int v32]) E hC23 hS42 (m_X12_topOf l X Γ H23 hC23 h0 g0 v42 (a1 := v42.toInt) rfl ca gca uc (by omega) (by omega)) cw_X12_topOf cl_RX12_359 g0 ⟨rfl, rfl⟩ rfl hl.1 rfl (show _ ≤ _ from by simp [Value.category]) (by decide) dX12_unlike_58) hS42 (fun v43 locs43 hr43 hS43 => ?_)
              obtain ⟨f43_0, f43_1, f43_2⟩ := hr43
              refine q_icmp_eq hx hb (a := v40.toInt) (b := v43.toInt) rfl rfl (tgt := 68) dX12_unlike_61 rfl (fun c44 => ?_) (fun c44 => ?_)
              · refine lv_iconst (v := 0) hx hb dX12_unlike_68 rfl ?_
                refine lv_iadd hx hb dX12_unlike_69 (lv_topi (fun v45 ev45 => ?_))
                have c46 := i_rng v32; rw [show v32.toInt = z32 from ev32] at c46
                have ev45i : v45.toInt = (z32 + 0) := i_add ev45 ev32 (by decide) (by omega) (by omega)
                refine lv_istore_n hx hb dX12_unlike_70 rfl hl (by decide) rfl (fun ls hl => ?_)
                replace hl : lv_has ls 4 [(1, .int v45), (3, .int v31), (2, .int v25), (0, .ref h0)] := hl
                obtain ⟨v47, ev47⟩ : ∃ z, z = v31 + Int32.ofInt 1 := ⟨_, rfl⟩
                have ev47i : v47.toInt = (z31 + 1) := i_add ev47 ev31 (by decide) (by omega) (by omega)
                refine lv_iinc hx hb dX12_unlike_71 hl (k := 1) rfl ev47.symm (by decide) rfl (fun ls hl => ?_)
                replace hl : lv_has ls 4 [(3, .int v47), (1, .int v45), (2, .int v25), (0, .ref h0)] := hl
                refine lv_goto (tgt := 26) hx hb dX12_unlike_74 rfl ?_
                exact ih33 locs43 v47 ((z31 + 1)) v45 ((z32 + 0)) ls (by omega) ev47i ev45i (by omega) (by omega) hS43 (lv_sub hl [0, 2, 1, 3] rfl)
              · refine lv_iconst (v := 1) hx hb dX12_unlike_64 rfl ?_
                refine lv_goto (tgt := 69) hx hb dX12_unlike_65 rfl ?_
                refine lv_iadd hx hb dX12_unlike_69 (lv_topi (fun v48 ev48 => ?_))
                refine lv_istore_n hx hb dX12_unlike_70 rfl hl (by decide) rfl (fun ls hl => ?_)
                replace hl : lv_has ls 4 [(1, .int v48), (3, .int v31), (2, .int v25), (0, .ref h0)] := hl
                obtain ⟨v49, ev49⟩ : ∃ z, z = v31 + Int32.ofInt 1 := ⟨_, rfl⟩
                have ev49i : v49.toInt = (z31 + 1) := i_add ev49 ev31 (by decide) (by omega) (by omega)
                refine lv_iinc hx hb dX12_unlike_71 hl (k := 1) rfl ev49.symm (by decide) rfl (fun ls hl => ?_)
                replace hl : lv_has ls 4 [(3, .int v49), (1, .int v48), (2, .int v25), (0, .ref h0)] := hl
                refine lv_goto (tgt := 26) hx hb dX12_unlike_74 rfl ?_
                exact ih33 locs43 v49 ((z31 + 1)) v48 (v48.toInt) ls (by omega) ev49i rfl (by omega) (by omega) hS43 (lv_sub hl [0, 2, 1, 3] rfl)
        exact L26 _ locs27 0 0 v26 z26 ls (Nat.lt_succ_self _) (by decide) ev26 (by omega) (by omega) hS27 hl
  exact L14 _ locs23 0 0 0 0 ls (Nat.lt_succ_self _) (by decide) (by decide) (by omega) (by omega) hS23 hl
set_option maxRecDepth 100000 in
set_option maxHeartbeats 4000000 in
theorem m_X12_mayBe (l : Launch) (X : xW) (Γ : Nat → Option Nat) (H0 : Heap) (hC0 : Conf X Γ H0) (h0 : Nat) (g0 : Γ h0 = some 11) (p1 : Int32) {a1 : Int} (e1 : p1.toInt = a1) (p2 : Int32) {a2 : Int} (e2 : p2.toInt = a2) (ca : Nat) (gca : Γ ca = some 64) (uc : ∀ a, Γ a = some 64 → a = ca) (r0 : 0 ≤ a1) (r1 : a1 ≤ 35) : Ctr l X Γ yX12_mayBe cX12_mayBe 3 (some .boolean) 1 [.ref h0, .int p1, .int p2] H0 (QI X Γ (fun v H1 => H1 = H0 ∧ (v = 0 ∨ v = 1))) := by
  refine q_enterZ (own := "SnowFortsModel") (by decide) rfl (Nat.le_of_ble_eq_true rfl) ?_
  intro p e s m args below meth c ls Qz E hl ret hS0
  have hx := E.1; have hb := E.2.1
  have hl : lv_has ls 3 [(0, .ref h0), (1, .int p1), (2, .int p2)] := hl
  refine lv_iload_n hx hb dX12_mayBe_0 rfl (lv_at hl 2 rfl) ?_
  refine lv_aload_n hx hb dX12_mayBe_1 rfl (lv_at hl 0 rfl) ?_
  refine q_getC E hC0 g0 fa_RX12_35 uc dX12_mayBe_2 ?_
  refine lv_bipush (v := 62) hx hb dX12_mayBe_5 rfl ?_
  refine lv_iload_n hx hb dX12_mayBe_7 rfl (lv_at hl 1 rfl) ?_
  refine lv_iadd hx hb dX12_mayBe_8 (lv_topi (fun v21 ev21 => ?_))
  have ev21i : v21.toInt = (62 + a1) := i_add ev21 (by decide) e1 (by omega) (by omega)
  refine q_cald E hC0 (lo := 0) (hi := 99) gca (a := (62 + a1)) ev21i (by omega) (by omega) (cr_c26 (by omega) (by omega)) dX12_mayBe_9 (fun v22 ev22 lv22 uv22 => ?_)
  refine lv_isub hx hb dX12_mayBe_10 (lv_topi (fun v23 ev23 => ?_))
  refine lv_i2l (v := v23.toInt64) hx hb dX12_mayBe_11 rfl (lv_topl (fun v24 ev24 => ?_))
  have ev24i : v24.toInt = v23.toInt := l_ofi ev24.symm rfl
  refine lv_lconst (v := 0) hx hb dX12_mayBe_12 rfl ?_
  refine lv_ldc2 (v := 99) hx hb E.2.2.2.1 (E.2.2.2.2.1 _ w_1835) dX12_mayBe_13 ?_
  refine q_goIp (q_runS (As := [.long v24, .long 0, .long 99]) (rest := []) E hS0 (m_X12_isIn l X Γ H0 hC0 v24 (a0 := v23.toInt) ev24i 0 (a1 := 0) (show (0 : Int64).toInt = 0 from by decide) 99 (a2 := 99) (show (99 : Int64).toInt = 99 from by decide)) cw_X12_isIn cl_RX12_104 rfl hl.1 rfl (Nat.zero_le _) (by decide) dX12_mayBe_16) hS0 (fun v25 locs25 hr25 hS25 => ?_)
  rcases hr25 with ⟨rfl, f25a0, f25a1⟩ | ⟨rfl, f25b⟩
  · exact ret 1 H0 locs25 _ _ dX12_mayBe_19 (Or.inr rfl) ⟨rfl, Or.inr rfl⟩ hC0 hS25
  · exact ret 0 H0 locs25 _ _ dX12_mayBe_19 (Or.inl rfl) ⟨rfl, Or.inl rfl⟩ hC0 hS25
set_option maxRecDepth 100000 in
set_option maxHeartbeats 4000000 in
theorem m_X12_level (l : Launch) (X : xW) (Γ : Nat → Option Nat) (H0 : Heap) (hC0 : Conf X Γ H0) (h0 : Nat) (g0 : Γ h0 = some 11) (p1 : Int32) {a1 : Int} (e1 : p1.toInt = a1) (ca : Nat) (gca : Γ ca = some 64) (uc : ∀ a, Γ a = some 64 → a = ca) (hm0 : 2 ≤ (sI H0 ca (0 : Int).toNat).toInt) (hm1 : 1 ≤ (sI H0 ca (1 : Int).toNat).toInt) : Ctr l X Γ yX12_level cX12_level 15 (some .int) 2 [.ref h0, .int p1] H0 (QI X Γ (fun v H1 => Kp X Γ [1, 6, 7, 8, 9, 10, 11, 12, 14, 15, 16, 17, 19, 22, 24, 26, 28] H0 H1 ∧ (True))) := by
  refine q_enterI (own := "SnowFortsModel") (by decide) rfl (Nat.le_of_ble_eq_true rfl) ?_
  intro p e s m args below meth c ls Qz E hl ret hS0
  have hx := E.1; have hb := E.2.1
  have hKp0 : Kp X Γ [1, 6, 7, 8, 9, 10, 11, 12, 14, 15, 16, 17, 19, 22, 24, 26, 28] H0 H0 := Kp.rf
  have hl : lv_has ls 15 [(0, .ref h0), (1, .int p1)] := hl
  obtain ⟨v21, ev21⟩ : ∃ z, sI H0 ca (0 : Int).toNat = z := ⟨_, rfl⟩
  have m22 : (sI H0 ca (0 : Int).toNat).toInt = v21.toInt := congrArg Int32.toInt ev21
  obtain ⟨v23, ev23⟩ : ∃ z, sI H0 ca (1 : Int).toNat = z := ⟨_, rfl⟩
  have m24 : (sI H0 ca (1 : Int).toNat).toInt = v23.toInt := congrArg Int32.toInt ev23
  refine lv_aload_n hx hb dX12_level_0 rfl (lv_at hl 0 rfl) ?_
  refine lv_iconst (v := 0) hx hb dX12_level_1 rfl ?_
  refine q_put E hC0 hS0 g0 fp_RX12_69 tv_F rfl rfl dX12_level_2 (fun H25 locs25 hC25 hS25 U25 => ?_)
  have hKp25 := Kp.upO E g0 fp_RX12_69 rfl U25 hKp0
  have e26 := up_I U25
  refine lv_aload_n hx hb dX12_level_5 rfl (lv_at hl 0 rfl) ?_
  refine lv_iconst (v := 0) hx hb dX12_level_6 rfl ?_
  refine q_put E hC25 hS25 g0 fp_RX12_72 tv_F rfl rfl dX12_level_7 (fun H27 locs27 hC27 hS27 U27 => ?_)
  have hKp27 := Kp.upO E g0 fp_RX12_72 rfl U27 hKp25
  have e28 := up_I U27
  refine lv_iload_n hx hb dX12_level_10 rfl (lv_at hl 1 rfl) ?_
  refine lv_i2l (v := p1.toInt64) hx hb dX12_level_11 rfl (lv_topl (fun v29 ev29 => ?_))
  have ev29i : v29.toInt = a1 := l_ofi ev29.symm e1
  refine lv_lconst (v := 0) hx hb dX12_level_12 rfl ?_
  refine lv_lconst (v := 1) hx hb dX12_level_13 rfl ?_
  refine q_goIp (q_runS (As := [.long v29, .long 0, .long 1]) (rest := []) E hS27 (m_X12_isIn l X Γ H27 hC27 v29 (a0 := a1) ev29i 0 (a1 := 0) (show (0 : Int64).toInt = 0 from by decide) 1 (a2 := 1) (show (1 : Int64).toInt = 1 from by decide)) cw_X12_isIn cl_RX12_104 rfl hl.1 rfl (Nat.zero_le _) (by decide) dX12_level_14) hS27 (fun v30 locs30 hr30 hS30 => ?_)
  rcases hr30 with ⟨rfl, f30a0, f30a1⟩ | ⟨rfl, f30b⟩
  · refine q_if_ne hx hb (a := 1) (by decide) (tgt := 26) dX12_level_17 rfl (fun c31 => ?_) (fun c31 => absurd c31 (by omega))
    refine lv_aload_n hx hb dX12_level_26 rfl (lv_at hl 0 rfl) ?_
    refine q_getC E hC27 g0 fa_RX12_35 uc dX12_level_27 ?_
    refine lv_iconst (v := 0) hx hb dX12_level_30 rfl ?_
    have e33 := (up_nI (a' := ca) (j' := (0 : Int).toNat) U25 (ne_k gca g0 (by decide))).trans ev21
    have e34 := (up_nI (a' := ca) (j' := (0 : Int).toNat) U27 (ne_k gca g0 (by decide))).trans e33
    refine q_cald E hC27 (lo := 0) (hi := 6) gca (a := 0) (show (0 : Int32).toInt = 0 from by decide) (by omega) (by omega) (cr_c0 (by omega) (by omega)) dX12_level_31 (fun v32 ev32 lv32 uv32 => ?_)
    have qv32 := e34.symm.trans ev32; subst qv32
    refine lv_iconst (v := 2) hx hb dX12_level_32 rfl ?_
    refine lv_idiv hx hb dX12_level_33 (by decide) (lv_topi (fun v35 ev35 => ?_))
    have ev35i : v35.toInt = (v21.toInt / 2) := i_div ev35 rfl (by decide) (by omega) (by decide)
    refine lv_aload_n hx hb dX12_level_34 rfl (lv_at hl 0 rfl) ?_
    refine q_getC E hC27 g0 fa_RX12_35 uc dX12_level_35 ?_
    refine lv_iconst (v := 1) hx hb dX12_level_38 rfl ?_
    have e37 := (up_nI (a' := ca) (j' := (1 : Int).toNat) U25 (ne_k gca g0 (by decide))).trans ev23
    have e38 := (up_nI (a' := ca) (j' := (1 : Int).toNat) U27 (ne_k gca g0 (by decide))).trans e37
    refine q_cald E hC27 (lo := 0) (hi := 6) gca (a := 1) (show (1 : Int32).toInt = 1 from by decide) (by omega) (by omega) (cr_c0 (by omega) (by omega)) dX12_level_39 (fun v36 ev36 lv36 uv36 => ?_)
    have qv36 := e38.symm.trans ev36; subst qv36
    refine lv_imul hx hb dX12_level_40 (lv_topi (fun v39 ev39 => ?_))
    have bv39 := i_mulB ev39 ev35i rfl (by omega) (by omega) (by omega) (by omega)
    refine lv_istore_n hx hb dX12_level_41 rfl hl (by decide) rfl (fun ls hl => ?_)
    replace hl : lv_has ls 15 [(2, .int v39), (0, .ref h0), (1, .int p1)] := hl
    refine lv_aload_n hx hb dX12_level_42 rfl (lv_at hl 1 rfl) ?_
    refine lv_bipush (v := 26) hx hb dX12_level_43 rfl ?_
    refine lv_iload_n hx hb dX12_level_45 rfl (lv_at hl 2 rfl) ?_
    refine q_goIp (q_runV (As := [.int 26, .int p1]) (rest := []) E hC27 hS30 (m_X12_allOfHalf l X Γ H27 hC27 h0 g0 26 (a1 := 26) (by decide) p1 (a2 := a1) e1 ca gca uc (by omega) (by omega)) cw_X12_allOfHalf cl_RX12_307 g0 ⟨rfl, rfl⟩ rfl hl.1 rfl (Nat.zero_le _) (by decide) dX12_level_46) hS30 (fun v40 locs40 hr40 hS40 => ?_)
    refine lv_aload_n hx hb dX12_level_49 rfl (lv_at hl 1 rfl) ?_
    refine lv_bipush (v := 62) hx hb dX12_level_50 rfl ?_
    refine lv_iload_n hx hb dX12_level_52 rfl (lv_at hl 2 rfl) ?_
    refine q_goIp (q_runV (As := [.int 62, .int p1]) (rest := [.int v40]) E hC27 hS40 (m_X12_allOfHalf l X Γ H27 hC27 h0 g0 62 (a1 := 62) (by decide) p1 (a2 := a1) e1 ca gca uc (by omega) (by omega)) cw_X12_allOfHalf cl_RX12_307 g0 ⟨rfl, rfl⟩ rfl hl.1 rfl (show _ ≤ _ from by simp [Value.category]) (by decide) dX12_level_53) hS40 (fun v41 locs41 hr41 hS41 => ?_)
    refine lv_iadd hx hb dX12_level_56 (lv_topi (fun v42 ev42 => ?_))
    refine lv_istore_n hx hb dX12_level_57 rfl hl (by decide) rfl (fun ls hl => ?_)
    replace hl : lv_has ls 15 [(3, .int v42), (2, .int v39), (0, .ref h0), (1, .int p1)] := hl
    refine lv_iload_n hx hb dX12_level_58 rfl (lv_at hl 0 rfl) ?_
    refine lv_iload_n hx hb dX12_level_59 rfl (lv_at hl 1 rfl) ?_
    refine lv_idiv hx hb dX12_level_60 (i_nz rfl (by omega)) (lv_topi (fun v43 ev43 => ?_))
    refine lv_istore hx hb dX12_level_61 hl (by decide) rfl (fun ls hl => ?_)
    replace hl : lv_has ls 15 [(4, .int v43), (3, .int v42), (2, .int v39), (0, .ref h0), (1, .int p1)] := hl
    refine lv_iload_n hx hb dX12_level_63 rfl (lv_at hl 1 rfl) ?_
    refine lv_iload_n hx hb dX12_level_64 rfl (lv_at hl 2 rfl) ?_
    refine lv_irem hx hb dX12_level_65 (i_nz rfl (by omega)) (lv_topi (fun v44 ev44 => ?_))
    refine lv_istore hx hb dX12_level_66 hl (by decide) rfl (fun ls hl => ?_)
    replace hl : lv_has ls 15 [(5, .int v44), (4, .int v43), (3, .int v42), (2, .int v39), (0, .ref h0), (1, .int p1)] := hl
    refine lv_iconst (v := 0) hx hb dX12_level_68 rfl ?_
    refine lv_istore hx hb dX12_level_69 hl (by decide) rfl (fun ls hl => ?_)
    replace hl : lv_has ls 15 [(6, .int 0), (5, .int v44), (4, .int v43), (3, .int v42), (2, .int v39), (0, .ref h0), (1, .int p1)] := hl
    refine lv_iconst (v := 0) hx hb dX12_level_71 rfl ?_
    refine lv_istore hx hb dX12_level_72 hl (by decide) rfl (fun ls hl => ?_)
    replace hl : lv_has ls 15 [(7, .int 0), (6, .int 0), (5, .int v44), (4, .int v43), (3, .int v42), (2, .int v39), (0, .ref h0), (1, .int p1)] := hl
    refine lv_iconst (v := 0) hx hb dX12_level_74 rfl ?_
    refine lv_istore hx hb dX12_level_75 hl (by decide) rfl (fun ls hl => ?_)
    replace hl : lv_has ls 15 [(8, .int 0), (7, .int 0), (6, .int 0), (5, .int v44), (4, .int v43), (3, .int v42), (2, .int v39), (0, .ref h0), (1, .int p1)] := hl
    refine lv_iconst (v := 0) hx hb dX12_level_77 rfl ?_
    refine lv_istore hx hb dX12_level_78 hl (by decide) rfl (fun ls hl => ?_)
    replace hl : lv_has ls 15 [(9, .int 0), (8, .int 0), (7, .int 0), (6, .int 0), (5, .int v44), (4, .int v43), (3, .int v42), (2, .int v39), (0, .ref h0), (1, .int p1)] := hl
    refine lv_iconst (v := 0) hx hb dX12_level_80 rfl ?_
    refine lv_istore hx hb dX12_level_81 hl (by decide) rfl (fun ls hl => ?_)
    replace hl : lv_has ls 15 [(10, .int 0), (9, .int 0), (8, .int 0), (7, .int 0), (6, .int 0), (5, .int v44), (4, .int v43), (3, .int v42), (2, .int v39), (0, .ref h0), (1, .int p1)] := hl
    have L83 : ∀ (n50 : Nat) (H50 : Heap) (locs50 : List Loc) (v45 : Int32) (z45 : Int) (v46 : Int32) (z46 : Int) (v47 : Int32) (z47 : Int) (v48 : Int32) (z48 : Int) (v49 : Int32) (z49 : Int) (ls : Array Slot), (6 - z45).toNat < n50 → v45.toInt = z45 → v46.toInt = z46 → v47.toInt = z47 → v48.toInt = z48 → v49.toInt = z49 → z45 ≤ 6 → 0 ≤ z45 → Conf X Γ H50 → va_S (AΓ Γ) H0 H50 locs50 → Kp X Γ [1, 6, 7, 8, 9, 10, 11, 12, 14, 15, 16, 17, 19, 22, 24, 26, 28] H0 H50 → lv_has ls 15 [(10, .int v45), (9, .int v46), (8, .int v47), (7, .int v48), (6, .int v49), (5, .int v44), (4, .int v43), (3, .int v42), (2, .int v39), (0, .ref h0), (1, .int p1)] → W p l e (rmL 2) s m args below meth c H50 locs50 0 0 Qz (F0 m 83 ls []) := by
      intro n50
      induction n50 with
      | zero => intro H50 locs50 v45 z45 v46 z46 v47 z47 v48 z48 v49 z49 ls hm50 ev45 ev46 ev47 ev48 ev49 iv50_0 iv50_1 hC50 hS50 hKp50 hl; exact absurd hm50 (Nat.not_lt_zero _)
      | succ n50 ih50 =>
        intro H50 locs50 v45 z45 v46 z46 v47 z47 v48 z48 v49 z49 ls hm50 ev45 ev46 ev47 ev48 ev49 iv50_0 iv50_1 hC50 hS50 hKp50 hl
        refine lv_iload hx hb dX12_level_83 (lv_at hl 0 rfl) ?_
        refine lv_aload_n hx hb dX12_level_85 rfl (lv_at hl 9 rfl) ?_
        refine q_getC E hC50 g0 fa_RX12_35 uc dX12_level_86 ?_
        refine lv_iconst (v := 1) hx hb dX12_level_89 rfl ?_
        refine q_cald E hC50 (lo := 0) (hi := 6) gca (a := 1) (show (1 : Int32).toInt = 1 from by decide) (by omega) (by omega) (cr_c0 (by omega) (by omega)) dX12_level_90 (fun v51 ev51 lv51 uv51 => ?_)
        refine q_icmp_ge hx hb (a := z45) (b := v51.toInt) ev45 rfl (tgt := 277) dX12_level_91 rfl (fun c52 => ?_) (fun c52 => ?_)
        · refine lv_iload hx hb dX12_level_277 (lv_at hl 5 rfl) ?_
          refine lv_iload hx hb dX12_level_279 (lv_at hl 3 rfl) ?_
          refine lv_isub hx hb dX12_level_281 (lv_topi (fun v53 ev53 => ?_))
          refine lv_istore hx hb dX12_level_282 hl (by decide) rfl (fun ls hl => ?_)
          replace hl : lv_has ls 15 [(10, .int v53), (9, .int v46), (8, .int v47), (7, .int v48), (6, .int v49), (5, .int v44), (4, .int v43), (3, .int v42), (2, .int v39), (0, .ref h0), (1, .int p1)] := hl
          refine lv_iload hx hb dX12_level_284 (lv_at hl 0 rfl) ?_
          refine q_if_lt hx hb (a := v53.toInt) rfl (tgt := 296) dX12_level_286 rfl (fun c54 => ?_) (fun c54 => ?_)
          · refine lv_aload_n hx hb dX12_level_296 rfl (lv_at hl 9 rfl) ?_
            refine lv_bipush (v := 9) hx hb dX12_level_297 rfl ?_
            refine q_goI (q_runV (As := [.int 9]) (rest := []) E hC50 hS50 (m_X12_refuse l X Γ H50 hC50 h0 g0 9 (a1 := 9) (by decide) ca gca uc) cw_X12_refuse cl_RX12_298 g0 ⟨rfl, rfl⟩ rfl hl.1 rfl (Nat.zero_le _) (by decide) dX12_level_299) hS50 (fun v55 H55 locs55 hr55 hC55 hS55 => ?_)
            obtain ⟨hp55, hr55⟩ := hr55
            have hKp55 := hKp50.tr (hp55.mono rfl)
            have f55_0 := hr55
            refine lv_goto (tgt := 315) hx hb dX12_level_302 rfl ?_
            exact ret v55 H55 locs55 _ _ dX12_level_315 ⟨hKp55, trivial⟩ hC55 hS55
          · refine lv_iload hx hb dX12_level_289 (lv_at hl 0 rfl) ?_
            refine lv_iload hx hb dX12_level_291 (lv_at hl 1 rfl) ?_
            have c56 := i_rng v46; rw [show v46.toInt = z46 from ev46] at c56
            refine q_icmp_le hx hb (a := v53.toInt) (b := z46) rfl ev46 (tgt := 305) dX12_level_293 rfl (fun c57 => ?_) (fun c57 => ?_)
            · refine lv_iload hx hb dX12_level_305 (lv_at hl 4 rfl) ?_
              refine lv_iload hx hb dX12_level_307 (lv_at hl 0 rfl) ?_
              refine lv_iload hx hb dX12_level_309 (lv_at hl 2 rfl) ?_
              refine q_mmin E hl.1 w_1740 mathw_min (a := v53.toInt) (b := z47) rfl ev47 (by decide) (show _ ≤ _ from by simp [Value.category]) dX12_level_311 (fun v58 mv58a mv58b mv58c => ?_)
              refine lv_isub hx hb dX12_level_314 (lv_topi (fun v59 ev59 => ?_))
              exact ret v59 H50 locs50 _ _ dX12_level_315 ⟨hKp50, trivial⟩ hC50 hS50
            · refine lv_aload_n hx hb dX12_level_296 rfl (lv_at hl 9 rfl) ?_
              refine lv_bipush (v := 9) hx hb dX12_level_297 rfl ?_
              refine q_goI (q_runV (As := [.int 9]) (rest := []) E hC50 hS50 (m_X12_refuse l X Γ H50 hC50 h0 g0 9 (a1 := 9) (by decide) ca gca uc) cw_X12_refuse cl_RX12_298 g0 ⟨rfl, rfl⟩ rfl hl.1 rfl (Nat.zero_le _) (by decide) dX12_level_299) hS50 (fun v60 H60 locs60 hr60 hC60 hS60 => ?_)
              obtain ⟨hp60, hr60⟩ := hr60
              have hKp60 := hKp50.tr (hp60.mono rfl)
              have f60_0 := hr60
              refine lv_goto (tgt := 315) hx hb dX12_level_302 rfl ?_
              exact ret v60 H60 locs60 _ _ dX12_level_315 ⟨hKp60, trivial⟩ hC60 hS60
        · refine lv_iconst (v := 0) hx hb dX12_level_94 rfl ?_
          refine lv_istore hx hb dX12_level_95 hl (by decide) rfl (fun ls hl => ?_)
          replace hl : lv_has ls 15 [(11, .int 0), (10, .int v45), (9, .int v46), (8, .int v47), (7, .int v48), (6, .int v49), (5, .int v44), (4, .int v43), (3, .int v42), (2, .int v39), (0, .ref h0), (1, .int p1)] := hl
          have L97 : ∀ (n66 : Nat) (H66 : Heap) (locs66 : List Loc) (v61 : Int32) (z61 : Int) (v62 : Int32) (z62 : Int) (v63 : Int32) (z63 : Int) (v64 : Int32) (z64 : Int) (v65 : Int32) (z65 : Int) (ls : Array Slot), (6 - z61).toNat < n66 → v61.toInt = z61 → v62.toInt = z62 → v63.toInt = z63 → v64.toInt = z64 → v65.toInt = z65 → z61 ≤ 6 → 0 ≤ z61 → Conf X Γ H66 → va_S (AΓ Γ) H0 H66 locs66 → Kp X Γ [1, 6, 7, 8, 9, 10, 11, 12, 14, 15, 16, 17, 19, 22, 24, 26, 28] H0 H66 → lv_has ls 15 [(11, .int v61), (10, .int v45), (9, .int v62), (8, .int v63), (7, .int v64), (6, .int v65), (5, .int v44), (4, .int v43), (3, .int v42), (2, .int v39), (0, .ref h0), (1, .int p1)] → W p l e (rmL 2) s m args below meth c H66 locs66 0 0 Qz (F0 m 97 ls []) := by
            intro n66
            induction n66 with
            | zero => intro H66 locs66 v61 z61 v62 z62 v63 z63 v64 z64 v65 z65 ls hm66 ev61 ev62 ev63 ev64 ev65 iv66_0 iv66_1 hC66 hS66 hKp66 hl; exact absurd hm66 (Nat.not_lt_zero _)
            | succ n66 ih66 =>
              intro H66 locs66 v61 z61 v62 z62 v63 z63 v64 z64 v65 z65 ls hm66 ev61 ev62 ev63 ev64 ev65 iv66_0 iv66_1 hC66 hS66 hKp66 hl
              refine lv_iload hx hb dX12_level_97 (lv_at hl 0 rfl) ?_
              refine lv_aload_n hx hb dX12_level_99 rfl (lv_at hl 10 rfl) ?_
              refine q_getC E hC66 g0 fa_RX12_35 uc dX12_level_100 ?_
              refine lv_iconst (v := 0) hx hb dX12_level_103 rfl ?_
              refine q_cald E hC66 (lo := 0) (hi := 6) gca (a := 0) (show (0 : Int32).toInt = 0 from by decide) (by omega) (by omega) (cr_c0 (by omega) (by omega)) dX12_level_104 (fun v67 ev67 lv67 uv67 => ?_)
              refine q_icmp_ge hx hb (a := z61) (b := v67.toInt) ev61 rfl (tgt := 271) dX12_level_105 rfl (fun c68 => ?_) (fun c68 => ?_)
              · obtain ⟨v69, ev69⟩ : ∃ z, z = v45 + Int32.ofInt 1 := ⟨_, rfl⟩
                have ev69i : v69.toInt = (z45 + 1) := i_add ev69 ev45 (by decide) (by omega) (by omega)
                refine lv_iinc hx hb dX12_level_271 hl (k := 1) rfl ev69.symm (by decide) rfl (fun ls hl => ?_)
                replace hl : lv_has ls 15 [(10, .int v69), (11, .int v61), (9, .int v62), (8, .int v63), (7, .int v64), (6, .int v65), (5, .int v44), (4, .int v43), (3, .int v42), (2, .int v39), (0, .ref h0), (1, .int p1)] := hl
                refine lv_goto (tgt := 83) hx hb dX12_level_274 rfl ?_
                exact ih50 H66 locs66 v69 ((z45 + 1)) v62 (z62) v63 (z63) v64 (z64) v65 (z65) ls (by omega) ev69i ev62 ev63 ev64 ev65 (by omega) (by omega) hC66 hS66 hKp66 (lv_sub hl [0, 2, 3, 4, 5, 6, 7, 8, 9, 10, 11] rfl)
              · refine lv_iload hx hb dX12_level_108 (lv_at hl 0 rfl) ?_
                refine lv_iload hx hb dX12_level_110 (lv_at hl 1 rfl) ?_
                refine q_goIp (q_runS (As := [.int v61, .int v45]) (rest := []) E hS66 (m_X12_at2 l X Γ H66 hC66 v61 (a0 := z61) ev61 v45 (a1 := z45) ev45 (by omega) (by omega) (by omega) (by omega)) cw_X12_at2 cl_RX12_292 rfl hl.1 rfl (Nat.zero_le _) (by decide) dX12_level_112) hS66 (fun v70 locs70 hr70 hS70 => ?_)
                have f70_0 := hr70
                refine lv_istore hx hb dX12_level_115 hl (by decide) rfl (fun ls hl => ?_)
                replace hl : lv_has ls 15 [(12, .int v70), (11, .int v61), (10, .int v45), (9, .int v62), (8, .int v63), (7, .int v64), (6, .int v65), (5, .int v44), (4, .int v43), (3, .int v42), (2, .int v39), (0, .ref h0), (1, .int p1)] := hl
                refine lv_aload_n hx hb dX12_level_117 rfl (lv_at hl 11 rfl) ?_
                refine lv_iload hx hb dX12_level_118 (lv_at hl 1 rfl) ?_
                refine q_goIp (q_runV (As := [.int v61]) (rest := []) E hC66 hS70 (m_X12_halfOf l X Γ H66 hC66 h0 g0 v61 (a1 := z61) ev61 ca gca uc) cw_X12_halfOf cl_RX12_270 g0 ⟨rfl, rfl⟩ rfl hl.1 rfl (Nat.zero_le _) (by decide) dX12_level_120) hS70 (fun v71 locs71 hr71 hS71 => ?_)
                obtain ⟨f71_0, f71_1⟩ := hr71
                refine lv_iload_n hx hb dX12_level_123 rfl (lv_at hl 12 rfl) ?_
                refine q_icmp_eq hx hb (a := v71.toInt) (b := a1) rfl e1 (tgt := 130) dX12_level_124 rfl (fun c72 => ?_) (fun c72 => ?_)
                · refine lv_aload_n hx hb dX12_level_130 rfl (lv_at hl 11 rfl) ?_
                  refine lv_iload hx hb dX12_level_131 (lv_at hl 0 rfl) ?_
                  refine lv_iload hx hb dX12_level_133 (lv_at hl 8 rfl) ?_
                  refine q_goIp (q_runV (As := [.int v70, .int v43]) (rest := []) E hC66 hS71 (m_X12_mayBe l X Γ H66 hC66 h0 g0 v70 (a1 := v70.toInt) rfl v43 (a2 := v43.toInt) rfl ca gca uc (by omega) (by omega)) cw_X12_mayBe cl_RX12_366 g0 ⟨rfl, rfl⟩ rfl hl.1 rfl (Nat.zero_le _) (by decide) dX12_level_135) hS71 (fun v73 locs73 hr73 hS73 => ?_)
                  rcases hr73 with rfl | rfl
                  · refine lv_istore hx hb dX12_level_138 hl (by decide) rfl (fun ls hl => ?_)
                    replace hl : lv_has ls 15 [(13, .int 0), (12, .int v70), (11, .int v61), (10, .int v45), (9, .int v62), (8, .int v63), (7, .int v64), (6, .int v65), (5, .int v44), (4, .int v43), (3, .int v42), (2, .int v39), (0, .ref h0), (1, .int p1)] := hl
                    refine lv_aload_n hx hb dX12_level_140 rfl (lv_at hl 12 rfl) ?_
                    refine lv_iload hx hb dX12_level_141 (lv_at hl 1 rfl) ?_
                    refine lv_iload hx hb dX12_level_143 (lv_at hl 9 rfl) ?_
                    refine lv_iconst (v := 1) hx hb dX12_level_145 rfl ?_
                    refine lv_iadd hx hb dX12_level_146 (lv_topi (fun v74 ev74 => ?_))
                    refine q_goIp (q_runV (As := [.int v70, .int v74]) (rest := []) E hC66 hS73 (m_X12_mayBe l X Γ H66 hC66 h0 g0 v70 (a1 := v70.toInt) rfl v74 (a2 := v74.toInt) rfl ca gca uc (by omega) (by omega)) cw_X12_mayBe cl_RX12_366 g0 ⟨rfl, rfl⟩ rfl hl.1 rfl (Nat.zero_le _) (by decide) dX12_level_147) hS73 (fun v75 locs75 hr75 hS75 => ?_)
                    rcases hr75 with rfl | rfl
                    · refine lv_istore hx hb dX12_level_150 hl (by decide) rfl (fun ls hl => ?_)
                      replace hl : lv_has ls 15 [(14, .int 0), (13, .int 0), (12, .int v70), (11, .int v61), (10, .int v45), (9, .int v62), (8, .int v63), (7, .int v64), (6, .int v65), (5, .int v44), (4, .int v43), (3, .int v42), (2, .int v39), (0, .ref h0), (1, .int p1)] := hl
                      refine lv_iload hx hb dX12_level_152 (lv_at hl 1 rfl) ?_
                      refine q_if_ne hx hb (a := 0) (by decide) (tgt := 169) dX12_level_154 rfl (fun c76 => absurd c76 (by omega)) (fun c76 => ?_)
                      refine lv_iload hx hb dX12_level_157 (lv_at hl 0 rfl) ?_
                      refine q_if_ne hx hb (a := 0) (by decide) (tgt := 169) dX12_level_159 rfl (fun c77 => absurd c77 (by omega)) (fun c77 => ?_)
                      refine lv_aload_n hx hb dX12_level_162 rfl (lv_at hl 13 rfl) ?_
                      refine lv_bipush (v := 9) hx hb dX12_level_163 rfl ?_
                      refine q_goI (q_runV (As := [.int 9]) (rest := []) E hC66 hS75 (m_X12_refuse l X Γ H66 hC66 h0 g0 9 (a1 := 9) (by decide) ca gca uc) cw_X12_refuse cl_RX12_298 g0 ⟨rfl, rfl⟩ rfl hl.1 rfl (Nat.zero_le _) (by decide) dX12_level_165) hS75 (fun v78 H78 locs78 hr78 hC78 hS78 => ?_)
                      obtain ⟨hp78, hr78⟩ := hr78
                      have hKp78 := hKp66.tr (hp78.mono rfl)
                      have f78_0 := hr78
                      exact ret v78 H78 locs78 _ _ dX12_level_168 ⟨hKp78, trivial⟩ hC78 hS78
                    · refine lv_istore hx hb dX12_level_150 hl (by decide) rfl (fun ls hl => ?_)
                      replace hl : lv_has ls 15 [(14, .int 1), (13, .int 0), (12, .int v70), (11, .int v61), (10, .int v45), (9, .int v62), (8, .int v63), (7, .int v64), (6, .int v65), (5, .int v44), (4, .int v43), (3, .int v42), (2, .int v39), (0, .ref h0), (1, .int p1)] := hl
                      refine lv_iload hx hb dX12_level_152 (lv_at hl 1 rfl) ?_
                      refine q_if_ne hx hb (a := 0) (by decide) (tgt := 169) dX12_level_154 rfl (fun c79 => absurd c79 (by omega)) (fun c79 => ?_)
                      refine lv_iload hx hb dX12_level_157 (lv_at hl 0 rfl) ?_
                      refine q_if_ne hx hb (a := 1) (by decide) (tgt := 169) dX12_level_159 rfl (fun c80 => ?_) (fun c80 => absurd c80 (by omega))
                      refine lv_iload hx hb dX12_level_169 (lv_at hl 8 rfl) ?_
                      refine lv_iconst (v := 0) hx hb dX12_level_171 rfl ?_
                      refine lv_aload_n hx hb dX12_level_172 rfl (lv_at hl 13 rfl) ?_
                      refine lv_iload hx hb dX12_level_173 (lv_at hl 2 rfl) ?_
                      refine q_goIp (q_runV (As := [.int v70]) (rest := [.int 0, .int v65]) E hC66 hS75 (m_X12_topOf l X Γ H66 hC66 h0 g0 v70 (a1 := v70.toInt) rfl ca gca uc (by omega) (by omega)) cw_X12_topOf cl_RX12_359 g0 ⟨rfl, rfl⟩ rfl hl.1 rfl (show _ ≤ _ from by simp [Value.category]) (by decide) dX12_level_175) hS75 (fun v81 locs81 hr81 hS81 => ?_)
                      obtain ⟨f81_0, f81_1, f81_2⟩ := hr81
                      refine lv_iload hx hb dX12_level_178 (lv_at hl 1 rfl) ?_
                      refine q_if_eq hx hb (a := 0) (by decide) (tgt := 188) dX12_level_180 rfl (fun c82 => ?_) (fun c82 => absurd c82 (by omega))
                      refine lv_iload hx hb dX12_level_188 (lv_at hl 10 rfl) ?_
                      refine lv_iconst (v := 1) hx hb dX12_level_190 rfl ?_
                      refine lv_iadd hx hb dX12_level_191 (lv_topi (fun v83 ev83 => ?_))
                      refine lv_isub hx hb dX12_level_192 (lv_topi (fun v84 ev84 => ?_))
                      refine q_mmax E hl.1 w_1731 mathw_max (a := 0) (b := v84.toInt) (show (0 : Int32).toInt = 0 from by decide) rfl (by decide) (show _ ≤ _ from by simp [Value.category]) dX12_level_193 (fun v85 mv85a mv85b mv85c => ?_)
                      refine lv_iadd hx hb dX12_level_196 (lv_topi (fun v86 ev86 => ?_))
                      refine lv_istore hx hb dX12_level_197 hl (by decide) rfl (fun ls hl => ?_)
                      replace hl : lv_has ls 15 [(6, .int v86), (14, .int 1), (13, .int 0), (12, .int v70), (11, .int v61), (10, .int v45), (9, .int v62), (8, .int v63), (7, .int v64), (5, .int v44), (4, .int v43), (3, .int v42), (2, .int v39), (0, .ref h0), (1, .int p1)] := hl
                      refine lv_iload hx hb dX12_level_199 (lv_at hl 8 rfl) ?_
                      refine lv_iload hx hb dX12_level_201 (lv_at hl 2 rfl) ?_
                      refine q_if_eq hx hb (a := 0) (by decide) (tgt := 210) dX12_level_203 rfl (fun c87 => ?_) (fun c87 => absurd c87 (by omega))
                      refine lv_iconst (v := 1) hx hb dX12_level_210 rfl ?_
                      refine lv_iadd hx hb dX12_level_211 (lv_topi (fun v88 ev88 => ?_))
                      refine lv_istore hx hb dX12_level_212 hl (by decide) rfl (fun ls hl => ?_)
                      replace hl : lv_has ls 15 [(7, .int v88), (6, .int v86), (14, .int 1), (13, .int 0), (12, .int v70), (11, .int v61), (10, .int v45), (9, .int v62), (8, .int v63), (5, .int v44), (4, .int v43), (3, .int v42), (2, .int v39), (0, .ref h0), (1, .int p1)] := hl
                      refine lv_iload hx hb dX12_level_214 (lv_at hl 7 rfl) ?_
                      refine lv_iload hx hb dX12_level_216 (lv_at hl 3 rfl) ?_
                      refine q_if_eq hx hb (a := 0) (by decide) (tgt := 230) dX12_level_218 rfl (fun c89 => ?_) (fun c89 => absurd c89 (by omega))
                      refine lv_iconst (v := 0) hx hb dX12_level_230 rfl ?_
                      refine lv_iadd hx hb dX12_level_231 (lv_topi (fun v90 ev90 => ?_))
                      have c91 := i_rng v62; rw [show v62.toInt = z62 from ev62] at c91
                      have ev90i : v90.toInt = (z62 + 0) := i_add ev90 ev62 (by decide) (by omega) (by omega)
                      refine lv_istore hx hb dX12_level_232 hl (by decide) rfl (fun ls hl => ?_)
                      replace hl : lv_has ls 15 [(9, .int v90), (7, .int v88), (6, .int v86), (14, .int 1), (13, .int 0), (12, .int v70), (11, .int v61), (10, .int v45), (8, .int v63), (5, .int v44), (4, .int v43), (3, .int v42), (2, .int v39), (0, .ref h0), (1, .int p1)] := hl
                      refine lv_iload hx hb dX12_level_234 (lv_at hl 8 rfl) ?_
                      refine lv_iload hx hb dX12_level_236 (lv_at hl 4 rfl) ?_
                      refine q_if_eq hx hb (a := 0) (by decide) (tgt := 261) dX12_level_238 rfl (fun c92 => ?_) (fun c92 => absurd c92 (by omega))
                      refine lv_iconst (v := 0) hx hb dX12_level_261 rfl ?_
                      refine lv_iadd hx hb dX12_level_262 (lv_topi (fun v93 ev93 => ?_))
                      have c94 := i_rng v63; rw [show v63.toInt = z63 from ev63] at c94
                      have ev93i : v93.toInt = (z63 + 0) := i_add ev93 ev63 (by decide) (by omega) (by omega)
                      refine lv_istore hx hb dX12_level_263 hl (by decide) rfl (fun ls hl => ?_)
                      replace hl : lv_has ls 15 [(8, .int v93), (9, .int v90), (7, .int v88), (6, .int v86), (14, .int 1), (13, .int 0), (12, .int v70), (11, .int v61), (10, .int v45), (5, .int v44), (4, .int v43), (3, .int v42), (2, .int v39), (0, .ref h0), (1, .int p1)] := hl
                      obtain ⟨v95, ev95⟩ : ∃ z, z = v61 + Int32.ofInt 1 := ⟨_, rfl⟩
                      have ev95i : v95.toInt = (z61 + 1) := i_add ev95 ev61 (by decide) (by omega) (by omega)
                      refine lv_iinc hx hb dX12_level_265 hl (k := 7) rfl ev95.symm (by decide) rfl (fun ls hl => ?_)
                      replace hl : lv_has ls 15 [(11, .int v95), (8, .int v93), (9, .int v90), (7, .int v88), (6, .int v86), (14, .int 1), (13, .int 0), (12, .int v70), (10, .int v45), (5, .int v44), (4, .int v43), (3, .int v42), (2, .int v39), (0, .ref h0), (1, .int p1)] := hl
                      refine lv_goto (tgt := 97) hx hb dX12_level_268 rfl ?_
                      exact ih66 H66 locs81 v95 ((z61 + 1)) v90 ((z62 + 0)) v93 ((z63 + 0)) v88 (v88.toInt) v86 (v86.toInt) ls (by omega) ev95i ev90i ev93i rfl rfl (by omega) (by omega) hC66 hS81 hKp66 (lv_sub hl [0, 8, 2, 1, 3, 4, 9, 10, 11, 12, 13, 14] rfl)
                  · refine lv_istore hx hb dX12_level_138 hl (by decide) rfl (fun ls hl => ?_)
                    replace hl : lv_has ls 15 [(13, .int 1), (12, .int v70), (11, .int v61), (10, .int v45), (9, .int v62), (8, .int v63), (7, .int v64), (6, .int v65), (5, .int v44), (4, .int v43), (3, .int v42), (2, .int v39), (0, .ref h0), (1, .int p1)] := hl
                    refine lv_aload_n hx hb dX12_level_140 rfl (lv_at hl 12 rfl) ?_
                    refine lv_iload hx hb dX12_level_141 (lv_at hl 1 rfl) ?_
                    refine lv_iload hx hb dX12_level_143 (lv_at hl 9 rfl) ?_
                    refine lv_iconst (v := 1) hx hb dX12_level_145 rfl ?_
                    refine lv_iadd hx hb dX12_level_146 (lv_topi (fun v96 ev96 => ?_))
                    refine q_goIp (q_runV (As := [.int v70, .int v96]) (rest := []) E hC66 hS73 (m_X12_mayBe l X Γ H66 hC66 h0 g0 v70 (a1 := v70.toInt) rfl v96 (a2 := v96.toInt) rfl ca gca uc (by omega) (by omega)) cw_X12_mayBe cl_RX12_366 g0 ⟨rfl, rfl⟩ rfl hl.1 rfl (Nat.zero_le _) (by decide) dX12_level_147) hS73 (fun v97 locs97 hr97 hS97 => ?_)
                    rcases hr97 with rfl | rfl
                    · refine lv_istore hx hb dX12_level_150 hl (by decide) rfl (fun ls hl => ?_)
                      replace hl : lv_has ls 15 [(14, .int 0), (13, .int 1), (12, .int v70), (11, .int v61), (10, .int v45), (9, .int v62), (8, .int v63), (7, .int v64), (6, .int v65), (5, .int v44), (4, .int v43), (3, .int v42), (2, .int v39), (0, .ref h0), (1, .int p1)] := hl
                      refine lv_iload hx hb dX12_level_152 (lv_at hl 1 rfl) ?_
                      refine q_if_ne hx hb (a := 1) (by decide) (tgt := 169) dX12_level_154 rfl (fun c98 => ?_) (fun c98 => absurd c98 (by omega))
                      refine lv_iload hx hb dX12_level_169 (lv_at hl 8 rfl) ?_
                      refine lv_iconst (v := 0) hx hb dX12_level_171 rfl ?_
                      refine lv_aload_n hx hb dX12_level_172 rfl (lv_at hl 13 rfl) ?_
                      refine lv_iload hx hb dX12_level_173 (lv_at hl 2 rfl) ?_
                      refine q_goIp (q_runV (As := [.int v70]) (rest := [.int 0, .int v65]) E hC66 hS97 (m_X12_topOf l X Γ H66 hC66 h0 g0 v70 (a1 := v70.toInt) rfl ca gca uc (by omega) (by omega)) cw_X12_topOf cl_RX12_359 g0 ⟨rfl, rfl⟩ rfl hl.1 rfl (show _ ≤ _ from by simp [Value.category]) (by decide) dX12_level_175) hS97 (fun v99 locs99 hr99 hS99 => ?_)
                      obtain ⟨f99_0, f99_1, f99_2⟩ := hr99
                      refine lv_iload hx hb dX12_level_178 (lv_at hl 1 rfl) ?_
                      refine q_if_eq hx hb (a := 1) (by decide) (tgt := 188) dX12_level_180 rfl (fun c100 => absurd c100 (by omega)) (fun c100 => ?_)
                      refine lv_iload hx hb dX12_level_183 (lv_at hl 10 rfl) ?_
                      refine lv_goto (tgt := 192) hx hb dX12_level_185 rfl ?_
                      refine lv_isub hx hb dX12_level_192 (lv_topi (fun v101 ev101 => ?_))
                      refine q_mmax E hl.1 w_1731 mathw_max (a := 0) (b := v101.toInt) (show (0 : Int32).toInt = 0 from by decide) rfl (by decide) (show _ ≤ _ from by simp [Value.category]) dX12_level_193 (fun v102 mv102a mv102b mv102c => ?_)
                      refine lv_iadd hx hb dX12_level_196 (lv_topi (fun v103 ev103 => ?_))
                      refine lv_istore hx hb dX12_level_197 hl (by decide) rfl (fun ls hl => ?_)
                      replace hl : lv_has ls 15 [(6, .int v103), (14, .int 0), (13, .int 1), (12, .int v70), (11, .int v61), (10, .int v45), (9, .int v62), (8, .int v63), (7, .int v64), (5, .int v44), (4, .int v43), (3, .int v42), (2, .int v39), (0, .ref h0), (1, .int p1)] := hl
                      refine lv_iload hx hb dX12_level_199 (lv_at hl 8 rfl) ?_
                      refine lv_iload hx hb dX12_level_201 (lv_at hl 2 rfl) ?_
                      refine q_if_eq hx hb (a := 1) (by decide) (tgt := 210) dX12_level_203 rfl (fun c104 => absurd c104 (by omega)) (fun c104 => ?_)
                      refine lv_iconst (v := 0) hx hb dX12_level_206 rfl ?_
                      refine lv_goto (tgt := 211) hx hb dX12_level_207 rfl ?_
                      refine lv_iadd hx hb dX12_level_211 (lv_topi (fun v105 ev105 => ?_))
                      have c106 := i_rng v64; rw [show v64.toInt = z64 from ev64] at c106
                      have ev105i : v105.toInt = (z64 + 0) := i_add ev105 ev64 (by decide) (by omega) (by omega)
                      refine lv_istore hx hb dX12_level_212 hl (by decide) rfl (fun ls hl => ?_)
                      replace hl : lv_has ls 15 [(7, .int v105), (6, .int v103), (14, .int 0), (13, .int 1), (12, .int v70), (11, .int v61), (10, .int v45), (9, .int v62), (8, .int v63), (5, .int v44), (4, .int v43), (3, .int v42), (2, .int v39), (0, .ref h0), (1, .int p1)] := hl
                      refine lv_iload hx hb dX12_level_214 (lv_at hl 7 rfl) ?_
                      refine lv_iload hx hb dX12_level_216 (lv_at hl 3 rfl) ?_
                      refine q_if_eq hx hb (a := 1) (by decide) (tgt := 230) dX12_level_218 rfl (fun c107 => absurd c107 (by omega)) (fun c107 => ?_)
                      refine lv_iload hx hb dX12_level_221 (lv_at hl 2 rfl) ?_
                      refine q_if_eq hx hb (a := 0) (by decide) (tgt := 230) dX12_level_223 rfl (fun c108 => ?_) (fun c108 => absurd c108 (by omega))
                      refine lv_iconst (v := 0) hx hb dX12_level_230 rfl ?_
                      refine lv_iadd hx hb dX12_level_231 (lv_topi (fun v109 ev109 => ?_))
                      have c110 := i_rng v62; rw [show v62.toInt = z62 from ev62] at c110
                      have ev109i : v109.toInt = (z62 + 0) := i_add ev109 ev62 (by decide) (by omega) (by omega)
                      refine lv_istore hx hb dX12_level_232 hl (by decide) rfl (fun ls hl => ?_)
                      replace hl : lv_has ls 15 [(9, .int v109), (7, .int v105), (6, .int v103), (14, .int 0), (13, .int 1), (12, .int v70), (11, .int v61), (10, .int v45), (8, .int v63), (5, .int v44), (4, .int v43), (3, .int v42), (2, .int v39), (0, .ref h0), (1, .int p1)] := hl
                      refine lv_iload hx hb dX12_level_234 (lv_at hl 8 rfl) ?_
                      refine lv_iload hx hb dX12_level_236 (lv_at hl 4 rfl) ?_
                      refine q_if_eq hx hb (a := 1) (by decide) (tgt := 261) dX12_level_238 rfl (fun c111 => absurd c111 (by omega)) (fun c111 => ?_)
                      refine lv_iload hx hb dX12_level_241 (lv_at hl 3 rfl) ?_
                      refine q_if_eq hx hb (a := 0) (by decide) (tgt := 261) dX12_level_243 rfl (fun c112 => ?_) (fun c112 => absurd c112 (by omega))
                      refine lv_iconst (v := 0) hx hb dX12_level_261 rfl ?_
                      refine lv_iadd hx hb dX12_level_262 (lv_topi (fun v113 ev113 => ?_))
                      have c114 := i_rng v63; rw [show v63.toInt = z63 from ev63] at c114
                      have ev113i : v113.toInt = (z63 + 0) := i_add ev113 ev63 (by decide) (by omega) (by omega)
                      refine lv_istore hx hb dX12_level_263 hl (by decide) rfl (fun ls hl => ?_)
                      replace hl : lv_has ls 15 [(8, .int v113), (9, .int v109), (7, .int v105), (6, .int v103), (14, .int 0), (13, .int 1), (12, .int v70), (11, .int v61), (10, .int v45), (5, .int v44), (4, .int v43), (3, .int v42), (2, .int v39), (0, .ref h0), (1, .int p1)] := hl
                      obtain ⟨v115, ev115⟩ : ∃ z, z = v61 + Int32.ofInt 1 := ⟨_, rfl⟩
                      have ev115i : v115.toInt = (z61 + 1) := i_add ev115 ev61 (by decide) (by omega) (by omega)
                      refine lv_iinc hx hb dX12_level_265 hl (k := 7) rfl ev115.symm (by decide) rfl (fun ls hl => ?_)
                      replace hl : lv_has ls 15 [(11, .int v115), (8, .int v113), (9, .int v109), (7, .int v105), (6, .int v103), (14, .int 0), (13, .int 1), (12, .int v70), (10, .int v45), (5, .int v44), (4, .int v43), (3, .int v42), (2, .int v39), (0, .ref h0), (1, .int p1)] := hl
                      refine lv_goto (tgt := 97) hx hb dX12_level_268 rfl ?_
                      exact ih66 H66 locs99 v115 ((z61 + 1)) v109 ((z62 + 0)) v113 ((z63 + 0)) v105 ((z64 + 0)) v103 (v103.toInt) ls (by omega) ev115i ev109i ev113i ev105i rfl (by omega) (by omega) hC66 hS99 hKp66 (lv_sub hl [0, 8, 2, 1, 3, 4, 9, 10, 11, 12, 13, 14] rfl)
                    · refine lv_istore hx hb dX12_level_150 hl (by decide) rfl (fun ls hl => ?_)
                      replace hl : lv_has ls 15 [(14, .int 1), (13, .int 1), (12, .int v70), (11, .int v61), (10, .int v45), (9, .int v62), (8, .int v63), (7, .int v64), (6, .int v65), (5, .int v44), (4, .int v43), (3, .int v42), (2, .int v39), (0, .ref h0), (1, .int p1)] := hl
                      refine lv_iload hx hb dX12_level_152 (lv_at hl 1 rfl) ?_
                      refine q_if_ne hx hb (a := 1) (by decide) (tgt := 169) dX12_level_154 rfl (fun c116 => ?_) (fun c116 => absurd c116 (by omega))
                      refine lv_iload hx hb dX12_level_169 (lv_at hl 8 rfl) ?_
                      refine lv_iconst (v := 0) hx hb dX12_level_171 rfl ?_
                      refine lv_aload_n hx hb dX12_level_172 rfl (lv_at hl 13 rfl) ?_
                      refine lv_iload hx hb dX12_level_173 (lv_at hl 2 rfl) ?_
                      refine q_goIp (q_runV (As := [.int v70]) (rest := [.int 0, .int v65]) E hC66 hS97 (m_X12_topOf l X Γ H66 hC66 h0 g0 v70 (a1 := v70.toInt) rfl ca gca uc (by omega) (by omega)) cw_X12_topOf cl_RX12_359 g0 ⟨rfl, rfl⟩ rfl hl.1 rfl (show _ ≤ _ from by simp [Value.category]) (by decide) dX12_level_175) hS97 (fun v117 locs117 hr117 hS117 => ?_)
                      obtain ⟨f117_0, f117_1, f117_2⟩ := hr117
                      refine lv_iload hx hb dX12_level_178 (lv_at hl 1 rfl) ?_
                      refine q_if_eq hx hb (a := 1) (by decide) (tgt := 188) dX12_level_180 rfl (fun c118 => absurd c118 (by omega)) (fun c118 => ?_)
                      refine lv_iload hx hb dX12_level_183 (lv_at hl 10 rfl) ?_
                      refine lv_goto (tgt := 192) hx hb dX12_level_185 rfl ?_
                      refine lv_isub hx hb dX12_level_192 (lv_topi (fun v119 ev119 => ?_))
                      refine q_mmax E hl.1 w_1731 mathw_max (a := 0) (b := v119.toInt) (show (0 : Int32).toInt = 0 from by decide) rfl (by decide) (show _ ≤ _ from by simp [Value.category]) dX12_level_193 (fun v120 mv120a mv120b mv120c => ?_)
                      refine lv_iadd hx hb dX12_level_196 (lv_topi (fun v121 ev121 => ?_))
                      refine lv_istore hx hb dX12_level_197 hl (by decide) rfl (fun ls hl => ?_)
                      replace hl : lv_has ls 15 [(6, .int v121), (14, .int 1), (13, .int 1), (12, .int v70), (11, .int v61), (10, .int v45), (9, .int v62), (8, .int v63), (7, .int v64), (5, .int v44), (4, .int v43), (3, .int v42), (2, .int v39), (0, .ref h0), (1, .int p1)] := hl
                      refine lv_iload hx hb dX12_level_199 (lv_at hl 8 rfl) ?_
                      refine lv_iload hx hb dX12_level_201 (lv_at hl 2 rfl) ?_
                      refine q_if_eq hx hb (a := 1) (by decide) (tgt := 210) dX12_level_203 rfl (fun c122 => absurd c122 (by omega)) (fun c122 => ?_)
                      refine lv_iconst (v := 0) hx hb dX12_level_206 rfl ?_
                      refine lv_goto (tgt := 211) hx hb dX12_level_207 rfl ?_
                      refine lv_iadd hx hb dX12_level_211 (lv_topi (fun v123 ev123 => ?_))
                      have c124 := i_rng v64; rw [show v64.toInt = z64 from ev64] at c124
                      have ev123i : v123.toInt = (z64 + 0) := i_add ev123 ev64 (by decide) (by omega) (by omega)
                      refine lv_istore hx hb dX12_level_212 hl (by decide) rfl (fun ls hl => ?_)
                      replace hl : lv_has ls 15 [(7, .int v123), (6, .int v121), (14, .int 1), (13, .int 1), (12, .int v70), (11, .int v61), (10, .int v45), (9, .int v62), (8, .int v63), (5, .int v44), (4, .int v43), (3, .int v42), (2, .int v39), (0, .ref h0), (1, .int p1)] := hl
                      refine lv_iload hx hb dX12_level_214 (lv_at hl 7 rfl) ?_
                      refine lv_iload hx hb dX12_level_216 (lv_at hl 3 rfl) ?_
                      refine q_if_eq hx hb (a := 1) (by decide) (tgt := 230) dX12_level_218 rfl (fun c125 => absurd c125 (by omega)) (fun c125 => ?_)
                      refine lv_iload hx hb dX12_level_221 (lv_at hl 2 rfl) ?_
                      refine q_if_eq hx hb (a := 1) (by decide) (tgt := 230) dX12_level_223 rfl (fun c126 => absurd c126 (by omega)) (fun c126 => ?_)
                      refine lv_iconst (v := 1) hx hb dX12_level_226 rfl ?_
                      refine lv_goto (tgt := 231) hx hb dX12_level_227 rfl ?_
                      refine lv_iadd hx hb dX12_level_231 (lv_topi (fun v127 ev127 => ?_))
                      refine lv_istore hx hb dX12_level_232 hl (by decide) rfl (fun ls hl => ?_)
                      replace hl : lv_has ls 15 [(9, .int v127), (7, .int v123), (6, .int v121), (14, .int 1), (13, .int 1), (12, .int v70), (11, .int v61), (10, .int v45), (8, .int v63), (5, .int v44), (4, .int v43), (3, .int v42), (2, .int v39), (0, .ref h0), (1, .int p1)] := hl
                      refine lv_iload hx hb dX12_level_234 (lv_at hl 8 rfl) ?_
                      refine lv_iload hx hb dX12_level_236 (lv_at hl 4 rfl) ?_
                      refine q_if_eq hx hb (a := 1) (by decide) (tgt := 261) dX12_level_238 rfl (fun c128 => absurd c128 (by omega)) (fun c128 => ?_)
                      refine lv_iload hx hb dX12_level_241 (lv_at hl 3 rfl) ?_
                      refine q_if_eq hx hb (a := 1) (by decide) (tgt := 261) dX12_level_243 rfl (fun c129 => absurd c129 (by omega)) (fun c129 => ?_)
                      refine lv_aload_n hx hb dX12_level_246 rfl (lv_at hl 13 rfl) ?_
                      refine lv_iload hx hb dX12_level_247 (lv_at hl 5 rfl) ?_
                      refine q_goIp (q_runV (As := [.int v70]) (rest := [.int v63]) E hC66 hS117 (m_X12_topOf l X Γ H66 hC66 h0 g0 v70 (a1 := v70.toInt) rfl ca gca uc (by omega) (by omega)) cw_X12_topOf cl_RX12_359 g0 ⟨rfl, rfl⟩ rfl hl.1 rfl (show _ ≤ _ from by simp [Value.category]) (by decide) dX12_level_249) hS117 (fun v130 locs130 hr130 hS130 => ?_)
                      obtain ⟨f130_0, f130_1, f130_2⟩ := hr130
                      refine lv_iload hx hb dX12_level_252 (lv_at hl 10 rfl) ?_
                      have c131 := i_rng v43; rw [show v43.toInt = v43.toInt from rfl] at c131
                      refine q_icmp_le hx hb (a := v130.toInt) (b := v43.toInt) rfl rfl (tgt := 261) dX12_level_254 rfl (fun c132 => ?_) (fun c132 => ?_)
                      · refine lv_iconst (v := 0) hx hb dX12_level_261 rfl ?_
                        refine lv_iadd hx hb dX12_level_262 (lv_topi (fun v133 ev133 => ?_))
                        have c134 := i_rng v63; rw [show v63.toInt = z63 from ev63] at c134
                        have ev133i : v133.toInt = (z63 + 0) := i_add ev133 ev63 (by decide) (by omega) (by omega)
                        refine lv_istore hx hb dX12_level_263 hl (by decide) rfl (fun ls hl => ?_)
                        replace hl : lv_has ls 15 [(8, .int v133), (9, .int v127), (7, .int v123), (6, .int v121), (14, .int 1), (13, .int 1), (12, .int v70), (11, .int v61), (10, .int v45), (5, .int v44), (4, .int v43), (3, .int v42), (2, .int v39), (0, .ref h0), (1, .int p1)] := hl
                        obtain ⟨v135, ev135⟩ : ∃ z, z = v61 + Int32.ofInt 1 := ⟨_, rfl⟩
                        have ev135i : v135.toInt = (z61 + 1) := i_add ev135 ev61 (by decide) (by omega) (by omega)
                        refine lv_iinc hx hb dX12_level_265 hl (k := 7) rfl ev135.symm (by decide) rfl (fun ls hl => ?_)
                        replace hl : lv_has ls 15 [(11, .int v135), (8, .int v133), (9, .int v127), (7, .int v123), (6, .int v121), (14, .int 1), (13, .int 1), (12, .int v70), (10, .int v45), (5, .int v44), (4, .int v43), (3, .int v42), (2, .int v39), (0, .ref h0), (1, .int p1)] := hl
                        refine lv_goto (tgt := 97) hx hb dX12_level_268 rfl ?_
                        exact ih66 H66 locs130 v135 ((z61 + 1)) v127 (v127.toInt) v133 ((z63 + 0)) v123 ((z64 + 0)) v121 (v121.toInt) ls (by omega) ev135i rfl ev133i ev123i rfl (by omega) (by omega) hC66 hS130 hKp66 (lv_sub hl [0, 8, 2, 1, 3, 4, 9, 10, 11, 12, 13, 14] rfl)
                      · refine lv_iconst (v := 1) hx hb dX12_level_257 rfl ?_
                        refine lv_goto (tgt := 262) hx hb dX12_level_258 rfl ?_
                        refine lv_iadd hx hb dX12_level_262 (lv_topi (fun v136 ev136 => ?_))
                        refine lv_istore hx hb dX12_level_263 hl (by decide) rfl (fun ls hl => ?_)
                        replace hl : lv_has ls 15 [(8, .int v136), (9, .int v127), (7, .int v123), (6, .int v121), (14, .int 1), (13, .int 1), (12, .int v70), (11, .int v61), (10, .int v45), (5, .int v44), (4, .int v43), (3, .int v42), (2, .int v39), (0, .ref h0), (1, .int p1)] := hl
                        obtain ⟨v137, ev137⟩ : ∃ z, z = v61 + Int32.ofInt 1 := ⟨_, rfl⟩
                        have ev137i : v137.toInt = (z61 + 1) := i_add ev137 ev61 (by decide) (by omega) (by omega)
                        refine lv_iinc hx hb dX12_level_265 hl (k := 7) rfl ev137.symm (by decide) rfl (fun ls hl => ?_)
                        replace hl : lv_has ls 15 [(11, .int v137), (8, .int v136), (9, .int v127), (7, .int v123), (6, .int v121), (14, .int 1), (13, .int 1), (12, .int v70), (10, .int v45), (5, .int v44), (4, .int v43), (3, .int v42), (2, .int v39), (0, .ref h0), (1, .int p1)] := hl
                        refine lv_goto (tgt := 97) hx hb dX12_level_268 rfl ?_
                        exact ih66 H66 locs130 v137 ((z61 + 1)) v127 (v127.toInt) v136 (v136.toInt) v123 ((z64 + 0)) v121 (v121.toInt) ls (by omega) ev137i rfl rfl ev123i rfl (by omega) (by omega) hC66 hS130 hKp66 (lv_sub hl [0, 8, 2, 1, 3, 4, 9, 10, 11, 12, 13, 14] rfl)
                · refine lv_goto (tgt := 265) hx hb dX12_level_127 rfl ?_
                  obtain ⟨v138, ev138⟩ : ∃ z, z = v61 + Int32.ofInt 1 := ⟨_, rfl⟩
                  have ev138i : v138.toInt = (z61 + 1) := i_add ev138 ev61 (by decide) (by omega) (by omega)
                  refine lv_iinc hx hb dX12_level_265 hl (k := 1) rfl ev138.symm (by decide) rfl (fun ls hl => ?_)
                  replace hl : lv_has ls 15 [(11, .int v138), (12, .int v70), (10, .int v45), (9, .int v62), (8, .int v63), (7, .int v64), (6, .int v65), (5, .int v44), (4, .int v43), (3, .int v42), (2, .int v39), (0, .ref h0), (1, .int p1)] := hl
                  refine lv_goto (tgt := 97) hx hb dX12_level_268 rfl ?_
                  exact ih66 H66 locs71 v138 ((z61 + 1)) v62 (z62) v63 (z63) v64 (z64) v65 (z65) ls (by omega) ev138i ev62 ev63 ev64 ev65 (by omega) (by omega) hC66 hS71 hKp66 (lv_sub hl [0, 2, 3, 4, 5, 6, 7, 8, 9, 10, 11, 12] rfl)
          exact L97 _ H50 locs50 0 0 v46 z46 v47 z47 v48 z48 v49 z49 ls (Nat.lt_succ_self _) (by decide) ev46 ev47 ev48 ev49 (by omega) (by omega) hC50 hS50 hKp50 hl
    exact L83 _ H27 locs41 0 0 0 0 0 0 0 0 0 0 ls (Nat.lt_succ_self _) (by decide) (by decide) (by decide) (by decide) (by decide) (by omega) (by omega) hC27 hS41 hKp27 hl
  · refine q_if_ne hx hb (a := 0) (by decide) (tgt := 26) dX12_level_17 rfl (fun c139 => absurd c139 (by omega)) (fun c139 => ?_)
    refine lv_aload_n hx hb dX12_level_20 rfl (lv_at hl 0 rfl) ?_
    refine lv_iconst (v := 5) hx hb dX12_level_21 rfl ?_
    refine q_goI (q_runV (As := [.int 5]) (rest := []) E hC27 hS30 (m_X12_refuse l X Γ H27 hC27 h0 g0 5 (a1 := 5) (by decide) ca gca uc) cw_X12_refuse cl_RX12_298 g0 ⟨rfl, rfl⟩ rfl hl.1 rfl (Nat.zero_le _) (by decide) dX12_level_22) hS30 (fun v140 H140 locs140 hr140 hC140 hS140 => ?_)
    obtain ⟨hp140, hr140⟩ := hr140
    have hKp140 := hKp27.tr (hp140.mono rfl)
    have f140_0 := hr140
    exact ret v140 H140 locs140 _ _ dX12_level_25 ⟨hKp140, trivial⟩ hC140 hS140
set_option maxRecDepth 100000 in
set_option maxHeartbeats 4000000 in
theorem m_X12_lastingOf (l : Launch) (X : xW) (Γ : Nat → Option Nat) (H0 : Heap) (hC0 : Conf X Γ H0) (h0 : Nat) (g0 : Γ h0 = some 11) (p1 : Int32) {a1 : Int} (e1 : p1.toInt = a1) (p2 : Int32) {a2 : Int} (e2 : p2.toInt = a2) (p3 : Int32) {a3 : Int} (e3 : p3.toInt = a3) (ca : Nat) (gca : Γ ca = some 64) (uc : ∀ a, Γ a = some 64 → a = ca) (r0 : 0 ≤ a1) (r1 : a1 ≤ 35) : Ctr l X Γ yX12_lastingOf cX12_lastingOf 9 (some .int) 1 [.ref h0, .int p1, .int p2, .int p3] H0 (QI X Γ (fun v H1 => H1 = H0 ∧ (True))) := by
  refine q_enterI (own := "SnowFortsModel") (by decide) rfl (Nat.le_of_ble_eq_true rfl) ?_
  intro p e s m args below meth c ls Qz E hl ret hS0
  have hx := E.1; have hb := E.2.1
  have hl : lv_has ls 9 [(0, .ref h0), (1, .int p1), (2, .int p2), (3, .int p3)] := hl
  refine lv_aload_n hx hb dX12_lastingOf_0 rfl (lv_at hl 0 rfl) ?_
  refine q_getC E hC0 g0 fa_RX12_35 uc dX12_lastingOf_1 ?_
  refine lv_bipush (v := 26) hx hb dX12_lastingOf_4 rfl ?_
  refine lv_iload_n hx hb dX12_lastingOf_6 rfl (lv_at hl 1 rfl) ?_
  refine lv_iadd hx hb dX12_lastingOf_7 (lv_topi (fun v21 ev21 => ?_))
  have ev21i : v21.toInt = (26 + a1) := i_add ev21 (by decide) e1 (by omega) (by omega)
  refine q_cald E hC0 (lo := 0) (hi := 99) gca (a := (26 + a1)) ev21i (by omega) (by omega) (cr_c26 (by omega) (by omega)) dX12_lastingOf_8 (fun v22 ev22 lv22 uv22 => ?_)
  refine lv_istore hx hb dX12_lastingOf_9 hl (by decide) rfl (fun ls hl => ?_)
  replace hl : lv_has ls 9 [(4, .int v22), (0, .ref h0), (1, .int p1), (2, .int p2), (3, .int p3)] := hl
  refine lv_aload_n hx hb dX12_lastingOf_11 rfl (lv_at hl 1 rfl) ?_
  refine q_getC E hC0 g0 fa_RX12_35 uc dX12_lastingOf_12 ?_
  refine lv_bipush (v := 62) hx hb dX12_lastingOf_15 rfl ?_
  refine lv_iload_n hx hb dX12_lastingOf_17 rfl (lv_at hl 2 rfl) ?_
  refine lv_iadd hx hb dX12_lastingOf_18 (lv_topi (fun v23 ev23 => ?_))
  have ev23i : v23.toInt = (62 + a1) := i_add ev23 (by decide) e1 (by omega) (by omega)
  refine q_cald E hC0 (lo := 0) (hi := 99) gca (a := (62 + a1)) ev23i (by omega) (by omega) (cr_c26 (by omega) (by omega)) dX12_lastingOf_19 (fun v24 ev24 lv24 uv24 => ?_)
  refine lv_istore hx hb dX12_lastingOf_20 hl (by decide) rfl (fun ls hl => ?_)
  replace hl : lv_has ls 9 [(5, .int v24), (4, .int v22), (0, .ref h0), (1, .int p1), (2, .int p2), (3, .int p3)] := hl
  refine lv_iconst (v := 0) hx hb dX12_lastingOf_22 rfl ?_
  refine lv_istore hx hb dX12_lastingOf_23 hl (by decide) rfl (fun ls hl => ?_)
  replace hl : lv_has ls 9 [(6, .int 0), (5, .int v24), (4, .int v22), (0, .ref h0), (1, .int p1), (2, .int p2), (3, .int p3)] := hl
  have L25 : ∀ (n28 : Nat) (locs28 : List Loc) (v25 : Int32) (z25 : Int) (v26 : Int32) (z26 : Int) (v27 : Int32) (z27 : Int) (ls : Array Slot), (a2 - z25).toNat < n28 → v25.toInt = z25 → v26.toInt = z26 → v27.toInt = z27 → 0 ≤ z25 → va_S (AΓ Γ) H0 H0 locs28 → lv_has ls 9 [(6, .int v25), (5, .int v26), (4, .int v27), (0, .ref h0), (1, .int p1), (2, .int p2), (3, .int p3)] → W p l e (rmL 1) s m args below meth c H0 locs28 0 0 Qz (F0 m 25 ls []) := by
    intro n28
    induction n28 with
    | zero => intro locs28 v25 z25 v26 z26 v27 z27 ls hm28 ev25 ev26 ev27 iv28_0 hS28 hl; exact absurd hm28 (Nat.not_lt_zero _)
    | succ n28 ih28 =>
      intro locs28 v25 z25 v26 z26 v27 z27 ls hm28 ev25 ev26 ev27 iv28_0 hS28 hl
      refine lv_iload hx hb dX12_lastingOf_25 (lv_at hl 0 rfl) ?_
      refine lv_iload_n hx hb dX12_lastingOf_27 rfl (lv_at hl 5 rfl) ?_
      have c29 := i_rng p2; rw [show p2.toInt = a2 from e2] at c29
      refine q_icmp_ge hx hb (a := z25) (b := a2) ev25 e2 (tgt := 98) dX12_lastingOf_28 rfl (fun c30 => ?_) (fun c30 => ?_)
      · refine lv_iload hx hb dX12_lastingOf_98 (lv_at hl 1 rfl) ?_
        exact ret v26 H0 locs28 _ _ dX12_lastingOf_100 ⟨rfl, trivial⟩ hC0 hS28
      · refine lv_iload_n hx hb dX12_lastingOf_31 rfl (lv_at hl 6 rfl) ?_
        refine lv_aload_n hx hb dX12_lastingOf_32 rfl (lv_at hl 3 rfl) ?_
        refine q_getC E hC0 g0 fa_RX12_35 uc dX12_lastingOf_33 ?_
        refine lv_bipush (v := 98) hx hb dX12_lastingOf_36 rfl ?_
        refine lv_iload_n hx hb dX12_lastingOf_38 rfl (lv_at hl 4 rfl) ?_
        refine lv_iadd hx hb dX12_lastingOf_39 (lv_topi (fun v31 ev31 => ?_))
        have ev31i : v31.toInt = (98 + a1) := i_add ev31 (by decide) e1 (by omega) (by omega)
        refine q_cald E hC0 (lo := 0) (hi := 9) gca (a := (98 + a1)) ev31i (by omega) (by omega) (cr_c98 (by omega) (by omega)) dX12_lastingOf_40 (fun v32 ev32 lv32 uv32 => ?_)
        refine lv_iadd hx hb dX12_lastingOf_41 (lv_topi (fun v33 ev33 => ?_))
        refine lv_istore hx hb dX12_lastingOf_42 hl (by decide) rfl (fun ls hl => ?_)
        replace hl : lv_has ls 9 [(7, .int v33), (6, .int v25), (5, .int v26), (4, .int v27), (0, .ref h0), (1, .int p1), (2, .int p2), (3, .int p3)] := hl
        refine lv_iload hx hb dX12_lastingOf_44 (lv_at hl 0 rfl) ?_
        refine lv_iload hx hb dX12_lastingOf_46 (lv_at hl 3 rfl) ?_
        refine q_mmin E hl.1 w_1740 mathw_min (a := v33.toInt) (b := z27) rfl ev27 (by decide) (Nat.zero_le _) dX12_lastingOf_48 (fun v34 mv34a mv34b mv34c => ?_)
        refine lv_istore hx hb dX12_lastingOf_51 hl (by decide) rfl (fun ls hl => ?_)
        replace hl : lv_has ls 9 [(8, .int v34), (7, .int v33), (6, .int v25), (5, .int v26), (4, .int v27), (0, .ref h0), (1, .int p1), (2, .int p2), (3, .int p3)] := hl
        refine lv_iload hx hb dX12_lastingOf_53 (lv_at hl 4 rfl) ?_
        refine lv_iload hx hb dX12_lastingOf_55 (lv_at hl 0 rfl) ?_
        refine lv_isub hx hb dX12_lastingOf_57 (lv_topi (fun v35 ev35 => ?_))
        refine lv_istore hx hb dX12_lastingOf_58 hl (by decide) rfl (fun ls hl => ?_)
        replace hl : lv_has ls 9 [(4, .int v35), (8, .int v34), (7, .int v33), (6, .int v25), (5, .int v26), (0, .ref h0), (1, .int p1), (2, .int p2), (3, .int p3)] := hl
        refine lv_iload hx hb dX12_lastingOf_60 (lv_at hl 3 rfl) ?_
        refine q_if_gt hx hb (a := z25) ev25 (tgt := 78) dX12_lastingOf_62 rfl (fun c36 => ?_) (fun c36 => ?_)
        · refine lv_iconst (v := 0) hx hb dX12_lastingOf_78 rfl ?_
          refine lv_iload hx hb dX12_lastingOf_79 (lv_at hl 4 rfl) ?_
          refine lv_iload hx hb dX12_lastingOf_81 (lv_at hl 2 rfl) ?_
          refine lv_isub hx hb dX12_lastingOf_83 (lv_topi (fun v37 ev37 => ?_))
          refine lv_iload hx hb dX12_lastingOf_84 (lv_at hl 1 rfl) ?_
          refine lv_iadd hx hb dX12_lastingOf_86 (lv_topi (fun v38 ev38 => ?_))
          refine q_mmax E hl.1 w_1731 mathw_max (a := 0) (b := v38.toInt) (show (0 : Int32).toInt = 0 from by decide) rfl (by decide) (Nat.zero_le _) dX12_lastingOf_87 (fun v39 mv39a mv39b mv39c => ?_)
          refine lv_istore hx hb dX12_lastingOf_90 hl (by decide) rfl (fun ls hl => ?_)
          replace hl : lv_has ls 9 [(5, .int v39), (4, .int v35), (8, .int v34), (7, .int v33), (6, .int v25), (0, .ref h0), (1, .int p1), (2, .int p2), (3, .int p3)] := hl
          obtain ⟨v40, ev40⟩ : ∃ z, z = v25 + Int32.ofInt 1 := ⟨_, rfl⟩
          have ev40i : v40.toInt = (z25 + 1) := i_add ev40 ev25 (by decide) (by omega) (by omega)
          refine lv_iinc hx hb dX12_lastingOf_92 hl (k := 4) rfl ev40.symm (by decide) rfl (fun ls hl => ?_)
          replace hl : lv_has ls 9 [(6, .int v40), (5, .int v39), (4, .int v35), (8, .int v34), (7, .int v33), (0, .ref h0), (1, .int p1), (2, .int p2), (3, .int p3)] := hl
          refine lv_goto (tgt := 25) hx hb dX12_lastingOf_95 rfl ?_
          exact ih28 locs28 v40 ((z25 + 1)) v39 (v39.toInt) v35 (v35.toInt) ls (by omega) ev40i rfl rfl (by omega) hS28 (lv_sub hl [0, 1, 2, 5, 6, 7, 8] rfl)
        · refine lv_aload_n hx hb dX12_lastingOf_65 rfl (lv_at hl 5 rfl) ?_
          refine q_getC E hC0 g0 fa_RX12_35 uc dX12_lastingOf_66 ?_
          refine lv_sipush (v := 170) hx hb dX12_lastingOf_69 rfl ?_
          refine lv_iload_n hx hb dX12_lastingOf_72 rfl (lv_at hl 6 rfl) ?_
          refine lv_iadd hx hb dX12_lastingOf_73 (lv_topi (fun v41 ev41 => ?_))
          have ev41i : v41.toInt = (170 + a1) := i_add ev41 (by decide) e1 (by omega) (by omega)
          refine q_cald E hC0 (lo := -2147483648) (hi := 2147483647) gca (a := (170 + a1)) ev41i (by omega) (by omega) (cr_c134 (by omega) (by omega)) dX12_lastingOf_74 (fun v42 ev42 _ _ => ?_)
          refine q_if_ne hx hb (a := v42.toInt) rfl (tgt := 92) dX12_lastingOf_75 rfl (fun c43 => ?_) (fun c43 => ?_)
          · obtain ⟨v44, ev44⟩ : ∃ z, z = v25 + Int32.ofInt 1 := ⟨_, rfl⟩
            have ev44i : v44.toInt = (z25 + 1) := i_add ev44 ev25 (by decide) (by omega) (by omega)
            refine lv_iinc hx hb dX12_lastingOf_92 hl (k := 3) rfl ev44.symm (by decide) rfl (fun ls hl => ?_)
            replace hl : lv_has ls 9 [(6, .int v44), (4, .int v35), (8, .int v34), (7, .int v33), (5, .int v26), (0, .ref h0), (1, .int p1), (2, .int p2), (3, .int p3)] := hl
            refine lv_goto (tgt := 25) hx hb dX12_lastingOf_95 rfl ?_
            exact ih28 locs28 v44 ((z25 + 1)) v26 (z26) v35 (v35.toInt) ls (by omega) ev44i ev26 rfl (by omega) hS28 (lv_sub hl [0, 4, 1, 5, 6, 7, 8] rfl)
          · refine lv_iconst (v := 0) hx hb dX12_lastingOf_78 rfl ?_
            refine lv_iload hx hb dX12_lastingOf_79 (lv_at hl 4 rfl) ?_
            refine lv_iload hx hb dX12_lastingOf_81 (lv_at hl 2 rfl) ?_
            refine lv_isub hx hb dX12_lastingOf_83 (lv_topi (fun v45 ev45 => ?_))
            refine lv_iload hx hb dX12_lastingOf_84 (lv_at hl 1 rfl) ?_
            refine lv_iadd hx hb dX12_lastingOf_86 (lv_topi (fun v46 ev46 => ?_))
            refine q_mmax E hl.1 w_1731 mathw_max (a := 0) (b := v46.toInt) (show (0 : Int32).toInt = 0 from by decide) rfl (by decide) (Nat.zero_le _) dX12_lastingOf_87 (fun v47 mv47a mv47b mv47c => ?_)
            refine lv_istore hx hb dX12_lastingOf_90 hl (by decide) rfl (fun ls hl => ?_)
            replace hl : lv_has ls 9 [(5, .int v47), (4, .int v35), (8, .int v34), (7, .int v33), (6, .int v25), (0, .ref h0), (1, .int p1), (2, .int p2), (3, .int p3)] := hl
            obtain ⟨v48, ev48⟩ : ∃ z, z = v25 + Int32.ofInt 1 := ⟨_, rfl⟩
            have ev48i : v48.toInt = (z25 + 1) := i_add ev48 ev25 (by decide) (by omega) (by omega)
            refine lv_iinc hx hb dX12_lastingOf_92 hl (k := 4) rfl ev48.symm (by decide) rfl (fun ls hl => ?_)
            replace hl : lv_has ls 9 [(6, .int v48), (5, .int v47), (4, .int v35), (8, .int v34), (7, .int v33), (0, .ref h0), (1, .int p1), (2, .int p2), (3, .int p3)] := hl
            refine lv_goto (tgt := 25) hx hb dX12_lastingOf_95 rfl ?_
            exact ih28 locs28 v48 ((z25 + 1)) v47 (v47.toInt) v35 (v35.toInt) ls (by omega) ev48i rfl rfl (by omega) hS28 (lv_sub hl [0, 1, 2, 5, 6, 7, 8] rfl)
  exact L25 _ [] 0 0 v24 v24.toInt v22 v22.toInt ls (Nat.lt_succ_self _) (by decide) rfl rfl (by omega) hS0 hl
set_option maxRecDepth 100000 in
set_option maxHeartbeats 4000000 in
theorem m_X12_lasting (l : Launch) (X : xW) (Γ : Nat → Option Nat) (H0 : Heap) (hC0 : Conf X Γ H0) (h0 : Nat) (g0 : Γ h0 = some 11) (p1 : Int32) {a1 : Int} (e1 : p1.toInt = a1) (p2 : Int32) {a2 : Int} (e2 : p2.toInt = a2) (p3 : Int32) {a3 : Int} (e3 : p3.toInt = a3) (ca : Nat) (gca : Γ ca = some 64) (uc : ∀ a, Γ a = some 64 → a = ca) : Ctr l X Γ yX12_lasting cX12_lasting 7 (some .int) 2 [.ref h0, .int p1, .int p2, .int p3] H0 (QI X Γ (fun v H1 => Kp X Γ [1, 6, 7, 8, 9, 10, 11, 12, 14, 15, 16, 17, 19, 22, 24, 26, 28] H0 H1 ∧ (True))) := by
  refine q_enterI (own := "SnowFortsModel") (by decide) rfl (Nat.le_of_ble_eq_true rfl) ?_
  intro p e s m args below meth c ls Qz E hl ret hS0
  have hx := E.1; have hb := E.2.1
  have hKp0 : Kp X Γ [1, 6, 7, 8, 9, 10, 11, 12, 14, 15, 16, 17, 19, 22, 24, 26, 28] H0 H0 := Kp.rf
  have hl : lv_has ls 7 [(0, .ref h0), (1, .int p1), (2, .int p2), (3, .int p3)] := hl
  refine lv_aload_n hx hb dX12_lasting_0 rfl (lv_at hl 0 rfl) ?_
  refine lv_iconst (v := 0) hx hb dX12_lasting_1 rfl ?_
  refine q_put E hC0 hS0 g0 fp_RX12_69 tv_F rfl rfl dX12_lasting_2 (fun H21 locs21 hC21 hS21 U21 => ?_)
  have hKp21 := Kp.upO E g0 fp_RX12_69 rfl U21 hKp0
  have e22 := up_I U21
  refine lv_aload_n hx hb dX12_lasting_5 rfl (lv_at hl 0 rfl) ?_
  refine lv_iconst (v := 0) hx hb dX12_lasting_6 rfl ?_
  refine q_put E hC21 hS21 g0 fp_RX12_72 tv_F rfl rfl dX12_lasting_7 (fun H23 locs23 hC23 hS23 U23 => ?_)
  have hKp23 := Kp.upO E g0 fp_RX12_72 rfl U23 hKp21
  have e24 := up_I U23
  refine lv_aload_n hx hb dX12_lasting_10 rfl (lv_at hl 0 rfl) ?_
  refine lv_iload_n hx hb dX12_lasting_11 rfl (lv_at hl 1 rfl) ?_
  refine q_goIp (q_runV (As := [.int p1]) (rest := []) E hC23 hS23 (m_X12_isSchoolAt l X Γ H23 hC23 h0 g0 p1 (a1 := a1) e1 ca gca uc) cw_X12_isSchoolAt cl_RX12_304 g0 ⟨rfl, rfl⟩ rfl hl.1 rfl (Nat.zero_le _) (by decide) dX12_lasting_12) hS23 (fun v25 locs25 hr25 hS25 => ?_)
  rcases hr25 with ⟨rfl, f25a0, f25a1⟩ | ⟨rfl, -⟩
  · refine q_if_ne hx hb (a := 1) (by decide) (tgt := 24) dX12_lasting_15 rfl (fun c26 => ?_) (fun c26 => absurd c26 (by omega))
    refine lv_iload_n hx hb dX12_lasting_24 rfl (lv_at hl 2 rfl) ?_
    refine lv_i2l (v := p2.toInt64) hx hb dX12_lasting_25 rfl (lv_topl (fun v27 ev27 => ?_))
    have ev27i : v27.toInt = a2 := l_ofi ev27.symm e2
    refine lv_lconst (v := 0) hx hb dX12_lasting_26 rfl ?_
    refine lv_ldc2 (v := 30) hx hb E.2.2.2.1 (E.2.2.2.2.1 _ w_1840) dX12_lasting_27 ?_
    refine q_goIp (q_runS (As := [.long v27, .long 0, .long 30]) (rest := []) E hS25 (m_X12_isIn l X Γ H23 hC23 v27 (a0 := a2) ev27i 0 (a1 := 0) (show (0 : Int64).toInt = 0 from by decide) 30 (a2 := 30) (show (30 : Int64).toInt = 30 from by decide)) cw_X12_isIn cl_RX12_104 rfl hl.1 rfl (Nat.zero_le _) (by decide) dX12_lasting_30) hS25 (fun v28 locs28 hr28 hS28 => ?_)
    rcases hr28 with ⟨rfl, f28a0, f28a1⟩ | ⟨rfl, f28b⟩
    · refine q_if_eq hx hb (a := 1) (by decide) (tgt := 48) dX12_lasting_33 rfl (fun c29 => absurd c29 (by omega)) (fun c29 => ?_)
      refine lv_iload_n hx hb dX12_lasting_36 rfl (lv_at hl 3 rfl) ?_
      refine lv_i2l (v := p3.toInt64) hx hb dX12_lasting_37 rfl (lv_topl (fun v30 ev30 => ?_))
      have ev30i : v30.toInt = a3 := l_ofi ev30.symm e3
      refine lv_lconst (v := 0) hx hb dX12_lasting_38 rfl ?_
      refine lv_ldc2 (v := 40) hx hb E.2.2.2.1 (E.2.2.2.2.1 _ w_1726) dX12_lasting_39 ?_
      refine q_goIp (q_runS (As := [.long v30, .long 0, .long 40]) (rest := []) E hS28 (m_X12_isIn l X Γ H23 hC23 v30 (a0 := a3) ev30i 0 (a1 := 0) (show (0 : Int64).toInt = 0 from by decide) 40 (a2 := 40) (show (40 : Int64).toInt = 40 from by decide)) cw_X12_isIn cl_RX12_104 rfl hl.1 rfl (Nat.zero_le _) (by decide) dX12_lasting_42) hS28 (fun v31 locs31 hr31 hS31 => ?_)
      rcases hr31 with ⟨rfl, f31a0, f31a1⟩ | ⟨rfl, f31b⟩
      · refine q_if_ne hx hb (a := 1) (by decide) (tgt := 54) dX12_lasting_45 rfl (fun c32 => ?_) (fun c32 => absurd c32 (by omega))
        refine lv_iconst (v := 0) hx hb dX12_lasting_54 rfl ?_
        refine lv_istore hx hb dX12_lasting_55 hl (by decide) rfl (fun ls hl => ?_)
        replace hl : lv_has ls 7 [(4, .int 0), (0, .ref h0), (1, .int p1), (2, .int p2), (3, .int p3)] := hl
        refine lv_iconst (v := 0) hx hb dX12_lasting_57 rfl ?_
        refine lv_istore hx hb dX12_lasting_58 hl (by decide) rfl (fun ls hl => ?_)
        replace hl : lv_has ls 7 [(5, .int 0), (4, .int 0), (0, .ref h0), (1, .int p1), (2, .int p2), (3, .int p3)] := hl
        have L60 : ∀ (n35 : Nat) (locs35 : List Loc) (v33 : Int32) (z33 : Int) (v34 : Int32) (z34 : Int) (ls : Array Slot), (6 - z33).toNat < n35 → v33.toInt = z33 → v34.toInt = z34 → z33 ≤ 6 → 0 ≤ z33 → va_S (AΓ Γ) H0 H23 locs35 → lv_has ls 7 [(5, .int v33), (4, .int v34), (0, .ref h0), (1, .int p1), (2, .int p2), (3, .int p3)] → W p l e (rmL 2) s m args below meth c H23 locs35 0 0 Qz (F0 m 60 ls []) := by
          intro n35
          induction n35 with
          | zero => intro locs35 v33 z33 v34 z34 ls hm35 ev33 ev34 iv35_0 iv35_1 hS35 hl; exact absurd hm35 (Nat.not_lt_zero _)
          | succ n35 ih35 =>
            intro locs35 v33 z33 v34 z34 ls hm35 ev33 ev34 iv35_0 iv35_1 hS35 hl
            refine lv_iload hx hb dX12_lasting_60 (lv_at hl 0 rfl) ?_
            refine lv_aload_n hx hb dX12_lasting_62 rfl (lv_at hl 2 rfl) ?_
            refine q_getC E hC23 g0 fa_RX12_35 uc dX12_lasting_63 ?_
            refine lv_iconst (v := 1) hx hb dX12_lasting_66 rfl ?_
            refine q_cald E hC23 (lo := 0) (hi := 6) gca (a := 1) (show (1 : Int32).toInt = 1 from by decide) (by omega) (by omega) (cr_c0 (by omega) (by omega)) dX12_lasting_67 (fun v36 ev36 lv36 uv36 => ?_)
            refine q_icmp_ge hx hb (a := z33) (b := v36.toInt) ev33 rfl (tgt := 129) dX12_lasting_68 rfl (fun c37 => ?_) (fun c37 => ?_)
            · refine lv_iload hx hb dX12_lasting_129 (lv_at hl 1 rfl) ?_
              exact ret v34 H23 locs35 _ _ dX12_lasting_131 ⟨hKp23, trivial⟩ hC23 hS35
            · refine lv_iconst (v := 0) hx hb dX12_lasting_71 rfl ?_
              refine lv_istore hx hb dX12_lasting_72 hl (by decide) rfl (fun ls hl => ?_)
              replace hl : lv_has ls 7 [(6, .int 0), (5, .int v33), (4, .int v34), (0, .ref h0), (1, .int p1), (2, .int p2), (3, .int p3)] := hl
              have L74 : ∀ (n40 : Nat) (locs40 : List Loc) (v38 : Int32) (z38 : Int) (v39 : Int32) (z39 : Int) (ls : Array Slot), (6 - z38).toNat < n40 → v38.toInt = z38 → v39.toInt = z39 → z38 ≤ 6 → 0 ≤ z38 → va_S (AΓ Γ) H0 H23 locs40 → lv_has ls 7 [(6, .int v38), (5, .int v33), (4, .int v39), (0, .ref h0), (1, .int p1), (2, .int p2), (3, .int p3)] → W p l e (rmL 2) s m args below meth c H23 locs40 0 0 Qz (F0 m 74 ls []) := by
                intro n40
                induction n40 with
                | zero => intro locs40 v38 z38 v39 z39 ls hm40 ev38 ev39 iv40_0 iv40_1 hS40 hl; exact absurd hm40 (Nat.not_lt_zero _)
                | succ n40 ih40 =>
                  intro locs40 v38 z38 v39 z39 ls hm40 ev38 ev39 iv40_0 iv40_1 hS40 hl
                  refine lv_iload hx hb dX12_lasting_74 (lv_at hl 0 rfl) ?_
                  refine lv_aload_n hx hb dX12_lasting_76 rfl (lv_at hl 3 rfl) ?_
                  refine q_getC E hC23 g0 fa_RX12_35 uc dX12_lasting_77 ?_
                  refine lv_iconst (v := 0) hx hb dX12_lasting_80 rfl ?_
                  refine q_cald E hC23 (lo := 0) (hi := 6) gca (a := 0) (show (0 : Int32).toInt = 0 from by decide) (by omega) (by omega) (cr_c0 (by omega) (by omega)) dX12_lasting_81 (fun v41 ev41 lv41 uv41 => ?_)
                  refine q_icmp_ge hx hb (a := z38) (b := v41.toInt) ev38 rfl (tgt := 123) dX12_lasting_82 rfl (fun c42 => ?_) (fun c42 => ?_)
                  · obtain ⟨v43, ev43⟩ : ∃ z, z = v33 + Int32.ofInt 1 := ⟨_, rfl⟩
                    have ev43i : v43.toInt = (z33 + 1) := i_add ev43 ev33 (by decide) (by omega) (by omega)
                    refine lv_iinc hx hb dX12_lasting_123 hl (k := 1) rfl ev43.symm (by decide) rfl (fun ls hl => ?_)
                    replace hl : lv_has ls 7 [(5, .int v43), (6, .int v38), (4, .int v39), (0, .ref h0), (1, .int p1), (2, .int p2), (3, .int p3)] := hl
                    refine lv_goto (tgt := 60) hx hb dX12_lasting_126 rfl ?_
                    exact ih35 locs40 v43 ((z33 + 1)) v39 (z39) ls (by omega) ev43i ev39 (by omega) (by omega) hS40 (lv_sub hl [0, 2, 3, 4, 5, 6] rfl)
                  · refine lv_iload hx hb dX12_lasting_85 (lv_at hl 2 rfl) ?_
                    refine lv_aload_n hx hb dX12_lasting_87 rfl (lv_at hl 3 rfl) ?_
                    refine lv_iload hx hb dX12_lasting_88 (lv_at hl 0 rfl) ?_
                    refine q_goIp (q_runV (As := [.int v38]) (rest := [.int v39]) E hC23 hS40 (m_X12_halfOf l X Γ H23 hC23 h0 g0 v38 (a1 := z38) ev38 ca gca uc) cw_X12_halfOf cl_RX12_270 g0 ⟨rfl, rfl⟩ rfl hl.1 rfl (show _ ≤ _ from by simp [Value.category]) (by decide) dX12_lasting_90) hS40 (fun v44 locs44 hr44 hS44 => ?_)
                    obtain ⟨f44_0, f44_1⟩ := hr44
                    refine lv_iload_n hx hb dX12_lasting_93 rfl (lv_at hl 4 rfl) ?_
                    refine q_icmp_ne hx hb (a := v44.toInt) (b := a1) rfl e1 (tgt := 113) dX12_lasting_94 rfl (fun c45 => ?_) (fun c45 => ?_)
                    · refine lv_iconst (v := 0) hx hb dX12_lasting_113 rfl ?_
                      refine lv_iadd hx hb dX12_lasting_114 (lv_topi (fun v46 ev46 => ?_))
                      have c47 := i_rng v39; rw [show v39.toInt = z39 from ev39] at c47
                      have ev46i : v46.toInt = (z39 + 0) := i_add ev46 ev39 (by decide) (by omega) (by omega)
                      refine lv_istore hx hb dX12_lasting_115 hl (by decide) rfl (fun ls hl => ?_)
                      replace hl : lv_has ls 7 [(4, .int v46), (6, .int v38), (5, .int v33), (0, .ref h0), (1, .int p1), (2, .int p2), (3, .int p3)] := hl
                      obtain ⟨v48, ev48⟩ : ∃ z, z = v38 + Int32.ofInt 1 := ⟨_, rfl⟩
                      have ev48i : v48.toInt = (z38 + 1) := i_add ev48 ev38 (by decide) (by omega) (by omega)
                      refine lv_iinc hx hb dX12_lasting_117 hl (k := 1) rfl ev48.symm (by decide) rfl (fun ls hl => ?_)
                      replace hl : lv_has ls 7 [(6, .int v48), (4, .int v46), (5, .int v33), (0, .ref h0), (1, .int p1), (2, .int p2), (3, .int p3)] := hl
                      refine lv_goto (tgt := 74) hx hb dX12_lasting_120 rfl ?_
                      exact ih40 locs44 v48 ((z38 + 1)) v46 ((z39 + 0)) ls (by omega) ev48i ev46i (by omega) (by omega) hS44 (lv_sub hl [0, 2, 1, 3, 4, 5, 6] rfl)
                    · refine lv_aload_n hx hb dX12_lasting_97 rfl (lv_at hl 3 rfl) ?_
                      refine lv_iload hx hb dX12_lasting_98 (lv_at hl 0 rfl) ?_
                      refine lv_iload hx hb dX12_lasting_100 (lv_at hl 1 rfl) ?_
                      refine q_goIp (q_runS (As := [.int v38, .int v33]) (rest := [.ref h0, .int v39]) E hS44 (m_X12_at2 l X Γ H23 hC23 v38 (a0 := z38) ev38 v33 (a1 := z33) ev33 (by omega) (by omega) (by omega) (by omega)) cw_X12_at2 cl_RX12_292 rfl hl.1 rfl (show _ ≤ _ from by simp [Value.category]) (by decide) dX12_lasting_102) hS44 (fun v49 locs49 hr49 hS49 => ?_)
                      have f49_0 := hr49
                      refine lv_iload_n hx hb dX12_lasting_105 rfl (lv_at hl 5 rfl) ?_
                      refine lv_iload_n hx hb dX12_lasting_106 rfl (lv_at hl 6 rfl) ?_
                      refine q_goIp (q_runV (As := [.int v49, .int p2, .int p3]) (rest := [.int v39]) E hC23 hS49 (m_X12_lastingOf l X Γ H23 hC23 h0 g0 v49 (a1 := v49.toInt) rfl p2 (a2 := a2) e2 p3 (a3 := a3) e3 ca gca uc (by omega) (by omega)) cw_X12_lastingOf cl_RX12_371 g0 ⟨rfl, rfl⟩ rfl hl.1 rfl (show _ ≤ _ from by simp [Value.category]) (by decide) dX12_lasting_107) hS49 (fun v50 locs50 hr50 hS50 => ?_)
                      refine lv_goto (tgt := 114) hx hb dX12_lasting_110 rfl ?_
                      refine lv_iadd hx hb dX12_lasting_114 (lv_topi (fun v51 ev51 => ?_))
                      refine lv_istore hx hb dX12_lasting_115 hl (by decide) rfl (fun ls hl => ?_)
                      replace hl : lv_has ls 7 [(4, .int v51), (6, .int v38), (5, .int v33), (0, .ref h0), (1, .int p1), (2, .int p2), (3, .int p3)] := hl
                      obtain ⟨v52, ev52⟩ : ∃ z, z = v38 + Int32.ofInt 1 := ⟨_, rfl⟩
                      have ev52i : v52.toInt = (z38 + 1) := i_add ev52 ev38 (by decide) (by omega) (by omega)
                      refine lv_iinc hx hb dX12_lasting_117 hl (k := 1) rfl ev52.symm (by decide) rfl (fun ls hl => ?_)
                      replace hl : lv_has ls 7 [(6, .int v52), (4, .int v51), (5, .int v33), (0, .ref h0), (1, .int p1), (2, .int p2), (3, .int p3)] := hl
                      refine lv_goto (tgt := 74) hx hb dX12_lasting_120 rfl ?_
                      exact ih40 locs50 v52 ((z38 + 1)) v51 (v51.toInt) ls (by omega) ev52i rfl (by omega) (by omega) hS50 (lv_sub hl [0, 2, 1, 3, 4, 5, 6] rfl)
              exact L74 _ locs35 0 0 v34 z34 ls (Nat.lt_succ_self _) (by decide) ev34 (by omega) (by omega) hS35 hl
        exact L60 _ locs31 0 0 0 0 ls (Nat.lt_succ_self _) (by decide) (by decide) (by omega) (by omega) hS31 hl
      · refine q_if_ne hx hb (a := 0) (by decide) (tgt := 54) dX12_lasting_45 rfl (fun c53 => absurd c53 (by omega)) (fun c53 => ?_)
        refine lv_aload_n hx hb dX12_lasting_48 rfl (lv_at hl 0 rfl) ?_
        refine lv_iconst (v := 5) hx hb dX12_lasting_49 rfl ?_
        refine q_goI (q_runV (As := [.int 5]) (rest := []) E hC23 hS31 (m_X12_refuse l X Γ H23 hC23 h0 g0 5 (a1 := 5) (by decide) ca gca uc) cw_X12_refuse cl_RX12_298 g0 ⟨rfl, rfl⟩ rfl hl.1 rfl (Nat.zero_le _) (by decide) dX12_lasting_50) hS31 (fun v54 H54 locs54 hr54 hC54 hS54 => ?_)
        obtain ⟨hp54, hr54⟩ := hr54
        have hKp54 := hKp23.tr (hp54.mono rfl)
        have f54_0 := hr54
        exact ret v54 H54 locs54 _ _ dX12_lasting_53 ⟨hKp54, trivial⟩ hC54 hS54
    · refine q_if_eq hx hb (a := 0) (by decide) (tgt := 48) dX12_lasting_33 rfl (fun c55 => ?_) (fun c55 => absurd c55 (by omega))
      refine lv_aload_n hx hb dX12_lasting_48 rfl (lv_at hl 0 rfl) ?_
      refine lv_iconst (v := 5) hx hb dX12_lasting_49 rfl ?_
      refine q_goI (q_runV (As := [.int 5]) (rest := []) E hC23 hS28 (m_X12_refuse l X Γ H23 hC23 h0 g0 5 (a1 := 5) (by decide) ca gca uc) cw_X12_refuse cl_RX12_298 g0 ⟨rfl, rfl⟩ rfl hl.1 rfl (Nat.zero_le _) (by decide) dX12_lasting_50) hS28 (fun v56 H56 locs56 hr56 hC56 hS56 => ?_)
      obtain ⟨hp56, hr56⟩ := hr56
      have hKp56 := hKp23.tr (hp56.mono rfl)
      have f56_0 := hr56
      exact ret v56 H56 locs56 _ _ dX12_lasting_53 ⟨hKp56, trivial⟩ hC56 hS56
  · refine q_if_ne hx hb (a := 0) (by decide) (tgt := 24) dX12_lasting_15 rfl (fun c57 => absurd c57 (by omega)) (fun c57 => ?_)
    refine lv_aload_n hx hb dX12_lasting_18 rfl (lv_at hl 0 rfl) ?_
    refine lv_iconst (v := 2) hx hb dX12_lasting_19 rfl ?_
    refine q_goI (q_runV (As := [.int 2]) (rest := []) E hC23 hS25 (m_X12_refuse l X Γ H23 hC23 h0 g0 2 (a1 := 2) (by decide) ca gca uc) cw_X12_refuse cl_RX12_298 g0 ⟨rfl, rfl⟩ rfl hl.1 rfl (Nat.zero_le _) (by decide) dX12_lasting_20) hS25 (fun v58 H58 locs58 hr58 hC58 hS58 => ?_)
    obtain ⟨hp58, hr58⟩ := hr58
    have hKp58 := hKp23.tr (hp58.mono rfl)
    have f58_0 := hr58
    exact ret v58 H58 locs58 _ _ dX12_lasting_23 ⟨hKp58, trivial⟩ hC58 hS58
