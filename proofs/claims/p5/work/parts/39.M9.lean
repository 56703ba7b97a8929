set_option maxRecDepth 100000 in
set_option maxHeartbeats 4000000 in
theorem m_X12_power (l : Launch) (X : xW) (Γ : Nat → Option Nat) (H0 : Heap) (hC0 : Conf X Γ H0) (p0 : Int32) {a0 : Int} (e0 : p0.toInt = a0) (r0 : 0 ≤ a0) (r1 : a0 ≤ 8) : Ctr l X Γ yX12_power cX12_power 4 (some .long) 0 [.int p0] H0 (QJ X Γ (fun v H1 => H1 = H0 ∧ ((1 ≤ v.toInt)))) := by
  refine q_enterJ (own := "SnowFortsModel") (by decide) rfl (Nat.le_of_ble_eq_true rfl) ?_
  intro p e s m args below meth c ls Qz E hl ret hS0
  have hx := E.1; have hb := E.2.1
  have hl : lv_has ls 4 [(0, .int p0)] := hl
  refine lv_lconst (v := 1) hx hb dX12_power_0 rfl ?_
  refine lv_lstore_n hx hb dX12_power_1 rfl hl (by decide) rfl (fun ls hl => ?_)
  have hl : lv_has ls 4 [(1, .long 1), (0, .int p0)] := hl
  refine lv_iconst (v := 0) hx hb dX12_power_2 rfl ?_
  refine lv_istore_n hx hb dX12_power_3 rfl hl (by decide) rfl (fun ls hl => ?_)
  have hl : lv_has ls 4 [(3, .int 0), (1, .long 1), (0, .int p0)] := hl
  have L4 : ∀ (n23 : Nat) (locs23 : List Loc) (v21 : Int32) (z21 : Int) (v22 : Int64) (z22 : Int) (ls : Array Slot), (a0 - z21).toNat < n23 → v21.toInt = z21 → v22.toInt = z22 → 0 ≤ z21 → 1 ≤ z22 → z22 ≤ pwr z21 → z21 ≤ a0 → va_S (AΓ Γ) H0 H0 locs23 → lv_has ls 4 [(3, .int v21), (1, .long v22), (0, .int p0)] → W p l e (rmL 0) s m args below meth c H0 locs23 0 0 Qz (F0 m 4 ls []) := by
    intro n23
    induction n23 with
    | zero => intro locs23 v21 z21 v22 z22 ls hm23 ev21 ev22 iv23_0 iv23_1 iv23_2 iv23_3 hS23 hl; exact absurd hm23 (Nat.not_lt_zero _)
    | succ n23 ih23 =>
      intro locs23 v21 z21 v22 z22 ls hm23 ev21 ev22 iv23_0 iv23_1 iv23_2 iv23_3 hS23 hl
      have hpw : pwr z21 ≤ 4294967296 := pwr_le (by omega) (by omega)
      refine lv_iload_n hx hb dX12_power_4 rfl (lv_at hl 0 rfl) ?_
      refine lv_iload_n hx hb dX12_power_5 rfl (lv_at hl 2 rfl) ?_
      refine q_icmp_ge hx hb (a := z21) (b := a0) ev21 e0 (tgt := 21) dX12_power_6 rfl (fun c24 => ?_) (fun c24 => ?_)
      · refine lv_lload_n hx hb dX12_power_21 rfl (lv_at hl 1 rfl) ?_
        exact ret v22 H0 locs23 _ _ dX12_power_22 ⟨rfl, by omega⟩ hC0 hS23
      · refine lv_lload_n hx hb dX12_power_9 rfl (lv_at hl 1 rfl) ?_
        refine lv_ldc2 (v := 16) hx hb E.2.2.2.1 (E.2.2.2.2.1 _ w_1935) dX12_power_10 ?_
        refine lv_lmul hx hb dX12_power_13 (lv_topl (fun v25 ev25 => ?_))
        have ev25i : v25.toInt = (z22 * 16) := l_mul ev25 ev22 (show (16 : Int64).toInt = 16 from by decide) (by omega) (by omega)
        refine lv_lstore_n hx hb dX12_power_14 rfl hl (by decide) rfl (fun ls hl => ?_)
        have hl : lv_has ls 4 [(1, .long v25), (3, .int v21), (0, .int p0)] := hl
        obtain ⟨v26, ev26⟩ : ∃ z, z = v21 + Int32.ofInt 1 := ⟨_, rfl⟩
        have ev26i : v26.toInt = (z21 + 1) := i_add ev26 ev21 (by decide) (by omega) (by omega)
        refine lv_iinc hx hb dX12_power_15 hl (k := 1) rfl ev26.symm (by decide) rfl (fun ls hl => ?_)
        have hl : lv_has ls 4 [(3, .int v26), (1, .long v25), (0, .int p0)] := hl
        refine lv_goto (tgt := 4) hx hb dX12_power_18 rfl ?_
        exact ih23 locs23 v26 ((z21 + 1)) v25 ((z22 * 16)) ls (by omega) ev26i ev25i (by omega) (by omega) (pwr_step (by omega) (by omega)) (by omega) hS23 hl
  exact L4 _ [] 0 0 1 1 ls (Nat.lt_succ_self _) (by decide) (show (1 : Int64).toInt = 1 from by decide) (by omega) (by omega) (by decide) (by omega) hS0 hl
set_option maxRecDepth 100000 in
set_option maxHeartbeats 4000000 in
theorem m_X12_fraction (l : Launch) (X : xW) (Γ : Nat → Option Nat) (H0 : Heap) (hC0 : Conf X Γ H0) (h0 : Nat) (g0 : Γ h0 = some 11) (p1 : Int64) {a1 : Int} (e1 : p1.toInt = a1) (p2 : Int64) {a2 : Int} (e2 : p2.toInt = a2) (ca : Nat) (gca : Γ ca = some 64) (uc : ∀ a, Γ a = some 64 → a = ca) (r0 : 1 ≤ a2) : Ctr l X Γ yX12_fraction cX12_fraction 11 (some .boolean) 1 [.ref h0, .long p1, .long p2] H0 (QI X Γ (fun v H1 => Kp X Γ [1, 6, 7, 8, 9, 10, 11, 12, 14, 15, 16, 17] H0 H1 ∧ (v = 0 ∨ v = 1))) := by
  refine q_enterZ (own := "SnowFortsModel") (by decide) rfl (Nat.le_of_ble_eq_true rfl) ?_
  intro p e s m args below meth c ls Qz E hl ret hS0
  have hx := E.1; have hb := E.2.1
  have hKp0 : Kp X Γ [1, 6, 7, 8, 9, 10, 11, 12, 14, 15, 16, 17] H0 H0 := Kp.rf
  have hl : lv_has ls 11 [(0, .ref h0), (1, .long p1), (3, .long p2)] := hl
  refine lv_lload_n hx hb dX12_fraction_0 rfl (lv_at hl 1 rfl) ?_
  refine q_mabsJ E hl.1 w_1943 mathw_absJ (by decide) (Nat.zero_le _) dX12_fraction_1 (fun v21 => ?_)
  refine lv_lstore hx hb dX12_fraction_4 hl (by decide) rfl (fun ls hl => ?_)
  have hl : lv_has ls 11 [(5, .long v21), (0, .ref h0), (1, .long p1), (3, .long p2)] := hl
  refine lv_lload_n hx hb dX12_fraction_6 rfl (lv_at hl 3 rfl) ?_
  refine lv_lstore hx hb dX12_fraction_7 hl (by decide) rfl (fun ls hl => ?_)
  have hl : lv_has ls 11 [(7, .long p2), (5, .long v21), (0, .ref h0), (1, .long p1), (3, .long p2)] := hl
  have L9 : ∀ (n24 : Nat) (locs24 : List Loc) (v22 : Int64) (z22 : Int) (v23 : Int64) (z23 : Int) (ls : Array Slot), z22.natAbs < n24 → v22.toInt = z22 → v23.toInt = z23 → z22 ≠ 0 ∨ z23 ≠ 0 → va_S (AΓ Γ) H0 H0 locs24 → lv_has ls 11 [(7, .long v22), (5, .long v23), (0, .ref h0), (1, .long p1), (3, .long p2)] → W p l e (rmL 1) s m args below meth c H0 locs24 0 0 Qz (F0 m 9 ls []) := by
    intro n24
    induction n24 with
    | zero => intro locs24 v22 z22 v23 z23 ls hm24 ev22 ev23 iv24_0 hS24 hl; exact absurd hm24 (Nat.not_lt_zero _)
    | succ n24 ih24 =>
      intro locs24 v22 z22 v23 z23 ls hm24 ev22 ev23 iv24_0 hS24 hl
      refine lv_lload hx hb dX12_fraction_9 (lv_at hl 0 rfl) ?_
      refine lv_lconst (v := 0) hx hb dX12_fraction_11 rfl ?_
      refine q_lcmp_eq hx hb (a := z22) (b := 0) ev22 (show (0 : Int64).toInt = 0 from by decide) (tgt := 34) dX12_fraction_12 dX12_fraction_13 rfl (fun c25 => ?_) (fun c25 => ?_)
      · refine lv_aload_n hx hb dX12_fraction_34 rfl (lv_at hl 2 rfl) ?_
        refine lv_lload_n hx hb dX12_fraction_35 rfl (lv_at hl 3 rfl) ?_
        refine lv_lload hx hb dX12_fraction_36 (lv_at hl 1 rfl) ?_
        refine lv_ldiv hx hb dX12_fraction_38 (l_nz ev23 (by omega)) (lv_topl (fun v26 ev26 => ?_))
        refine q_put E hC0 hS24 g0 fp_RX12_75 tv_J rfl rfl dX12_fraction_39 (fun H27 locs27 hC27 hS27 U27 => ?_)
        have hKp27 := Kp.upO E g0 fp_RX12_75 rfl U27 hKp0
        refine lv_aload_n hx hb dX12_fraction_42 rfl (lv_at hl 2 rfl) ?_
        refine lv_lload_n hx hb dX12_fraction_43 rfl (lv_at hl 4 rfl) ?_
        refine lv_lload hx hb dX12_fraction_44 (lv_at hl 1 rfl) ?_
        refine lv_ldiv hx hb dX12_fraction_46 (l_nz ev23 (by omega)) (lv_topl (fun v28 ev28 => ?_))
        refine q_put E hC27 hS27 g0 fp_RX12_7 tv_J rfl rfl dX12_fraction_47 (fun H29 locs29 hC29 hS29 U29 => ?_)
        have hKp29 := Kp.upO E g0 fp_RX12_7 rfl U29 hKp27
        refine lv_iconst (v := 1) hx hb dX12_fraction_50 rfl ?_
        exact ret 1 H29 locs29 _ _ dX12_fraction_51 (Or.inr rfl) ⟨hKp29, Or.inr rfl⟩ hC29 hS29
      · refine lv_lload hx hb dX12_fraction_16 (lv_at hl 1 rfl) ?_
        refine lv_lload hx hb dX12_fraction_18 (lv_at hl 0 rfl) ?_
        refine lv_lrem hx hb dX12_fraction_20 (l_nz ev22 (by omega)) (lv_topl (fun v30 ev30 => ?_))
        have bv30 := l_remB ev30 ev23 ev22 (by omega)
        refine lv_lstore hx hb dX12_fraction_21 hl (by decide) rfl (fun ls hl => ?_)
        have hl : lv_has ls 11 [(9, .long v30), (7, .long v22), (5, .long v23), (0, .ref h0), (1, .long p1), (3, .long p2)] := hl
        refine lv_lload hx hb dX12_fraction_23 (lv_at hl 1 rfl) ?_
        refine lv_lstore hx hb dX12_fraction_25 hl (by decide) rfl (fun ls hl => ?_)
        have hl : lv_has ls 11 [(5, .long v22), (9, .long v30), (7, .long v22), (0, .ref h0), (1, .long p1), (3, .long p2)] := hl
        refine lv_lload hx hb dX12_fraction_27 (lv_at hl 1 rfl) ?_
        refine lv_lstore hx hb dX12_fraction_29 hl (by decide) rfl (fun ls hl => ?_)
        have hl : lv_has ls 11 [(7, .long v30), (5, .long v22), (9, .long v30), (0, .ref h0), (1, .long p1), (3, .long p2)] := hl
        refine lv_goto (tgt := 9) hx hb dX12_fraction_31 rfl ?_
        exact ih24 locs24 v30 (v30.toInt) v22 (z22) ls (by omega) rfl ev22 (by omega) hS24 (lv_sub hl [0, 1, 3, 4, 5] rfl)
  exact L9 _ [] p2 a2 v21 v21.toInt ls (Nat.lt_succ_self _) e2 rfl (by omega) hS0 hl
set_option maxRecDepth 100000 in
set_option maxHeartbeats 4000000 in
theorem m_X12_stands (l : Launch) (X : xW) (Γ : Nat → Option Nat) (H0 : Heap) (hC0 : Conf X Γ H0) (h0 : Nat) (g0 : Γ h0 = some 11) (p1 : Int32) {a1 : Int} (e1 : p1.toInt = a1) (p2 : Int32) {a2 : Int} (e2 : p2.toInt = a2) (p3 : Int32) {a3 : Int} (e3 : p3.toInt = a3) (ca : Nat) (gca : Γ ca = some 64) (uc : ∀ a, Γ a = some 64 → a = ca) : Ctr l X Γ yX12_stands cX12_stands 4 (some .boolean) 3 [.ref h0, .int p1, .int p2, .int p3] H0 (QI X Γ (fun v H1 => Kp X Γ [1, 6, 7, 8, 9, 10, 11, 12, 14, 15, 16, 17] H0 H1 ∧ (v = 0 ∨ v = 1))) := by
  refine q_enterZ (own := "SnowFortsModel") (by decide) rfl (Nat.le_of_ble_eq_true rfl) ?_
  intro p e s m args below meth c ls Qz E hl ret hS0
  have hx := E.1; have hb := E.2.1
  have hKp0 : Kp X Γ [1, 6, 7, 8, 9, 10, 11, 12, 14, 15, 16, 17] H0 H0 := Kp.rf
  have hl : lv_has ls 4 [(0, .ref h0), (1, .int p1), (2, .int p2), (3, .int p3)] := hl
  refine lv_aload_n hx hb dX12_stands_0 rfl (lv_at hl 0 rfl) ?_
  refine lv_iconst (v := 0) hx hb dX12_stands_1 rfl ?_
  refine q_put E hC0 hS0 g0 fp_RX12_69 tv_F rfl rfl dX12_stands_2 (fun H21 locs21 hC21 hS21 U21 => ?_)
  have hKp21 := Kp.upO E g0 fp_RX12_69 rfl U21 hKp0
  have e22 := up_I U21
  refine lv_aload_n hx hb dX12_stands_5 rfl (lv_at hl 0 rfl) ?_
  refine lv_aload_n hx hb dX12_stands_6 rfl (lv_at hl 0 rfl) ?_
  refine lv_iload_n hx hb dX12_stands_7 rfl (lv_at hl 1 rfl) ?_
  refine lv_iload_n hx hb dX12_stands_8 rfl (lv_at hl 2 rfl) ?_
  refine lv_iload_n hx hb dX12_stands_9 rfl (lv_at hl 3 rfl) ?_
  refine q_goI (q_runV (As := [.int p1, .int p2, .int p3]) (rest := [.ref h0]) E hC21 hS21 (m_X12_reckons l X Γ H21 hC21 h0 g0 p1 (a1 := a1) e1 p2 (a2 := a2) e2 p3 (a3 := a3) e3 ca gca uc) cw_X12_reckons cl_RX12_426 g0 ⟨rfl, rfl⟩ rfl hl.1 rfl (show _ ≤ _ from by simp [Value.category]) (by decide) dX12_stands_10) hS21 (fun v23 H23 locs23 hr23 hC23 hS23 => ?_)
  obtain ⟨hp23, hr23⟩ := hr23
  have hKp23 := hKp21.tr (hp23.mono rfl)
  obtain ⟨f23_0, f23_1⟩ := hr23
  refine q_put E hC23 hS23 g0 fp_RX12_72 tv_F rfl rfl dX12_stands_13 (fun H24 locs24 hC24 hS24 U24 => ?_)
  have hKp24 := Kp.upO E g0 fp_RX12_72 rfl U24 hKp23
  have e25 := up_I U24
  refine lv_aload_n hx hb dX12_stands_16 rfl (lv_at hl 0 rfl) ?_
  refine q_getI E hC24 g0 fa_RX12_72 dX12_stands_17 (fun v26 ev26 _ _ => ?_)
  have qv26 := e25.symm.trans ev26; subst qv26
  refine q_if_le hx hb (a := v23.toInt) rfl (tgt := 25) dX12_stands_20 rfl (fun c27 => ?_) (fun c27 => ?_)
  · refine lv_aload_n hx hb dX12_stands_25 rfl (lv_at hl 0 rfl) ?_
    refine lv_iload_n hx hb dX12_stands_26 rfl (lv_at hl 2 rfl) ?_
    refine q_goJp (q_runS (As := [.int p2]) (rest := [.ref h0]) E hS24 (m_X12_power l X Γ H24 hC24 p2 (a0 := a2) e2 (by omega) (by omega)) cw_X12_power cl_RX12_429 rfl hl.1 rfl (show _ ≤ _ from by simp [Value.category]) (by decide) dX12_stands_27) hS24 (fun v28 locs28 hr28 hS28 => ?_)
    have f28_0 := hr28
    refine lv_aload_n hx hb dX12_stands_30 rfl (lv_at hl 0 rfl) ?_
    refine q_getR E hC24 g0 fa_RX12_60 dX12_stands_31 (fun q29 eq29 gq29 => ?_)
    refine lv_iconst (v := 0) hx hb dX12_stands_34 rfl ?_
    refine q_lald E hC24 gq29 rfl rfl (fun _ => rfl) (i_in (a := 0) (show (0 : Int32).toInt = 0 from by decide) (by omega) (by omega)) dX12_stands_35 (fun v30 ev30 => ?_)
    refine lv_lsub hx hb dX12_stands_36 (lv_topl (fun v31 ev31 => ?_))
    refine lv_iload_n hx hb dX12_stands_37 rfl (lv_at hl 2 rfl) ?_
    refine q_goJp (q_runS (As := [.int p2]) (rest := [.long v31, .ref h0]) E hS28 (m_X12_power l X Γ H24 hC24 p2 (a0 := a2) e2 (by omega) (by omega)) cw_X12_power cl_RX12_429 rfl hl.1 rfl (show _ ≤ _ from by simp [Value.category]) (by decide) dX12_stands_38) hS28 (fun v32 locs32 hr32 hS32 => ?_)
    have f32_0 := hr32
    refine q_goI (q_runV (As := [.long v31, .long v32]) (rest := []) E hC24 hS32 (m_X12_fraction l X Γ H24 hC24 h0 g0 v31 (a1 := v31.toInt) rfl v32 (a2 := v32.toInt) rfl ca gca uc (by omega)) cw_X12_fraction cl_RX12_433 g0 ⟨rfl, rfl⟩ rfl hl.1 rfl (Nat.zero_le _) (by decide) dX12_stands_41) hS32 (fun v33 H33 locs33 hr33 hC33 hS33 => ?_)
    obtain ⟨hp33, hr33⟩ := hr33
    have hKp33 := hKp24.tr (hp33.mono rfl)
    rcases hr33 with rfl | rfl
    · exact ret 0 H33 locs33 _ _ dX12_stands_44 (Or.inl rfl) ⟨hKp33, Or.inl rfl⟩ hC33 hS33
    · exact ret 1 H33 locs33 _ _ dX12_stands_44 (Or.inr rfl) ⟨hKp33, Or.inr rfl⟩ hC33 hS33
  · refine lv_iconst (v := 0) hx hb dX12_stands_23 rfl ?_
    exact ret 0 H24 locs24 _ _ dX12_stands_24 (Or.inl rfl) ⟨hKp24, Or.inl rfl⟩ hC24 hS24
set_option maxRecDepth 100000 in
set_option maxHeartbeats 4000000 in
theorem m_X12_mean (l : Launch) (X : xW) (Γ : Nat → Option Nat) (H0 : Heap) (hC0 : Conf X Γ H0) (h0 : Nat) (g0 : Γ h0 = some 11) (p1 : Int32) {a1 : Int} (e1 : p1.toInt = a1) (p2 : Int32) {a2 : Int} (e2 : p2.toInt = a2) (p3 : Int32) {a3 : Int} (e3 : p3.toInt = a3) (ca : Nat) (gca : Γ ca = some 64) (uc : ∀ a, Γ a = some 64 → a = ca) : Ctr l X Γ yX12_mean cX12_mean 7 (some .boolean) 3 [.ref h0, .int p1, .int p2, .int p3] H0 (QI X Γ (fun v H1 => Kp X Γ [1, 6, 7, 8, 9, 10, 11, 12, 14, 15, 16, 17] H0 H1 ∧ (v = 0 ∨ v = 1))) := by
  refine q_enterZ (own := "SnowFortsModel") (by decide) rfl (Nat.le_of_ble_eq_true rfl) ?_
  intro p e s m args below meth c ls Qz E hl ret hS0
  have hx := E.1; have hb := E.2.1
  have hKp0 : Kp X Γ [1, 6, 7, 8, 9, 10, 11, 12, 14, 15, 16, 17] H0 H0 := Kp.rf
  have hl : lv_has ls 7 [(0, .ref h0), (1, .int p1), (2, .int p2), (3, .int p3)] := hl
  refine lv_aload_n hx hb dX12_mean_0 rfl (lv_at hl 0 rfl) ?_
  refine lv_iconst (v := 0) hx hb dX12_mean_1 rfl ?_
  refine q_put E hC0 hS0 g0 fp_RX12_69 tv_F rfl rfl dX12_mean_2 (fun H21 locs21 hC21 hS21 U21 => ?_)
  have hKp21 := Kp.upO E g0 fp_RX12_69 rfl U21 hKp0
  have e22 := up_I U21
  refine lv_aload_n hx hb dX12_mean_5 rfl (lv_at hl 0 rfl) ?_
  refine lv_aload_n hx hb dX12_mean_6 rfl (lv_at hl 0 rfl) ?_
  refine lv_iload_n hx hb dX12_mean_7 rfl (lv_at hl 1 rfl) ?_
  refine lv_iload_n hx hb dX12_mean_8 rfl (lv_at hl 2 rfl) ?_
  refine lv_iload_n hx hb dX12_mean_9 rfl (lv_at hl 3 rfl) ?_
  refine q_goI (q_runV (As := [.int p1, .int p2, .int p3]) (rest := [.ref h0]) E hC21 hS21 (m_X12_reckons l X Γ H21 hC21 h0 g0 p1 (a1 := a1) e1 p2 (a2 := a2) e2 p3 (a3 := a3) e3 ca gca uc) cw_X12_reckons cl_RX12_426 g0 ⟨rfl, rfl⟩ rfl hl.1 rfl (show _ ≤ _ from by simp [Value.category]) (by decide) dX12_mean_10) hS21 (fun v23 H23 locs23 hr23 hC23 hS23 => ?_)
  obtain ⟨hp23, hr23⟩ := hr23
  have hKp23 := hKp21.tr (hp23.mono rfl)
  obtain ⟨f23_0, f23_1⟩ := hr23
  refine q_put E hC23 hS23 g0 fp_RX12_72 tv_F rfl rfl dX12_mean_13 (fun H24 locs24 hC24 hS24 U24 => ?_)
  have hKp24 := Kp.upO E g0 fp_RX12_72 rfl U24 hKp23
  have e25 := up_I U24
  refine lv_aload_n hx hb dX12_mean_16 rfl (lv_at hl 0 rfl) ?_
  refine q_getI E hC24 g0 fa_RX12_72 dX12_mean_17 (fun v26 ev26 _ _ => ?_)
  have qv26 := e25.symm.trans ev26; subst qv26
  refine q_if_le hx hb (a := v23.toInt) rfl (tgt := 25) dX12_mean_20 rfl (fun c27 => ?_) (fun c27 => ?_)
  · refine lv_lconst (v := 0) hx hb dX12_mean_25 rfl ?_
    refine lv_lstore hx hb dX12_mean_26 hl (by decide) rfl (fun ls hl => ?_)
    have hl : lv_has ls 7 [(4, .long 0), (0, .ref h0), (1, .int p1), (2, .int p2), (3, .int p3)] := hl
    refine lv_iconst (v := 0) hx hb dX12_mean_28 rfl ?_
    refine lv_istore hx hb dX12_mean_29 hl (by decide) rfl (fun ls hl => ?_)
    have hl : lv_has ls 7 [(6, .int 0), (4, .long 0), (0, .ref h0), (1, .int p1), (2, .int p2), (3, .int p3)] := hl
    have L31 : ∀ (n30 : Nat) (locs30 : List Loc) (v28 : Int32) (z28 : Int) (v29 : Int64) (z29 : Int) (ls : Array Slot), (100 - z28).toNat < n30 → v28.toInt = z28 → v29.toInt = z29 → z28 ≤ 100 → 0 ≤ z28 → va_S (AΓ Γ) H0 H24 locs30 → lv_has ls 7 [(6, .int v28), (4, .long v29), (0, .ref h0), (1, .int p1), (2, .int p2), (3, .int p3)] → W p l e (rmL 3) s m args below meth c H24 locs30 0 0 Qz (F0 m 31 ls []) := by
      intro n30
      induction n30 with
      | zero => intro locs30 v28 z28 v29 z29 ls hm30 ev28 ev29 iv30_0 iv30_1 hS30 hl; exact absurd hm30 (Nat.not_lt_zero _)
      | succ n30 ih30 =>
        intro locs30 v28 z28 v29 z29 ls hm30 ev28 ev29 iv30_0 iv30_1 hS30 hl
        refine lv_iload hx hb dX12_mean_31 (lv_at hl 0 rfl) ?_
        refine lv_bipush (v := 100) hx hb dX12_mean_33 rfl ?_
        refine q_icmp_ge hx hb (a := z28) (b := 100) ev28 (by decide) (tgt := 60) dX12_mean_35 rfl (fun c31 => ?_) (fun c31 => ?_)
        · refine lv_aload_n hx hb dX12_mean_60 rfl (lv_at hl 2 rfl) ?_
          refine lv_lload hx hb dX12_mean_61 (lv_at hl 1 rfl) ?_
          refine lv_iload_n hx hb dX12_mean_63 rfl (lv_at hl 4 rfl) ?_
          refine q_goJp (q_runS (As := [.int p2]) (rest := [.long v29, .ref h0]) E hS30 (m_X12_power l X Γ H24 hC24 p2 (a0 := a2) e2 (by omega) (by omega)) cw_X12_power cl_RX12_429 rfl hl.1 rfl (show _ ≤ _ from by simp [Value.category]) (by decide) dX12_mean_64) hS30 (fun v32 locs32 hr32 hS32 => ?_)
          have f32_0 := hr32
          refine q_goI (q_runV (As := [.long v29, .long v32]) (rest := []) E hC24 hS32 (m_X12_fraction l X Γ H24 hC24 h0 g0 v29 (a1 := z29) ev29 v32 (a2 := v32.toInt) rfl ca gca uc (by omega)) cw_X12_fraction cl_RX12_433 g0 ⟨rfl, rfl⟩ rfl hl.1 rfl (Nat.zero_le _) (by decide) dX12_mean_67) hS32 (fun v33 H33 locs33 hr33 hC33 hS33 => ?_)
          obtain ⟨hp33, hr33⟩ := hr33
          have hKp33 := hKp24.tr (hp33.mono rfl)
          rcases hr33 with rfl | rfl
          · exact ret 0 H33 locs33 _ _ dX12_mean_70 (Or.inl rfl) ⟨hKp33, Or.inl rfl⟩ hC33 hS33
          · exact ret 1 H33 locs33 _ _ dX12_mean_70 (Or.inr rfl) ⟨hKp33, Or.inr rfl⟩ hC33 hS33
        · refine lv_lload hx hb dX12_mean_38 (lv_at hl 1 rfl) ?_
          refine lv_iload hx hb dX12_mean_40 (lv_at hl 0 rfl) ?_
          refine lv_i2l (v := v28.toInt64) hx hb dX12_mean_42 rfl (lv_topl (fun v34 ev34 => ?_))
          have ev34i : v34.toInt = z28 := l_ofi ev34.symm ev28
          refine lv_aload_n hx hb dX12_mean_43 rfl (lv_at hl 2 rfl) ?_
          refine q_getR E hC24 g0 fa_RX12_60 dX12_mean_44 (fun q35 eq35 gq35 => ?_)
          refine lv_iload hx hb dX12_mean_47 (lv_at hl 0 rfl) ?_
          refine q_lald E hC24 gq35 rfl rfl (fun _ => rfl) (i_in (a := z28) ev28 (by omega) (by omega)) dX12_mean_49 (fun v36 ev36 => ?_)
          refine lv_lmul hx hb dX12_mean_50 (lv_topl (fun v37 ev37 => ?_))
          refine lv_ladd hx hb dX12_mean_51 (lv_topl (fun v38 ev38 => ?_))
          refine lv_lstore hx hb dX12_mean_52 hl (by decide) rfl (fun ls hl => ?_)
          have hl : lv_has ls 7 [(4, .long v38), (6, .int v28), (0, .ref h0), (1, .int p1), (2, .int p2), (3, .int p3)] := hl
          obtain ⟨v39, ev39⟩ : ∃ z, z = v28 + Int32.ofInt 1 := ⟨_, rfl⟩
          have ev39i : v39.toInt = (z28 + 1) := i_add ev39 ev28 (by decide) (by omega) (by omega)
          refine lv_iinc hx hb dX12_mean_54 hl (k := 1) rfl ev39.symm (by decide) rfl (fun ls hl => ?_)
          have hl : lv_has ls 7 [(6, .int v39), (4, .long v38), (0, .ref h0), (1, .int p1), (2, .int p2), (3, .int p3)] := hl
          refine lv_goto (tgt := 31) hx hb dX12_mean_57 rfl ?_
          exact ih30 locs30 v39 ((z28 + 1)) v38 (v38.toInt) ls (by omega) ev39i rfl (by omega) (by omega) hS30 hl
    exact L31 _ locs24 0 0 0 0 ls (Nat.lt_succ_self _) (by decide) (show (0 : Int64).toInt = 0 from by decide) (by omega) (by omega) hS24 hl
  · refine lv_iconst (v := 0) hx hb dX12_mean_23 rfl ?_
    exact ret 0 H24 locs24 _ _ dX12_mean_24 (Or.inl rfl) ⟨hKp24, Or.inl rfl⟩ hC24 hS24
set_option maxRecDepth 100000 in
set_option maxHeartbeats 4000000 in
theorem m_X12_draw (l : Launch) (X : xW) (Γ : Nat → Option Nat) (H0 : Heap) (hC0 : Conf X Γ H0) (h0 : Nat) (g0 : Γ h0 = some 11) (p1 : Int32) {a1 : Int} (e1 : p1.toInt = a1) (ca : Nat) (gca : Γ ca = some 64) (uc : ∀ a, Γ a = some 64 → a = ca) (r0 : 1 ≤ a1) : Ctr l X Γ yX12_draw cX12_draw 2 (some .int) 0 [.ref h0, .int p1] H0 (QI X Γ (fun v H1 => Kp X Γ [1, 6, 7, 8, 9, 10, 11, 12, 14, 15, 16, 17] H0 H1 ∧ (True))) := by
  refine q_enterI (own := "SnowFortsModel") (by decide) rfl (Nat.le_of_ble_eq_true rfl) ?_
  intro p e s m args below meth c ls Qz E hl ret hS0
  have hx := E.1; have hb := E.2.1
  have hKp0 : Kp X Γ [1, 6, 7, 8, 9, 10, 11, 12, 14, 15, 16, 17] H0 H0 := Kp.rf
  have hl : lv_has ls 2 [(0, .ref h0), (1, .int p1)] := hl
  refine lv_aload_n hx hb dX12_draw_0 rfl (lv_at hl 0 rfl) ?_
  refine lv_aload_n hx hb dX12_draw_1 rfl (lv_at hl 0 rfl) ?_
  refine q_getI E hC0 g0 fa_RX12_437 dX12_draw_2 (fun v21 ev21 _ _ => ?_)
  refine lv_sipush (v := 2741) hx hb dX12_draw_5 rfl ?_
  refine lv_imul hx hb dX12_draw_8 (lv_topi (fun v22 ev22 => ?_))
  refine lv_sipush (v := 9337) hx hb dX12_draw_9 rfl ?_
  refine lv_iadd hx hb dX12_draw_12 (lv_topi (fun v23 ev23 => ?_))
  refine lv_ldcw (v := 65536) hx hb E.2.2.2.1 (E.2.2.2.2.1 _ w_1975) dX12_draw_13 ?_
  refine lv_irem hx hb dX12_draw_16 (by decide) (lv_topi (fun v24 ev24 => ?_))
  have ev24b := i_remB ev24 rfl (show (65536 : Int32).toInt = 65536 from by decide) (by decide)
  refine q_put E hC0 hS0 g0 fp_RX12_437 tv_F rfl rfl dX12_draw_17 (fun H25 locs25 hC25 hS25 U25 => ?_)
  have hKp25 := Kp.upO E g0 fp_RX12_437 rfl U25 hKp0
  have e26 := up_I U25
  refine lv_aload_n hx hb dX12_draw_20 rfl (lv_at hl 0 rfl) ?_
  refine q_getI E hC25 g0 fa_RX12_437 dX12_draw_21 (fun v27 ev27 _ _ => ?_)
  have qv27 := e26.symm.trans ev27; subst qv27
  refine lv_bipush (v := 8) hx hb dX12_draw_24 rfl ?_
  refine lv_idiv hx hb dX12_draw_26 (by decide) (lv_topi (fun v28 ev28 => ?_))
  refine lv_iload_n hx hb dX12_draw_27 rfl (lv_at hl 1 rfl) ?_
  refine lv_irem hx hb dX12_draw_28 (i_nz e1 (by omega)) (lv_topi (fun v29 ev29 => ?_))
  exact ret v29 H25 locs25 _ _ dX12_draw_29 ⟨hKp25, trivial⟩ hC25 hS25
set_option maxRecDepth 100000 in
set_option maxHeartbeats 4000000 in
theorem m_X12_ran (l : Launch) (X : xW) (Γ : Nat → Option Nat) (H0 : Heap) (hC0 : Conf X Γ H0) (h0 : Nat) (g0 : Γ h0 = some 11) (p1 : Int32) {a1 : Int} (e1 : p1.toInt = a1) (ca : Nat) (gca : Γ ca = some 64) (uc : ∀ a, Γ a = some 64 → a = ca) : Ctr l X Γ yX12_ran cX12_ran 2 (some .int) 1 [.ref h0, .int p1] H0 (QI X Γ (fun v H1 => Kp X Γ [1, 6, 7, 8, 9, 10, 11, 12, 14, 15, 16, 17] H0 H1 ∧ (True))) := by
  refine q_enterI (own := "SnowFortsModel") (by decide) rfl (Nat.le_of_ble_eq_true rfl) ?_
  intro p e s m args below meth c ls Qz E hl ret hS0
  have hx := E.1; have hb := E.2.1
  have hKp0 : Kp X Γ [1, 6, 7, 8, 9, 10, 11, 12, 14, 15, 16, 17] H0 H0 := Kp.rf
  have hl : lv_has ls 2 [(0, .ref h0), (1, .int p1)] := hl
  refine lv_aload_n hx hb dX12_ran_0 rfl (lv_at hl 0 rfl) ?_
  refine lv_iconst (v := 0) hx hb dX12_ran_1 rfl ?_
  refine q_put E hC0 hS0 g0 fp_RX12_69 tv_F rfl rfl dX12_ran_2 (fun H21 locs21 hC21 hS21 U21 => ?_)
  have hKp21 := Kp.upO E g0 fp_RX12_69 rfl U21 hKp0
  have e22 := up_I U21
  refine lv_aload_n hx hb dX12_ran_5 rfl (lv_at hl 0 rfl) ?_
  refine lv_iconst (v := 0) hx hb dX12_ran_6 rfl ?_
  refine q_put E hC21 hS21 g0 fp_RX12_72 tv_F rfl rfl dX12_ran_7 (fun H23 locs23 hC23 hS23 U23 => ?_)
  have hKp23 := Kp.upO E g0 fp_RX12_72 rfl U23 hKp21
  have e24 := up_I U23
  refine lv_iload_n hx hb dX12_ran_10 rfl (lv_at hl 1 rfl) ?_
  refine lv_i2l (v := p1.toInt64) hx hb dX12_ran_11 rfl (lv_topl (fun v25 ev25 => ?_))
  have ev25i : v25.toInt = a1 := l_ofi ev25.symm e1
  refine lv_lconst (v := 0) hx hb dX12_ran_12 rfl ?_
  refine lv_ldc2 (v := 3) hx hb E.2.2.2.1 (E.2.2.2.2.1 _ w_1716) dX12_ran_13 ?_
  refine q_goIp (q_runS (As := [.long v25, .long 0, .long 3]) (rest := []) E hS23 (m_X12_isIn l X Γ H23 hC23 v25 (a0 := a1) ev25i 0 (a1 := 0) (show (0 : Int64).toInt = 0 from by decide) 3 (a2 := 3) (show (3 : Int64).toInt = 3 from by decide)) cw_X12_isIn cl_RX12_104 rfl hl.1 rfl (Nat.zero_le _) (by decide) dX12_ran_16) hS23 (fun v26 locs26 hr26 hS26 => ?_)
  rcases hr26 with ⟨rfl, f26a0, f26a1⟩ | ⟨rfl, f26b⟩
  · refine q_if_ne hx hb (a := 1) (by decide) (tgt := 28) dX12_ran_19 rfl (fun c27 => ?_) (fun c27 => absurd c27 (by omega))
    refine lv_aload_n hx hb dX12_ran_28 rfl (lv_at hl 0 rfl) ?_
    refine q_getI E hC23 g0 fa_RX12_476 dX12_ran_29 (fun v28 ev28 lv28 uv28 => ?_)
    refine q_if_eq hx hb (a := v28.toInt) rfl (tgt := 44) dX12_ran_32 rfl (fun c29 => ?_) (fun c29 => ?_)
    · refine lv_aload_n hx hb dX12_ran_44 rfl (lv_at hl 0 rfl) ?_
      refine lv_bipush (v := 8) hx hb dX12_ran_45 rfl ?_
      refine q_goI (q_runV (As := [.int 8]) (rest := []) E hC23 hS26 (m_X12_refuse l X Γ H23 hC23 h0 g0 8 (a1 := 8) (by decide) ca gca uc) cw_X12_refuse cl_RX12_298 g0 ⟨rfl, rfl⟩ rfl hl.1 rfl (Nat.zero_le _) (by decide) dX12_ran_47) hS26 (fun v30 H30 locs30 hr30 hC30 hS30 => ?_)
      obtain ⟨hp30, hr30⟩ := hr30
      have hKp30 := hKp23.tr (hp30.mono rfl)
      exact ret v30 H30 locs30 _ _ dX12_ran_50 ⟨hKp30, trivial⟩ hC30 hS30
    · refine lv_aload_n hx hb dX12_ran_35 rfl (lv_at hl 0 rfl) ?_
      refine q_getR E hC23 g0 fa_RX12_66 dX12_ran_36 (fun q31 eq31 gq31 => ?_)
      refine lv_iload_n hx hb dX12_ran_39 rfl (lv_at hl 1 rfl) ?_
      refine q_iald E hC23 gq31 rfl rfl (fun _ h => h) (i_in (a := a1) e1 (by omega) (by omega)) dX12_ran_40 (fun v32 ev32 _ _ => ?_)
      refine lv_goto (tgt := 50) hx hb dX12_ran_41 rfl ?_
      exact ret v32 H23 locs26 _ _ dX12_ran_50 ⟨hKp23, trivial⟩ hC23 hS26
  · refine q_if_ne hx hb (a := 0) (by decide) (tgt := 28) dX12_ran_19 rfl (fun c33 => absurd c33 (by omega)) (fun c33 => ?_)
    refine lv_aload_n hx hb dX12_ran_22 rfl (lv_at hl 0 rfl) ?_
    refine lv_iconst (v := 5) hx hb dX12_ran_23 rfl ?_
    refine q_goI (q_runV (As := [.int 5]) (rest := []) E hC23 hS26 (m_X12_refuse l X Γ H23 hC23 h0 g0 5 (a1 := 5) (by decide) ca gca uc) cw_X12_refuse cl_RX12_298 g0 ⟨rfl, rfl⟩ rfl hl.1 rfl (Nat.zero_le _) (by decide) dX12_ran_24) hS26 (fun v34 H34 locs34 hr34 hC34 hS34 => ?_)
    obtain ⟨hp34, hr34⟩ := hr34
    have hKp34 := hKp23.tr (hp34.mono rfl)
    exact ret v34 H34 locs34 _ _ dX12_ran_27 ⟨hKp34, trivial⟩ hC34 hS34
set_option maxRecDepth 100000 in
set_option maxHeartbeats 4000000 in
theorem m_X12_copy (l : Launch) (X : xW) (Γ : Nat → Option Nat) (H0 : Heap) (hC0 : Conf X Γ H0) (h0 : Nat) (g0 : Γ h0 = some 11) (p1 : Int32) {a1 : Int} (e1 : p1.toInt = a1) (p2 : Int32) {a2 : Int} (e2 : p2.toInt = a2) (ca : Nat) (gca : Γ ca = some 64) (uc : ∀ a, Γ a = some 64 → a = ca) (r0 : 0 ≤ a1) (r1 : a1 ≤ 3) (r2 : 0 ≤ a2) (r3 : a2 ≤ 3) : Ctr l X Γ yX12_copy cX12_copy 4 none 0 [.ref h0, .int p1, .int p2] H0 (QV X Γ (fun H1 => Kp X Γ [1, 6, 7, 8, 9, 11, 12, 14, 17] H0 H1)) := by
  refine q_enterV (own := "SnowFortsModel") (by decide) rfl (Nat.le_of_ble_eq_true rfl) ?_
  intro p e s m args below meth c ls Qz E hl ret hS0
  have hx := E.1; have hb := E.2.1
  have hKp0 : Kp X Γ [1, 6, 7, 8, 9, 11, 12, 14, 17] H0 H0 := Kp.rf
  have hl : lv_has ls 4 [(0, .ref h0), (1, .int p1), (2, .int p2)] := hl
  refine lv_iconst (v := 0) hx hb dX12_copy_0 rfl ?_
  refine lv_istore_n hx hb dX12_copy_1 rfl hl (by decide) rfl (fun ls hl => ?_)
  have hl : lv_has ls 4 [(3, .int 0), (0, .ref h0), (1, .int p1), (2, .int p2)] := hl
  have L2 : ∀ (n22 : Nat) (H22 : Heap) (locs22 : List Loc) (v21 : Int32) (z21 : Int) (ls : Array Slot), (520 - z21).toNat < n22 → v21.toInt = z21 → z21 ≤ 520 → 0 ≤ z21 → Conf X Γ H22 → va_S (AΓ Γ) H0 H22 locs22 → Kp X Γ [1, 6, 7, 8, 9, 11, 12, 14, 17] H0 H22 → lv_has ls 4 [(3, .int v21), (0, .ref h0), (1, .int p1), (2, .int p2)] → W p l e (rmL 0) s m args below meth c H22 locs22 0 0 Qz (F0 m 2 ls []) := by
    intro n22
    induction n22 with
    | zero => intro H22 locs22 v21 z21 ls hm22 ev21 iv22_0 iv22_1 hC22 hS22 hKp22 hl; exact absurd hm22 (Nat.not_lt_zero _)
    | succ n22 ih22 =>
      intro H22 locs22 v21 z21 ls hm22 ev21 iv22_0 iv22_1 hC22 hS22 hKp22 hl
      refine lv_iload_n hx hb dX12_copy_2 rfl (lv_at hl 0 rfl) ?_
      refine lv_sipush (v := 520) hx hb dX12_copy_3 rfl ?_
      refine q_icmp_ge hx hb (a := z21) (b := 520) ev21 (by decide) (tgt := 39) dX12_copy_6 rfl (fun c23 => ?_) (fun c23 => ?_)
      · exact ret H22 locs22 _ _ dX12_copy_39 hKp22 hC22 hS22
      · refine lv_aload_n hx hb dX12_copy_9 rfl (lv_at hl 1 rfl) ?_
        refine q_getC E hC22 g0 fa_RX12_35 uc dX12_copy_10 ?_
        refine lv_sipush (v := 520) hx hb dX12_copy_13 rfl ?_
        refine lv_iload_n hx hb dX12_copy_16 rfl (lv_at hl 3 rfl) ?_
        refine lv_imul hx hb dX12_copy_17 (lv_topi (fun v24 ev24 => ?_))
        have ev24i : v24.toInt = (520 * a2) := i_mul ev24 (by decide) e2 (by omega) (by omega)
        refine lv_iload_n hx hb dX12_copy_18 rfl (lv_at hl 0 rfl) ?_
        refine lv_iadd hx hb dX12_copy_19 (lv_topi (fun v25 ev25 => ?_))
        have ev25i : v25.toInt = ((520 * a2) + z21) := i_add ev25 ev24i ev21 (by omega) (by omega)
        refine lv_aload_n hx hb dX12_copy_20 rfl (lv_at hl 1 rfl) ?_
        refine q_getC E hC22 g0 fa_RX12_35 uc dX12_copy_21 ?_
        refine lv_sipush (v := 520) hx hb dX12_copy_24 rfl ?_
        refine lv_iload_n hx hb dX12_copy_27 rfl (lv_at hl 2 rfl) ?_
        refine lv_imul hx hb dX12_copy_28 (lv_topi (fun v26 ev26 => ?_))
        have ev26i : v26.toInt = (520 * a1) := i_mul ev26 (by decide) e1 (by omega) (by omega)
        refine lv_iload_n hx hb dX12_copy_29 rfl (lv_at hl 0 rfl) ?_
        refine lv_iadd hx hb dX12_copy_30 (lv_topi (fun v27 ev27 => ?_))
        have ev27i : v27.toInt = ((520 * a1) + z21) := i_add ev27 ev26i ev21 (by omega) (by omega)
        refine q_craw E hC22 gca (a := ((520 * a1) + z21)) ev27i (by omega) (by omega) dX12_copy_31 (fun v28 ev28 tv28 => ?_)
        refine q_cast E hC22 hS22 gca (a := ((520 * a2) + z21)) ev25i (by omega) (by omega) (cT_cp (f := a1) (t := a2) (k := z21) rfl rfl (by omega) (by omega) (by omega) (by omega) (by omega) (by omega) tv28) dX12_copy_32 (fun H29 locs29 hC29 hS29 U29 => ?_)
        have hKp29 := Kp.upD gca rfl rfl (fun _ => ⟨fun h => absurd h (by decide), fun h => absurd h (by decide), fun _ => by unfold dpn; omega⟩) U29 hKp22
        have e30 := up_I U29
        obtain ⟨v31, ev31⟩ : ∃ z, z = v21 + Int32.ofInt 1 := ⟨_, rfl⟩
        have ev31i : v31.toInt = (z21 + 1) := i_add ev31 ev21 (by decide) (by omega) (by omega)
        refine lv_iinc hx hb dX12_copy_33 hl (k := 0) rfl ev31.symm (by decide) rfl (fun ls hl => ?_)
        have hl : lv_has ls 4 [(3, .int v31), (0, .ref h0), (1, .int p1), (2, .int p2)] := hl
        refine lv_goto (tgt := 2) hx hb dX12_copy_36 rfl ?_
        exact ih22 H29 locs29 v31 ((z21 + 1)) ls (by omega) ev31i (by omega) (by omega) hC29 hS29 hKp29 hl
  exact L2 _ H0 [] 0 0 ls (Nat.lt_succ_self _) (by decide) (by omega) (by omega) hC0 hS0 hKp0 hl
set_option maxRecDepth 100000 in
set_option maxHeartbeats 4000000 in
theorem m_X12_mark (l : Launch) (X : xW) (Γ : Nat → Option Nat) (H0 : Heap) (hC0 : Conf X Γ H0) (h0 : Nat) (g0 : Γ h0 = some 11) (ca : Nat) (gca : Γ ca = some 64) (uc : ∀ a, Γ a = some 64 → a = ca) : Ctr l X Γ yX12_mark cX12_mark 1 (some .int) 1 [.ref h0] H0 (QI X Γ (fun v H1 => Kp X Γ [1, 6, 7, 9, 11, 12, 14, 17] H0 H1 ∧ (True))) := by
  refine q_enterI (own := "SnowFortsModel") (by decide) rfl (Nat.le_of_ble_eq_true rfl) ?_
  intro p e s m args below meth c ls Qz E hl ret hS0
  have hx := E.1; have hb := E.2.1
  have hKp0 : Kp X Γ [1, 6, 7, 9, 11, 12, 14, 17] H0 H0 := Kp.rf
  have hl : lv_has ls 1 [(0, .ref h0)] := hl
  refine lv_aload_n hx hb dX12_mark_0 rfl (lv_at hl 0 rfl) ?_
  refine lv_iconst (v := 0) hx hb dX12_mark_1 rfl ?_
  refine q_put E hC0 hS0 g0 fp_RX12_69 tv_F rfl rfl dX12_mark_2 (fun H21 locs21 hC21 hS21 U21 => ?_)
  have hKp21 := Kp.upO E g0 fp_RX12_69 rfl U21 hKp0
  have e22 := up_I U21
  refine lv_aload_n hx hb dX12_mark_5 rfl (lv_at hl 0 rfl) ?_
  refine lv_iconst (v := 0) hx hb dX12_mark_6 rfl ?_
  refine q_put E hC21 hS21 g0 fp_RX12_72 tv_F rfl rfl dX12_mark_7 (fun H23 locs23 hC23 hS23 U23 => ?_)
  have hKp23 := Kp.upO E g0 fp_RX12_72 rfl U23 hKp21
  have e24 := up_I U23
  refine lv_aload_n hx hb dX12_mark_10 rfl (lv_at hl 0 rfl) ?_
  refine q_getI E hC23 g0 fa_RX12_479 dX12_mark_11 (fun v25 ev25 lv25 uv25 => ?_)
  refine lv_iconst (v := 3) hx hb dX12_mark_14 rfl ?_
  refine q_icmp_ne hx hb (a := v25.toInt) (b := 3) rfl (by decide) (tgt := 25) dX12_mark_15 rfl (fun c26 => ?_) (fun c26 => ?_)
  · refine lv_aload_n hx hb dX12_mark_25 rfl (lv_at hl 0 rfl) ?_
    refine lv_dup hx hb dX12_mark_26 rfl ?_
    refine q_getI E hC23 g0 fa_RX12_479 dX12_mark_27 (fun v27 ev27 lv27 uv27 => ?_)
    have qv27 := ev25.symm.trans ev27; subst qv27
    refine lv_iconst (v := 1) hx hb dX12_mark_30 rfl ?_
    refine lv_iadd hx hb dX12_mark_31 (lv_topi (fun v28 ev28 => ?_))
    have ev28i : v28.toInt = (v25.toInt + 1) := i_add ev28 rfl (by decide) (by omega) (by omega)
    refine q_put E hC23 hS23 g0 fp_RX12_479 (tv_I ev28i (by omega) (by omega)) rfl rfl dX12_mark_32 (fun H29 locs29 hC29 hS29 U29 => ?_)
    have hKp29 := Kp.upO E g0 fp_RX12_479 rfl U29 hKp23
    have e30 := up_I U29
    refine lv_aload_n hx hb dX12_mark_35 rfl (lv_at hl 0 rfl) ?_
    refine lv_iconst (v := 0) hx hb dX12_mark_36 rfl ?_
    refine lv_aload_n hx hb dX12_mark_37 rfl (lv_at hl 0 rfl) ?_
    refine q_getI E hC29 g0 fa_RX12_479 dX12_mark_38 (fun v31 ev31 lv31 uv31 => ?_)
    have qv31 := e30.symm.trans ev31; subst qv31
    refine q_goV (q_runV (As := [.int 0, .int v28]) (rest := []) E hC29 hS29 (m_X12_copy l X Γ H29 hC29 h0 g0 0 (a1 := 0) (by decide) v28 (a2 := (v25.toInt + 1)) ev28i ca gca uc (by omega) (by omega) (by omega) (by omega)) cw_X12_copy cl_RX12_482 g0 ⟨rfl, rfl⟩ rfl hl.1 rfl (Nat.zero_le _) (by decide) dX12_mark_41) hS29 (fun H32 locs32 hr32 hC32 hS32 => ?_)
    have hKp32 := hKp29.tr (hr32.mono rfl)
    refine lv_aload_n hx hb dX12_mark_44 rfl (lv_at hl 0 rfl) ?_
    have e34 := (kp_I hr32 g0 (k := 24) rfl (by decide) rfl).trans e30
    refine q_getI E hC32 g0 fa_RX12_479 dX12_mark_45 (fun v33 ev33 lv33 uv33 => ?_)
    have qv33 := e34.symm.trans ev33; subst qv33
    exact ret v28 H32 locs32 _ _ dX12_mark_48 ⟨hKp32, trivial⟩ hC32 hS32
  · refine lv_aload_n hx hb dX12_mark_18 rfl (lv_at hl 0 rfl) ?_
    refine lv_bipush (v := 7) hx hb dX12_mark_19 rfl ?_
    refine q_goI (q_runV (As := [.int 7]) (rest := []) E hC23 hS23 (m_X12_refuse l X Γ H23 hC23 h0 g0 7 (a1 := 7) (by decide) ca gca uc) cw_X12_refuse cl_RX12_298 g0 ⟨rfl, rfl⟩ rfl hl.1 rfl (Nat.zero_le _) (by decide) dX12_mark_21) hS23 (fun v35 H35 locs35 hr35 hC35 hS35 => ?_)
    obtain ⟨hp35, hr35⟩ := hr35
    have hKp35 := hKp23.tr (hp35.mono rfl)
    exact ret v35 H35 locs35 _ _ dX12_mark_24 ⟨hKp35, trivial⟩ hC35 hS35
set_option maxRecDepth 100000 in
set_option maxHeartbeats 4000000 in
theorem m_X12_back (l : Launch) (X : xW) (Γ : Nat → Option Nat) (H0 : Heap) (hC0 : Conf X Γ H0) (h0 : Nat) (g0 : Γ h0 = some 11) (ca : Nat) (gca : Γ ca = some 64) (uc : ∀ a, Γ a = some 64 → a = ca) : Ctr l X Γ yX12_back cX12_back 1 (some .int) 1 [.ref h0] H0 (QI X Γ (fun v H1 => Kp X Γ [1, 6, 7, 9, 11, 12, 14, 17] H0 H1 ∧ (True))) := by
  refine q_enterI (own := "SnowFortsModel") (by decide) rfl (Nat.le_of_ble_eq_true rfl) ?_
  intro p e s m args below meth c ls Qz E hl ret hS0
  have hx := E.1; have hb := E.2.1
  have hKp0 : Kp X Γ [1, 6, 7, 9, 11, 12, 14, 17] H0 H0 := Kp.rf
  have hl : lv_has ls 1 [(0, .ref h0)] := hl
  refine lv_aload_n hx hb dX12_back_0 rfl (lv_at hl 0 rfl) ?_
  refine lv_iconst (v := 0) hx hb dX12_back_1 rfl ?_
  refine q_put E hC0 hS0 g0 fp_RX12_69 tv_F rfl rfl dX12_back_2 (fun H21 locs21 hC21 hS21 U21 => ?_)
  have hKp21 := Kp.upO E g0 fp_RX12_69 rfl U21 hKp0
  have e22 := up_I U21
  refine lv_aload_n hx hb dX12_back_5 rfl (lv_at hl 0 rfl) ?_
  refine lv_iconst (v := 0) hx hb dX12_back_6 rfl ?_
  refine q_put E hC21 hS21 g0 fp_RX12_72 tv_F rfl rfl dX12_back_7 (fun H23 locs23 hC23 hS23 U23 => ?_)
  have hKp23 := Kp.upO E g0 fp_RX12_72 rfl U23 hKp21
  have e24 := up_I U23
  refine lv_aload_n hx hb dX12_back_10 rfl (lv_at hl 0 rfl) ?_
  refine q_getI E hC23 g0 fa_RX12_479 dX12_back_11 (fun v25 ev25 lv25 uv25 => ?_)
  refine q_if_ne hx hb (a := v25.toInt) rfl (tgt := 24) dX12_back_14 rfl (fun c26 => ?_) (fun c26 => ?_)
  · refine lv_aload_n hx hb dX12_back_24 rfl (lv_at hl 0 rfl) ?_
    refine lv_aload_n hx hb dX12_back_25 rfl (lv_at hl 0 rfl) ?_
    refine q_getI E hC23 g0 fa_RX12_479 dX12_back_26 (fun v27 ev27 lv27 uv27 => ?_)
    have qv27 := ev25.symm.trans ev27; subst qv27
    refine lv_iconst (v := 0) hx hb dX12_back_29 rfl ?_
    refine q_goV (q_runV (As := [.int v25, .int 0]) (rest := []) E hC23 hS23 (m_X12_copy l X Γ H23 hC23 h0 g0 v25 (a1 := v25.toInt) rfl 0 (a2 := 0) (by decide) ca gca uc (by omega) (by omega) (by omega) (by omega)) cw_X12_copy cl_RX12_482 g0 ⟨rfl, rfl⟩ rfl hl.1 rfl (Nat.zero_le _) (by decide) dX12_back_30) hS23 (fun H28 locs28 hr28 hC28 hS28 => ?_)
    have hKp28 := hKp23.tr (hr28.mono rfl)
    refine lv_aload_n hx hb dX12_back_33 rfl (lv_at hl 0 rfl) ?_
    refine lv_dup hx hb dX12_back_34 rfl ?_
    have e30 := (kp_I hr28 g0 (k := 24) rfl (by decide) rfl).trans ev25
    refine q_getI E hC28 g0 fa_RX12_479 dX12_back_35 (fun v29 ev29 lv29 uv29 => ?_)
    have qv29 := e30.symm.trans ev29; subst qv29
    refine lv_iconst (v := 1) hx hb dX12_back_38 rfl ?_
    refine lv_isub hx hb dX12_back_39 (lv_topi (fun v31 ev31 => ?_))
    have ev31i : v31.toInt = (v25.toInt - 1) := i_sub ev31 rfl (by decide) (by omega) (by omega)
    refine q_put E hC28 hS28 g0 fp_RX12_479 (tv_I ev31i (by omega) (by omega)) rfl rfl dX12_back_40 (fun H32 locs32 hC32 hS32 U32 => ?_)
    have hKp32 := Kp.upO E g0 fp_RX12_479 rfl U32 hKp28
    have e33 := up_I U32
    refine lv_aload_n hx hb dX12_back_43 rfl (lv_at hl 0 rfl) ?_
    refine q_getI E hC32 g0 fa_RX12_479 dX12_back_44 (fun v34 ev34 lv34 uv34 => ?_)
    have qv34 := e33.symm.trans ev34; subst qv34
    exact ret v31 H32 locs32 _ _ dX12_back_47 ⟨hKp32, trivial⟩ hC32 hS32
  · refine lv_aload_n hx hb dX12_back_17 rfl (lv_at hl 0 rfl) ?_
    refine lv_bipush (v := 8) hx hb dX12_back_18 rfl ?_
    refine q_goI (q_runV (As := [.int 8]) (rest := []) E hC23 hS23 (m_X12_refuse l X Γ H23 hC23 h0 g0 8 (a1 := 8) (by decide) ca gca uc) cw_X12_refuse cl_RX12_298 g0 ⟨rfl, rfl⟩ rfl hl.1 rfl (Nat.zero_le _) (by decide) dX12_back_20) hS23 (fun v35 H35 locs35 hr35 hC35 hS35 => ?_)
    obtain ⟨hp35, hr35⟩ := hr35
    have hKp35 := hKp23.tr (hp35.mono rfl)
    exact ret v35 H35 locs35 _ _ dX12_back_23 ⟨hKp35, trivial⟩ hC35 hS35
