set_option maxRecDepth 100000 in
set_option maxHeartbeats 4000000 in
theorem m_X12_isWord (l : Launch) (X : xW) (Γ : Nat → Option Nat) (H0 : Heap) (hC0 : Conf X Γ H0) (h0 : Nat) (g0 : Γ h0 = some 11) (p1 : Int64) {a1 : Int} (e1 : p1.toInt = a1) (ca : Nat) (gca : Γ ca = some 64) (uc : ∀ a, Γ a = some 64 → a = ca) : Ctr l X Γ yX12_isWord cX12_isWord 3 (some .boolean) 0 [.ref h0, .long p1] H0 (QI X Γ (fun v H1 => H1 = H0 ∧ (v = 0 ∨ v = 1))) := by
  refine q_enterZ (own := "SnowFortsModel") (by decide) rfl (Nat.le_of_ble_eq_true rfl) ?_
  intro p e s m args below meth c ls Qz E hl ret hS0
  have hx := E.1; have hb := E.2.1
  have hl : lv_has ls 3 [(0, .ref h0), (1, .long p1)] := hl
  refine lv_aload_n hx hb dX12_isWord_0 rfl (lv_at hl 0 rfl) ?_
  refine q_getI E hC0 g0 fa_RX12_120 dX12_isWord_1 (fun v21 ev21 _ _ => ?_)
  refine lv_iconst (v := 1) hx hb dX12_isWord_4 rfl ?_
  refine q_icmp_ne hx hb (a := v21.toInt) (b := 1) rfl (by decide) (tgt := 21) dX12_isWord_5 rfl (fun c22 => ?_) (fun c22 => ?_)
  · refine lv_iconst (v := 0) hx hb dX12_isWord_21 rfl ?_
    exact ret 0 H0 [] _ _ dX12_isWord_22 (Or.inl rfl) ⟨rfl, Or.inl rfl⟩ hC0 hS0
  · refine lv_aload_n hx hb dX12_isWord_8 rfl (lv_at hl 0 rfl) ?_
    refine q_getJ E hC0 g0 fa_RX12_126 dX12_isWord_9 (fun v23 ev23 => ?_)
    refine lv_lload_n hx hb dX12_isWord_12 rfl (lv_at hl 1 rfl) ?_
    refine q_lcmp_ne hx hb (a := v23.toInt) (b := a1) rfl e1 (tgt := 21) dX12_isWord_13 dX12_isWord_14 rfl (fun c24 => ?_) (fun c24 => ?_)
    · refine lv_iconst (v := 0) hx hb dX12_isWord_21 rfl ?_
      exact ret 0 H0 [] _ _ dX12_isWord_22 (Or.inl rfl) ⟨rfl, Or.inl rfl⟩ hC0 hS0
    · refine lv_iconst (v := 1) hx hb dX12_isWord_17 rfl ?_
      refine lv_goto (tgt := 22) hx hb dX12_isWord_18 rfl ?_
      exact ret 1 H0 [] _ _ dX12_isWord_22 (Or.inr rfl) ⟨rfl, Or.inr rfl⟩ hC0 hS0
set_option maxRecDepth 100000 in
set_option maxHeartbeats 4000000 in
theorem m_X12_isWide (l : Launch) (X : xW) (Γ : Nat → Option Nat) (H0 : Heap) (hC0 : Conf X Γ H0) (h0 : Nat) (g0 : Γ h0 = some 11) (ca : Nat) (gca : Γ ca = some 64) (uc : ∀ a, Γ a = some 64 → a = ca) : Ctr l X Γ yX12_isWide cX12_isWide 1 (some .boolean) 1 [.ref h0] H0 (QI X Γ (fun v H1 => H1 = H0 ∧ (v = 0 ∨ v = 1))) := by
  refine q_enterZ (own := "SnowFortsModel") (by decide) rfl (Nat.le_of_ble_eq_true rfl) ?_
  intro p e s m args below meth c ls Qz E hl ret hS0
  have hx := E.1; have hb := E.2.1
  have hl : lv_has ls 1 [(0, .ref h0)] := hl
  refine lv_aload_n hx hb dX12_isWide_0 rfl (lv_at hl 0 rfl) ?_
  refine lv_bipush (v := 119) hx hb dX12_isWide_1 rfl ?_
  refine lv_bipush (v := 105) hx hb dX12_isWide_3 rfl ?_
  refine lv_bipush (v := 100) hx hb dX12_isWide_5 rfl ?_
  refine lv_bipush (v := 101) hx hb dX12_isWide_7 rfl ?_
  refine lv_iconst (v := 0) hx hb dX12_isWide_9 rfl ?_
  refine lv_iconst (v := 0) hx hb dX12_isWide_10 rfl ?_
  refine q_goJp (q_runS (As := [.int 119, .int 105, .int 100, .int 101, .int 0, .int 0]) (rest := [.ref h0]) E hS0 (m_X12_spelled l X Γ H0 hC0 119 (a0 := 119) (by decide) 105 (a1 := 105) (by decide) 100 (a2 := 100) (by decide) 101 (a3 := 101) (by decide) 0 (a4 := 0) (by decide) 0 (a5 := 0) (by decide)) cw_X12_spelled cl_RX12_145 rfl hl.1 rfl (show _ ≤ _ from by simp [Value.category]) (by decide) dX12_isWide_11) hS0 (fun v21 locs21 hr21 hS21 => ?_)
  refine q_goIp (q_runV (As := [.long v21]) (rest := []) E hC0 hS21 (m_X12_isWord l X Γ H0 hC0 h0 g0 v21 (a1 := v21.toInt) rfl ca gca uc) cw_X12_isWord cl_RX12_149 g0 ⟨rfl, rfl⟩ rfl hl.1 rfl (Nat.zero_le _) (by decide) dX12_isWide_14) hS21 (fun v22 locs22 hr22 hS22 => ?_)
  rcases hr22 with rfl | rfl
  · exact ret 0 H0 locs22 _ _ dX12_isWide_17 (Or.inl rfl) ⟨rfl, Or.inl rfl⟩ hC0 hS22
  · exact ret 1 H0 locs22 _ _ dX12_isWide_17 (Or.inr rfl) ⟨rfl, Or.inr rfl⟩ hC0 hS22
set_option maxRecDepth 100000 in
set_option maxHeartbeats 4000000 in
theorem m_X12_fail (l : Launch) (X : xW) (Γ : Nat → Option Nat) (H0 : Heap) (hC0 : Conf X Γ H0) (h0 : Nat) (g0 : Γ h0 = some 11) (p1 : Int32) {a1 : Int} (e1 : p1.toInt = a1) (p2 : Int32) {a2 : Int} (e2 : p2.toInt = a2) (ca : Nat) (gca : Γ ca = some 64) (uc : ∀ a, Γ a = some 64 → a = ca) (r0 : 1 ≤ a1) (r1 : a1 ≤ 7) : Ctr l X Γ yX12_fail cX12_fail 3 none 0 [.ref h0, .int p1, .int p2] H0 (QV X Γ (fun H1 => Kp X Γ [1, 6, 7, 8, 9, 10, 11, 12, 14, 15, 16, 17, 19, 22, 24, 26, 28] H0 H1 ∧ ((1 ≤ (sI H1 h0 (X.1.2 11 12)).toInt) ∧ ((sI H0 h0 (X.1.2 11 12)).toInt ≤ 7 * (sI H1 h0 (X.1.2 11 12)).toInt) ∧ ((sI H1 h0 (X.1.2 11 14)).toInt = (sI H0 h0 (X.1.2 11 14)).toInt) ∧ ((sI H1 h0 (X.1.2 11 16)).toInt = (sI H0 h0 (X.1.2 11 16)).toInt)))) := by
  refine q_enterV (own := "SnowFortsModel") (by decide) rfl (Nat.le_of_ble_eq_true rfl) ?_
  intro p e s m args below meth c ls Qz E hl ret hS0
  have hx := E.1; have hb := E.2.1
  have hKp0 : Kp X Γ [1, 6, 7, 8, 9, 10, 11, 12, 14, 15, 16, 17, 19, 22, 24, 26, 28] H0 H0 := Kp.rf
  have hl : lv_has ls 3 [(0, .ref h0), (1, .int p1), (2, .int p2)] := hl
  have hz1 := f_bd hC0 g0 (ci := 11) (k := 16) rfl rfl
  have hz2 := f_bd hC0 g0 (ci := 11) (k := 12) rfl rfl
  refine lv_aload_n hx hb dX12_fail_0 rfl (lv_at hl 0 rfl) ?_
  refine q_getI E hC0 g0 fa_RX12_218 dX12_fail_1 (fun v21 ev21 lv21 uv21 => ?_)
  have m22 : (sI H0 h0 (X.1.2 11 12)).toInt = v21.toInt := (congrArg Int32.toInt ev21).trans rfl
  refine q_if_le hx hb (a := v21.toInt) rfl (tgt := 8) dX12_fail_4 rfl (fun c23 => ?_) (fun c23 => ?_)
  · refine lv_aload_n hx hb dX12_fail_8 rfl (lv_at hl 0 rfl) ?_
    refine lv_iload_n hx hb dX12_fail_9 rfl (lv_at hl 1 rfl) ?_
    refine q_put E hC0 hS0 g0 fp_RX12_218 (tv_I e1 (by omega) (by omega)) rfl rfl dX12_fail_10 (fun H24 locs24 hC24 hS24 U24 => ?_)
    have hKp24 := Kp.upO E g0 fp_RX12_218 rfl U24 hKp0
    have e25 := up_I U24
    have m26 : (sI H24 h0 (X.1.2 11 12)).toInt = a1 := (congrArg Int32.toInt e25).trans e1
    have m27 : (sI H24 h0 (X.1.2 11 14)).toInt = (sI H0 h0 (X.1.2 11 14)).toInt := congrArg Int32.toInt (up_nI U24 (ne_f E 11 14 12 rfl (by decide) (by decide) (by decide)))
    have m28 := congrArg tk m27
    have m29 : (sI H24 h0 (X.1.2 11 16)).toInt = (sI H0 h0 (X.1.2 11 16)).toInt := congrArg Int32.toInt (up_nI U24 (ne_f E 11 16 12 rfl (by decide) (by decide) (by decide)))
    refine lv_aload_n hx hb dX12_fail_13 rfl (lv_at hl 0 rfl) ?_
    refine lv_iload_n hx hb dX12_fail_14 rfl (lv_at hl 2 rfl) ?_
    refine q_put E hC24 hS24 g0 fp_RX12_221 tv_F rfl rfl dX12_fail_15 (fun H30 locs30 hC30 hS30 U30 => ?_)
    have hKp30 := Kp.upO E g0 fp_RX12_221 rfl U30 hKp24
    have e31 := up_I U30
    have m32 : (sI H30 h0 (X.1.2 11 12)).toInt = (sI H24 h0 (X.1.2 11 12)).toInt := congrArg Int32.toInt (up_nI U30 (ne_f E 11 12 13 rfl (by decide) (by decide) (by decide)))
    have m33 : (sI H30 h0 (X.1.2 11 14)).toInt = (sI H24 h0 (X.1.2 11 14)).toInt := congrArg Int32.toInt (up_nI U30 (ne_f E 11 14 13 rfl (by decide) (by decide) (by decide)))
    have m34 := congrArg tk m33
    have m35 : (sI H30 h0 (X.1.2 11 16)).toInt = (sI H24 h0 (X.1.2 11 16)).toInt := congrArg Int32.toInt (up_nI U30 (ne_f E 11 16 13 rfl (by decide) (by decide) (by decide)))
    exact ret H30 locs30 _ _ dX12_fail_18 ⟨hKp30, ⟨by omega, by omega, by omega, by omega⟩⟩ hC30 hS30
  · exact ret H0 [] _ _ dX12_fail_7 ⟨hKp0, ⟨by omega, by omega, by omega, by omega⟩⟩ hC0 hS0
set_option maxRecDepth 100000 in
set_option maxHeartbeats 4000000 in
theorem m_X12_wrong (l : Launch) (X : xW) (Γ : Nat → Option Nat) (H0 : Heap) (hC0 : Conf X Γ H0) (h0 : Nat) (g0 : Γ h0 = some 11) (ca : Nat) (gca : Γ ca = some 64) (uc : ∀ a, Γ a = some 64 → a = ca) : Ctr l X Γ yX12_wrong cX12_wrong 1 none 1 [.ref h0] H0 (QV X Γ (fun H1 => Kp X Γ [1, 6, 7, 8, 9, 10, 11, 12, 14, 15, 16, 17, 19, 22, 24, 26, 28] H0 H1 ∧ ((1 ≤ (sI H1 h0 (X.1.2 11 12)).toInt) ∧ ((sI H0 h0 (X.1.2 11 12)).toInt ≤ 7 * (sI H1 h0 (X.1.2 11 12)).toInt) ∧ ((sI H1 h0 (X.1.2 11 14)).toInt = (sI H0 h0 (X.1.2 11 14)).toInt) ∧ ((sI H1 h0 (X.1.2 11 16)).toInt = (sI H0 h0 (X.1.2 11 16)).toInt)))) := by
  refine q_enterV (own := "SnowFortsModel") (by decide) rfl (Nat.le_of_ble_eq_true rfl) ?_
  intro p e s m args below meth c ls Qz E hl ret hS0
  have hx := E.1; have hb := E.2.1
  have hKp0 : Kp X Γ [1, 6, 7, 8, 9, 10, 11, 12, 14, 15, 16, 17, 19, 22, 24, 26, 28] H0 H0 := Kp.rf
  have hl : lv_has ls 1 [(0, .ref h0)] := hl
  have hz1 := f_bd hC0 g0 (ci := 11) (k := 16) rfl rfl
  have hz2 := f_bd hC0 g0 (ci := 11) (k := 12) rfl rfl
  refine lv_aload_n hx hb dX12_wrong_0 rfl (lv_at hl 0 rfl) ?_
  refine lv_aload_n hx hb dX12_wrong_1 rfl (lv_at hl 0 rfl) ?_
  refine q_getI E hC0 g0 fa_RX12_120 dX12_wrong_2 (fun v21 ev21 _ _ => ?_)
  have m22 : (sI H0 h0 (X.1.2 11 14)).toInt = v21.toInt := (congrArg Int32.toInt ev21).trans rfl
  refine lv_iconst (v := 4) hx hb dX12_wrong_5 rfl ?_
  refine q_icmp_ne hx hb (a := v21.toInt) (b := 4) rfl (by decide) (tgt := 13) dX12_wrong_6 rfl (fun c23 => ?_) (fun c23 => ?_)
  · refine lv_iconst (v := 2) hx hb dX12_wrong_13 rfl ?_
    refine lv_aload_n hx hb dX12_wrong_14 rfl (lv_at hl 0 rfl) ?_
    refine q_getI E hC0 g0 fa_RX12_114 dX12_wrong_15 (fun v24 ev24 lv24 uv24 => ?_)
    refine q_goV (q_runV (As := [.int 2, .int v24]) (rest := []) E hC0 hS0 (m_X12_fail l X Γ H0 hC0 h0 g0 2 (a1 := 2) (by decide) v24 (a2 := v24.toInt) rfl ca gca uc (by omega) (by omega)) cw_X12_fail cl_RX12_224 g0 ⟨rfl, rfl⟩ rfl hl.1 rfl (Nat.zero_le _) (by decide) dX12_wrong_18) hS0 (fun H25 locs25 hr25 hC25 hS25 => ?_)
    obtain ⟨hp25, hr25⟩ := hr25
    have hKp25 := hKp0.tr (hp25.mono rfl)
    obtain ⟨f25_0, f25_1, f25_2, f25_3⟩ := hr25
    exact ret H25 locs25 _ _ dX12_wrong_21 ⟨hKp25, ⟨by omega, by omega, by omega, by omega⟩⟩ hC25 hS25
  · refine lv_iconst (v := 1) hx hb dX12_wrong_9 rfl ?_
    refine lv_goto (tgt := 14) hx hb dX12_wrong_10 rfl ?_
    refine lv_aload_n hx hb dX12_wrong_14 rfl (lv_at hl 0 rfl) ?_
    refine q_getI E hC0 g0 fa_RX12_114 dX12_wrong_15 (fun v26 ev26 lv26 uv26 => ?_)
    refine q_goV (q_runV (As := [.int 1, .int v26]) (rest := []) E hC0 hS0 (m_X12_fail l X Γ H0 hC0 h0 g0 1 (a1 := 1) (by decide) v26 (a2 := v26.toInt) rfl ca gca uc (by omega) (by omega)) cw_X12_fail cl_RX12_224 g0 ⟨rfl, rfl⟩ rfl hl.1 rfl (Nat.zero_le _) (by decide) dX12_wrong_18) hS0 (fun H27 locs27 hr27 hC27 hS27 => ?_)
    obtain ⟨hp27, hr27⟩ := hr27
    have hKp27 := hKp0.tr (hp27.mono rfl)
    obtain ⟨f27_0, f27_1, f27_2, f27_3⟩ := hr27
    exact ret H27 locs27 _ _ dX12_wrong_21 ⟨hKp27, ⟨by omega, by omega, by omega, by omega⟩⟩ hC27 hS27
set_option maxRecDepth 100000 in
set_option maxHeartbeats 4000000 in
theorem m_X12_must (l : Launch) (X : xW) (Γ : Nat → Option Nat) (H0 : Heap) (hC0 : Conf X Γ H0) (h0 : Nat) (g0 : Γ h0 = some 11) (p1 : Int32) {a1 : Int} (e1 : p1.toInt = a1) (ca : Nat) (gca : Γ ca = some 64) (uc : ∀ a, Γ a = some 64 → a = ca) (r0 : 0 ≤ a1) (r1 : a1 ≤ 1) : Ctr l X Γ yX12_must cX12_must 2 none 2 [.ref h0, .int p1] H0 (QV X Γ (fun H1 => Kp X Γ [1, 6, 7, 8, 9, 10, 11, 12, 14, 15, 16, 17, 19, 22, 24, 26, 28] H0 H1 ∧ (((sI H0 h0 (X.1.2 11 16)).toInt ≤ (sI H1 h0 (X.1.2 11 16)).toInt) ∧ ((sI H0 h0 (X.1.2 11 16)).toInt < (sI H1 h0 (X.1.2 11 16)).toInt + tk (sI H1 h0 (X.1.2 11 14)).toInt + 2000 * (sI H1 h0 (X.1.2 11 12)).toInt) ∧ ((sI H0 h0 (X.1.2 11 12)).toInt ≤ 7 * (sI H1 h0 (X.1.2 11 12)).toInt) ∧ (0 ≤ (sI H1 h0 (X.1.2 11 12)).toInt) ∧ (1 - a1 ≤ (sI H1 h0 (X.1.2 11 12)).toInt)))) := by
  refine q_enterV (own := "SnowFortsModel") (by decide) rfl (Nat.le_of_ble_eq_true rfl) ?_
  intro p e s m args below meth c ls Qz E hl ret hS0
  have hx := E.1; have hb := E.2.1
  have hKp0 : Kp X Γ [1, 6, 7, 8, 9, 10, 11, 12, 14, 15, 16, 17, 19, 22, 24, 26, 28] H0 H0 := Kp.rf
  have hl : lv_has ls 2 [(0, .ref h0), (1, .int p1)] := hl
  have hz1 := f_bd hC0 g0 (ci := 11) (k := 16) rfl rfl
  have hz2 := f_bd hC0 g0 (ci := 11) (k := 12) rfl rfl
  refine lv_aload_n hx hb dX12_must_0 rfl (lv_at hl 0 rfl) ?_
  refine q_getI E hC0 g0 fa_RX12_218 dX12_must_1 (fun v21 ev21 lv21 uv21 => ?_)
  have m22 : (sI H0 h0 (X.1.2 11 12)).toInt = v21.toInt := (congrArg Int32.toInt ev21).trans rfl
  refine q_if_le hx hb (a := v21.toInt) rfl (tgt := 8) dX12_must_4 rfl (fun c23 => ?_) (fun c23 => ?_)
  · refine lv_iload_n hx hb dX12_must_8 rfl (lv_at hl 1 rfl) ?_
    refine q_if_eq hx hb (a := a1) e1 (tgt := 19) dX12_must_9 rfl (fun c24 => ?_) (fun c24 => ?_)
    · refine lv_aload_n hx hb dX12_must_19 rfl (lv_at hl 0 rfl) ?_
      refine q_goV (q_runV (As := []) (rest := []) E hC0 hS0 (m_X12_wrong l X Γ H0 hC0 h0 g0 ca gca uc) cw_X12_wrong cl_RX12_231 g0 ⟨rfl, rfl⟩ rfl hl.1 rfl (Nat.zero_le _) (by decide) dX12_must_20) hS0 (fun H25 locs25 hr25 hC25 hS25 => ?_)
      obtain ⟨hp25, hr25⟩ := hr25
      have hKp25 := hKp0.tr (hp25.mono rfl)
      obtain ⟨f25_0, f25_1, f25_2, f25_3⟩ := hr25
      have hz8 := tk_nn (sI H25 h0 (X.1.2 11 14)).toInt
      exact ret H25 locs25 _ _ dX12_must_23 ⟨hKp25, ⟨by omega, by omega, by omega, by omega, by omega⟩⟩ hC25 hS25
    · refine lv_aload_n hx hb dX12_must_12 rfl (lv_at hl 0 rfl) ?_
      refine q_goV (q_runV (As := []) (rest := []) E hC0 hS0 (m_X12_next l X Γ H0 hC0 h0 g0 ca gca uc) cw_X12_next cl_RX12_228 g0 ⟨rfl, rfl⟩ rfl hl.1 rfl (Nat.zero_le _) (by decide) dX12_must_13) hS0 (fun H26 locs26 hr26 hC26 hS26 => ?_)
      obtain ⟨hp26, hr26⟩ := hr26
      have hKp26 := hKp0.tr (hp26.mono rfl)
      obtain ⟨f26_0, f26_1, f26_2⟩ := hr26
      refine lv_goto (tgt := 23) hx hb dX12_must_16 rfl ?_
      have hz8 := tk_nn (sI H26 h0 (X.1.2 11 14)).toInt
      exact ret H26 locs26 _ _ dX12_must_23 ⟨hKp26, ⟨by omega, by omega, by omega, by omega, by omega⟩⟩ hC26 hS26
  · have hz8 := tk_nn (sI H0 h0 (X.1.2 11 14)).toInt
    exact ret H0 [] _ _ dX12_must_7 ⟨hKp0, ⟨by omega, by omega, by omega, by omega, by omega⟩⟩ hC0 hS0
set_option maxRecDepth 100000 in
set_option maxHeartbeats 4000000 in
theorem m_X12_isIn (l : Launch) (X : xW) (Γ : Nat → Option Nat) (H0 : Heap) (hC0 : Conf X Γ H0) (p0 : Int64) {a0 : Int} (e0 : p0.toInt = a0) (p1 : Int64) {a1 : Int} (e1 : p1.toInt = a1) (p2 : Int64) {a2 : Int} (e2 : p2.toInt = a2) : Ctr l X Γ yX12_isIn cX12_isIn 6 (some .boolean) 0 [.long p0, .long p1, .long p2] H0 (QI X Γ (fun v H1 => H1 = H0 ∧ ((v = 1 ∧ (a1 ≤ a0 ∧ a0 ≤ a2)) ∨ (v = 0 ∧ (a0 < a1 ∨ a2 < a0))))) := by
  refine q_enterZ (own := "SnowFortsModel") (by decide) rfl (Nat.le_of_ble_eq_true rfl) ?_
  intro p e s m args below meth c ls Qz E hl ret hS0
  have hx := E.1; have hb := E.2.1
  have hl : lv_has ls 6 [(0, .long p0), (2, .long p1), (4, .long p2)] := hl
  refine lv_lload_n hx hb dX12_isIn_0 rfl (lv_at hl 0 rfl) ?_
  refine lv_lload_n hx hb dX12_isIn_1 rfl (lv_at hl 1 rfl) ?_
  refine q_lcmp_lt hx hb (a := a0) (b := a1) e0 e1 (tgt := 17) dX12_isIn_2 dX12_isIn_3 rfl (fun c21 => ?_) (fun c21 => ?_)
  · refine lv_iconst (v := 0) hx hb dX12_isIn_17 rfl ?_
    exact ret 0 H0 [] _ _ dX12_isIn_18 (Or.inl rfl) ⟨rfl, Or.inr ⟨rfl, by omega⟩⟩ hC0 hS0
  · refine lv_lload_n hx hb dX12_isIn_6 rfl (lv_at hl 0 rfl) ?_
    refine lv_lload hx hb dX12_isIn_7 (lv_at hl 2 rfl) ?_
    refine q_lcmp_gt hx hb (a := a0) (b := a2) e0 e2 (tgt := 17) dX12_isIn_9 dX12_isIn_10 rfl (fun c22 => ?_) (fun c22 => ?_)
    · refine lv_iconst (v := 0) hx hb dX12_isIn_17 rfl ?_
      exact ret 0 H0 [] _ _ dX12_isIn_18 (Or.inl rfl) ⟨rfl, Or.inr ⟨rfl, by omega⟩⟩ hC0 hS0
    · refine lv_iconst (v := 1) hx hb dX12_isIn_13 rfl ?_
      refine lv_goto (tgt := 18) hx hb dX12_isIn_14 rfl ?_
      exact ret 1 H0 [] _ _ dX12_isIn_18 (Or.inr rfl) ⟨rfl, Or.inl ⟨rfl, by omega, by omega⟩⟩ hC0 hS0
set_option maxRecDepth 100000 in
set_option maxHeartbeats 4000000 in
theorem m_X12_count (l : Launch) (X : xW) (Γ : Nat → Option Nat) (H0 : Heap) (hC0 : Conf X Γ H0) (h0 : Nat) (g0 : Γ h0 = some 11) (p1 : Int32) {a1 : Int} (e1 : p1.toInt = a1) (p2 : Int32) {a2 : Int} (e2 : p2.toInt = a2) (ca : Nat) (gca : Γ ca = some 64) (uc : ∀ a, Γ a = some 64 → a = ca) (r0 : 0 ≤ a1) (r1 : a1 ≤ 40) (r2 : -1 ≤ a2) (r3 : a2 ≤ 999) : Ctr l X Γ yX12_count cX12_count 4 (some .int) 2 [.ref h0, .int p1, .int p2] H0 (QI X Γ (fun v H1 => Kp X Γ [1, 6, 7, 8, 9, 10, 11, 12, 14, 15, 16, 17, 19, 22, 24, 26, 28] H0 H1 ∧ (((sI H0 h0 (X.1.2 11 16)).toInt ≤ (sI H1 h0 (X.1.2 11 16)).toInt) ∧ ((sI H0 h0 (X.1.2 11 16)).toInt < (sI H1 h0 (X.1.2 11 16)).toInt + tk (sI H1 h0 (X.1.2 11 14)).toInt + 2000 * (sI H1 h0 (X.1.2 11 12)).toInt) ∧ ((sI H0 h0 (X.1.2 11 12)).toInt ≤ 7 * (sI H1 h0 (X.1.2 11 12)).toInt) ∧ (0 ≤ (sI H1 h0 (X.1.2 11 12)).toInt) ∧ (0 ≤ v.toInt) ∧ (v.toInt ≤ a2 ∨ v.toInt = 0) ∧ (a1 ≤ v.toInt + 100 * (sI H1 h0 (X.1.2 11 12)).toInt) ∧ (v.toInt ≤ a2 + (sI H1 h0 (X.1.2 11 12)).toInt)))) := by
  refine q_enterI (own := "SnowFortsModel") (by decide) rfl (Nat.le_of_ble_eq_true rfl) ?_
  intro p e s m args below meth c ls Qz E hl ret hS0
  have hx := E.1; have hb := E.2.1
  have hKp0 : Kp X Γ [1, 6, 7, 8, 9, 10, 11, 12, 14, 15, 16, 17, 19, 22, 24, 26, 28] H0 H0 := Kp.rf
  have hl : lv_has ls 4 [(0, .ref h0), (1, .int p1), (2, .int p2)] := hl
  have hz1 := f_bd hC0 g0 (ci := 11) (k := 16) rfl rfl
  have hz2 := f_bd hC0 g0 (ci := 11) (k := 12) rfl rfl
  refine lv_aload_n hx hb dX12_count_0 rfl (lv_at hl 0 rfl) ?_
  refine q_getI E hC0 g0 fa_RX12_218 dX12_count_1 (fun v21 ev21 lv21 uv21 => ?_)
  have m22 : (sI H0 h0 (X.1.2 11 12)).toInt = v21.toInt := (congrArg Int32.toInt ev21).trans rfl
  refine q_if_ne hx hb (a := v21.toInt) rfl (tgt := 19) dX12_count_4 rfl (fun c23 => ?_) (fun c23 => ?_)
  · refine lv_aload_n hx hb dX12_count_19 rfl (lv_at hl 0 rfl) ?_
    refine q_getI E hC0 g0 fa_RX12_218 dX12_count_20 (fun v24 ev24 lv24 uv24 => ?_)
    have qv24 := ev21.symm.trans ev24; subst qv24
    refine q_if_ne hx hb (a := v21.toInt) rfl (tgt := 50) dX12_count_23 rfl (fun c25 => ?_) (fun c25 => absurd c25 (by omega))
    refine lv_aload_n hx hb dX12_count_50 rfl (lv_at hl 0 rfl) ?_
    refine q_getI E hC0 g0 fa_RX12_218 dX12_count_51 (fun v26 ev26 lv26 uv26 => ?_)
    have qv26 := ev21.symm.trans ev26; subst qv26
    refine q_if_le hx hb (a := v21.toInt) rfl (tgt := 59) dX12_count_54 rfl (fun c27 => absurd c27 (by omega)) (fun c27 => ?_)
    refine lv_iconst (v := 0) hx hb dX12_count_57 rfl ?_
    have hz8 := tk_nn (sI H0 h0 (X.1.2 11 14)).toInt
    have c28 : (0 : Int32).toInt = 0 := (by decide)
    exact ret 0 H0 [] _ _ dX12_count_58 ⟨hKp0, ⟨by omega, by omega, by omega, by omega, by omega, by omega, by omega, by omega⟩⟩ hC0 hS0
  · refine lv_aload_n hx hb dX12_count_7 rfl (lv_at hl 0 rfl) ?_
    refine q_getI E hC0 g0 fa_RX12_120 dX12_count_8 (fun v29 ev29 _ _ => ?_)
    have m30 : (sI H0 h0 (X.1.2 11 14)).toInt = v29.toInt := (congrArg Int32.toInt ev29).trans rfl
    refine lv_iconst (v := 2) hx hb dX12_count_11 rfl ?_
    refine q_icmp_eq hx hb (a := v29.toInt) (b := 2) rfl (by decide) (tgt := 19) dX12_count_12 rfl (fun c31 => ?_) (fun c31 => ?_)
    · refine lv_aload_n hx hb dX12_count_19 rfl (lv_at hl 0 rfl) ?_
      refine q_getI E hC0 g0 fa_RX12_218 dX12_count_20 (fun v32 ev32 lv32 uv32 => ?_)
      have qv32 := ev21.symm.trans ev32; subst qv32
      refine q_if_ne hx hb (a := v21.toInt) rfl (tgt := 50) dX12_count_23 rfl (fun c33 => absurd c33 (by omega)) (fun c33 => ?_)
      refine lv_aload_n hx hb dX12_count_26 rfl (lv_at hl 0 rfl) ?_
      refine q_getI E hC0 g0 fa_RX12_139 dX12_count_27 (fun v34 ev34 _ _ => ?_)
      refine lv_i2l (v := v34.toInt64) hx hb dX12_count_30 rfl (lv_topl (fun v35 ev35 => ?_))
      have ev35i : v35.toInt = v34.toInt := l_ofi ev35.symm rfl
      refine lv_iload_n hx hb dX12_count_31 rfl (lv_at hl 1 rfl) ?_
      refine lv_i2l (v := p1.toInt64) hx hb dX12_count_32 rfl (lv_topl (fun v36 ev36 => ?_))
      have ev36i : v36.toInt = a1 := l_ofi ev36.symm e1
      refine lv_iload_n hx hb dX12_count_33 rfl (lv_at hl 2 rfl) ?_
      refine lv_i2l (v := p2.toInt64) hx hb dX12_count_34 rfl (lv_topl (fun v37 ev37 => ?_))
      have ev37i : v37.toInt = a2 := l_ofi ev37.symm e2
      refine q_goIp (q_runS (As := [.long v35, .long v36, .long v37]) (rest := []) E hS0 (m_X12_isIn l X Γ H0 hC0 v35 (a0 := v34.toInt) ev35i v36 (a1 := a1) ev36i v37 (a2 := a2) ev37i) cw_X12_isIn cl_RX12_104 rfl hl.1 rfl (Nat.zero_le _) (by decide) dX12_count_35) hS0 (fun v38 locs38 hr38 hS38 => ?_)
      rcases hr38 with ⟨rfl, f38a0, f38a1⟩ | ⟨rfl, f38b⟩
      · refine q_if_ne hx hb (a := 1) (by decide) (tgt := 50) dX12_count_38 rfl (fun c39 => ?_) (fun c39 => absurd c39 (by omega))
        refine lv_aload_n hx hb dX12_count_50 rfl (lv_at hl 0 rfl) ?_
        refine q_getI E hC0 g0 fa_RX12_218 dX12_count_51 (fun v40 ev40 lv40 uv40 => ?_)
        have qv40 := ev21.symm.trans ev40; subst qv40
        refine q_if_le hx hb (a := v21.toInt) rfl (tgt := 59) dX12_count_54 rfl (fun c41 => ?_) (fun c41 => absurd c41 (by omega))
        refine lv_aload_n hx hb dX12_count_59 rfl (lv_at hl 0 rfl) ?_
        refine q_getI E hC0 g0 fa_RX12_139 dX12_count_60 (fun v42 ev42 _ _ => ?_)
        have qv42 := ev34.symm.trans ev42; subst qv42
        refine lv_istore_n hx hb dX12_count_63 rfl hl (by decide) rfl (fun ls hl => ?_)
        replace hl : lv_has ls 4 [(3, .int v34), (0, .ref h0), (1, .int p1), (2, .int p2)] := hl
        refine lv_aload_n hx hb dX12_count_64 rfl (lv_at hl 1 rfl) ?_
        refine q_goV (q_runV (As := []) (rest := []) E hC0 hS38 (m_X12_next l X Γ H0 hC0 h0 g0 ca gca uc) cw_X12_next cl_RX12_228 g0 ⟨rfl, rfl⟩ rfl hl.1 rfl (Nat.zero_le _) (by decide) dX12_count_65) hS38 (fun H43 locs43 hr43 hC43 hS43 => ?_)
        obtain ⟨hp43, hr43⟩ := hr43
        have hKp43 := hKp0.tr (hp43.mono rfl)
        obtain ⟨f43_0, f43_1, f43_2⟩ := hr43
        refine lv_iload_n hx hb dX12_count_68 rfl (lv_at hl 0 rfl) ?_
        have hz8 := tk_nn (sI H43 h0 (X.1.2 11 14)).toInt
        have c44 : v34.toInt = v34.toInt := rfl
        exact ret v34 H43 locs43 _ _ dX12_count_69 ⟨hKp43, ⟨by omega, by omega, by omega, by omega, by omega, by omega, by omega, by omega⟩⟩ hC43 hS43
      · refine q_if_ne hx hb (a := 0) (by decide) (tgt := 50) dX12_count_38 rfl (fun c45 => absurd c45 (by omega)) (fun c45 => ?_)
        refine lv_aload_n hx hb dX12_count_41 rfl (lv_at hl 0 rfl) ?_
        refine lv_iconst (v := 4) hx hb dX12_count_42 rfl ?_
        refine lv_aload_n hx hb dX12_count_43 rfl (lv_at hl 0 rfl) ?_
        refine q_getI E hC0 g0 fa_RX12_114 dX12_count_44 (fun v46 ev46 lv46 uv46 => ?_)
        refine q_goV (q_runV (As := [.int 4, .int v46]) (rest := []) E hC0 hS38 (m_X12_fail l X Γ H0 hC0 h0 g0 4 (a1 := 4) (by decide) v46 (a2 := v46.toInt) rfl ca gca uc (by omega) (by omega)) cw_X12_fail cl_RX12_224 g0 ⟨rfl, rfl⟩ rfl hl.1 rfl (Nat.zero_le _) (by decide) dX12_count_47) hS38 (fun H47 locs47 hr47 hC47 hS47 => ?_)
        obtain ⟨hp47, hr47⟩ := hr47
        have hKp47 := hKp0.tr (hp47.mono rfl)
        obtain ⟨f47_0, f47_1, f47_2, f47_3⟩ := hr47
        refine lv_aload_n hx hb dX12_count_50 rfl (lv_at hl 0 rfl) ?_
        refine q_getI E hC47 g0 fa_RX12_218 dX12_count_51 (fun v48 ev48 lv48 uv48 => ?_)
        have m49 : (sI H47 h0 (X.1.2 11 12)).toInt = v48.toInt := (congrArg Int32.toInt ev48).trans rfl
        refine q_if_le hx hb (a := v48.toInt) rfl (tgt := 59) dX12_count_54 rfl (fun c50 => absurd c50 (by omega)) (fun c50 => ?_)
        refine lv_iconst (v := 0) hx hb dX12_count_57 rfl ?_
        have hz8 := tk_nn (sI H47 h0 (X.1.2 11 14)).toInt
        have c51 : (0 : Int32).toInt = 0 := (by decide)
        exact ret 0 H47 locs47 _ _ dX12_count_58 ⟨hKp47, ⟨by omega, by omega, by omega, by omega, by omega, by omega, by omega, by omega⟩⟩ hC47 hS47
    · refine lv_aload_n hx hb dX12_count_15 rfl (lv_at hl 0 rfl) ?_
      refine q_goV (q_runV (As := []) (rest := []) E hC0 hS0 (m_X12_wrong l X Γ H0 hC0 h0 g0 ca gca uc) cw_X12_wrong cl_RX12_231 g0 ⟨rfl, rfl⟩ rfl hl.1 rfl (Nat.zero_le _) (by decide) dX12_count_16) hS0 (fun H52 locs52 hr52 hC52 hS52 => ?_)
      obtain ⟨hp52, hr52⟩ := hr52
      have hKp52 := hKp0.tr (hp52.mono rfl)
      obtain ⟨f52_0, f52_1, f52_2, f52_3⟩ := hr52
      refine lv_aload_n hx hb dX12_count_19 rfl (lv_at hl 0 rfl) ?_
      refine q_getI E hC52 g0 fa_RX12_218 dX12_count_20 (fun v53 ev53 lv53 uv53 => ?_)
      have m54 : (sI H52 h0 (X.1.2 11 12)).toInt = v53.toInt := (congrArg Int32.toInt ev53).trans rfl
      refine q_if_ne hx hb (a := v53.toInt) rfl (tgt := 50) dX12_count_23 rfl (fun c55 => ?_) (fun c55 => absurd c55 (by omega))
      refine lv_aload_n hx hb dX12_count_50 rfl (lv_at hl 0 rfl) ?_
      refine q_getI E hC52 g0 fa_RX12_218 dX12_count_51 (fun v56 ev56 lv56 uv56 => ?_)
      have qv56 := ev53.symm.trans ev56; subst qv56
      refine q_if_le hx hb (a := v53.toInt) rfl (tgt := 59) dX12_count_54 rfl (fun c57 => absurd c57 (by omega)) (fun c57 => ?_)
      refine lv_iconst (v := 0) hx hb dX12_count_57 rfl ?_
      have hz8 := tk_nn (sI H52 h0 (X.1.2 11 14)).toInt
      have c58 : (0 : Int32).toInt = 0 := (by decide)
      exact ret 0 H52 locs52 _ _ dX12_count_58 ⟨hKp52, ⟨by omega, by omega, by omega, by omega, by omega, by omega, by omega, by omega⟩⟩ hC52 hS52
set_option maxRecDepth 100000 in
set_option maxHeartbeats 4000000 in
theorem m_X12_isHigh (l : Launch) (X : xW) (Γ : Nat → Option Nat) (H0 : Heap) (hC0 : Conf X Γ H0) (h0 : Nat) (g0 : Γ h0 = some 11) (ca : Nat) (gca : Γ ca = some 64) (uc : ∀ a, Γ a = some 64 → a = ca) : Ctr l X Γ yX12_isHigh cX12_isHigh 1 (some .boolean) 1 [.ref h0] H0 (QI X Γ (fun v H1 => H1 = H0 ∧ (v = 0 ∨ v = 1))) := by
  refine q_enterZ (own := "SnowFortsModel") (by decide) rfl (Nat.le_of_ble_eq_true rfl) ?_
  intro p e s m args below meth c ls Qz E hl ret hS0
  have hx := E.1; have hb := E.2.1
  have hl : lv_has ls 1 [(0, .ref h0)] := hl
  refine lv_aload_n hx hb dX12_isHigh_0 rfl (lv_at hl 0 rfl) ?_
  refine lv_bipush (v := 104) hx hb dX12_isHigh_1 rfl ?_
  refine lv_bipush (v := 105) hx hb dX12_isHigh_3 rfl ?_
  refine lv_bipush (v := 103) hx hb dX12_isHigh_5 rfl ?_
  refine lv_bipush (v := 104) hx hb dX12_isHigh_7 rfl ?_
  refine lv_iconst (v := 0) hx hb dX12_isHigh_9 rfl ?_
  refine lv_iconst (v := 0) hx hb dX12_isHigh_10 rfl ?_
  refine q_goJp (q_runS (As := [.int 104, .int 105, .int 103, .int 104, .int 0, .int 0]) (rest := [.ref h0]) E hS0 (m_X12_spelled l X Γ H0 hC0 104 (a0 := 104) (by decide) 105 (a1 := 105) (by decide) 103 (a2 := 103) (by decide) 104 (a3 := 104) (by decide) 0 (a4 := 0) (by decide) 0 (a5 := 0) (by decide)) cw_X12_spelled cl_RX12_145 rfl hl.1 rfl (show _ ≤ _ from by simp [Value.category]) (by decide) dX12_isHigh_11) hS0 (fun v21 locs21 hr21 hS21 => ?_)
  refine q_goIp (q_runV (As := [.long v21]) (rest := []) E hC0 hS21 (m_X12_isWord l X Γ H0 hC0 h0 g0 v21 (a1 := v21.toInt) rfl ca gca uc) cw_X12_isWord cl_RX12_149 g0 ⟨rfl, rfl⟩ rfl hl.1 rfl (Nat.zero_le _) (by decide) dX12_isHigh_14) hS21 (fun v22 locs22 hr22 hS22 => ?_)
  rcases hr22 with rfl | rfl
  · exact ret 0 H0 locs22 _ _ dX12_isHigh_17 (Or.inl rfl) ⟨rfl, Or.inl rfl⟩ hC0 hS22
  · exact ret 1 H0 locs22 _ _ dX12_isHigh_17 (Or.inr rfl) ⟨rfl, Or.inr rfl⟩ hC0 hS22
set_option maxRecDepth 100000 in
set_option maxHeartbeats 4000000 in
theorem m_X12_isSign (l : Launch) (X : xW) (Γ : Nat → Option Nat) (H0 : Heap) (hC0 : Conf X Γ H0) (h0 : Nat) (g0 : Γ h0 = some 11) (p1 : Int32) {a1 : Int} (e1 : p1.toInt = a1) (ca : Nat) (gca : Γ ca = some 64) (uc : ∀ a, Γ a = some 64 → a = ca) : Ctr l X Γ yX12_isSign cX12_isSign 2 (some .boolean) 0 [.ref h0, .int p1] H0 (QI X Γ (fun v H1 => H1 = H0 ∧ ((v = 1 ∧ ((sI H0 h0 (X.1.2 11 14)).toInt = 3)) ∨ (v = 0 ∧ (True))))) := by
  refine q_enterZ (own := "SnowFortsModel") (by decide) rfl (Nat.le_of_ble_eq_true rfl) ?_
  intro p e s m args below meth c ls Qz E hl ret hS0
  have hx := E.1; have hb := E.2.1
  have hl : lv_has ls 2 [(0, .ref h0), (1, .int p1)] := hl
  refine lv_aload_n hx hb dX12_isSign_0 rfl (lv_at hl 0 rfl) ?_
  refine q_getI E hC0 g0 fa_RX12_120 dX12_isSign_1 (fun v21 ev21 _ _ => ?_)
  have m22 : (sI H0 h0 (X.1.2 11 14)).toInt = v21.toInt := (congrArg Int32.toInt ev21).trans rfl
  refine lv_iconst (v := 3) hx hb dX12_isSign_4 rfl ?_
  refine q_icmp_ne hx hb (a := v21.toInt) (b := 3) rfl (by decide) (tgt := 20) dX12_isSign_5 rfl (fun c23 => ?_) (fun c23 => ?_)
  · refine lv_iconst (v := 0) hx hb dX12_isSign_20 rfl ?_
    exact ret 0 H0 [] _ _ dX12_isSign_21 (Or.inl rfl) ⟨rfl, Or.inr ⟨rfl, trivial⟩⟩ hC0 hS0
  · refine lv_aload_n hx hb dX12_isSign_8 rfl (lv_at hl 0 rfl) ?_
    refine q_getI E hC0 g0 fa_RX12_139 dX12_isSign_9 (fun v24 ev24 _ _ => ?_)
    refine lv_iload_n hx hb dX12_isSign_12 rfl (lv_at hl 1 rfl) ?_
    have c25 := i_rng v24; rw [show v24.toInt = v24.toInt from rfl] at c25
    have c26 := i_rng p1; rw [show p1.toInt = a1 from e1] at c26
    refine q_icmp_ne hx hb (a := v24.toInt) (b := a1) rfl e1 (tgt := 20) dX12_isSign_13 rfl (fun c27 => ?_) (fun c27 => ?_)
    · refine lv_iconst (v := 0) hx hb dX12_isSign_20 rfl ?_
      exact ret 0 H0 [] _ _ dX12_isSign_21 (Or.inl rfl) ⟨rfl, Or.inr ⟨rfl, trivial⟩⟩ hC0 hS0
    · refine lv_iconst (v := 1) hx hb dX12_isSign_16 rfl ?_
      refine lv_goto (tgt := 21) hx hb dX12_isSign_17 rfl ?_
      exact ret 1 H0 [] _ _ dX12_isSign_21 (Or.inr rfl) ⟨rfl, Or.inl ⟨rfl, by omega⟩⟩ hC0 hS0
set_option maxRecDepth 100000 in
set_option maxHeartbeats 4000000 in
theorem m_X12_isSchool (l : Launch) (X : xW) (Γ : Nat → Option Nat) (H0 : Heap) (hC0 : Conf X Γ H0) (h0 : Nat) (g0 : Γ h0 = some 11) (ca : Nat) (gca : Γ ca = some 64) (uc : ∀ a, Γ a = some 64 → a = ca) : Ctr l X Γ yX12_isSchool cX12_isSchool 1 (some .boolean) 1 [.ref h0] H0 (QI X Γ (fun v H1 => H1 = H0 ∧ (v = 0 ∨ v = 1))) := by
  refine q_enterZ (own := "SnowFortsModel") (by decide) rfl (Nat.le_of_ble_eq_true rfl) ?_
  intro p e s m args below meth c ls Qz E hl ret hS0
  have hx := E.1; have hb := E.2.1
  have hl : lv_has ls 1 [(0, .ref h0)] := hl
  refine lv_aload_n hx hb dX12_isSchool_0 rfl (lv_at hl 0 rfl) ?_
  refine lv_bipush (v := 115) hx hb dX12_isSchool_1 rfl ?_
  refine lv_bipush (v := 99) hx hb dX12_isSchool_3 rfl ?_
  refine lv_bipush (v := 104) hx hb dX12_isSchool_5 rfl ?_
  refine lv_bipush (v := 111) hx hb dX12_isSchool_7 rfl ?_
  refine lv_bipush (v := 111) hx hb dX12_isSchool_9 rfl ?_
  refine lv_bipush (v := 108) hx hb dX12_isSchool_11 rfl ?_
  refine q_goJp (q_runS (As := [.int 115, .int 99, .int 104, .int 111, .int 111, .int 108]) (rest := [.ref h0]) E hS0 (m_X12_spelled l X Γ H0 hC0 115 (a0 := 115) (by decide) 99 (a1 := 99) (by decide) 104 (a2 := 104) (by decide) 111 (a3 := 111) (by decide) 111 (a4 := 111) (by decide) 108 (a5 := 108) (by decide)) cw_X12_spelled cl_RX12_145 rfl hl.1 rfl (show _ ≤ _ from by simp [Value.category]) (by decide) dX12_isSchool_13) hS0 (fun v21 locs21 hr21 hS21 => ?_)
  refine q_goIp (q_runV (As := [.long v21]) (rest := []) E hC0 hS21 (m_X12_isWord l X Γ H0 hC0 h0 g0 v21 (a1 := v21.toInt) rfl ca gca uc) cw_X12_isWord cl_RX12_149 g0 ⟨rfl, rfl⟩ rfl hl.1 rfl (Nat.zero_le _) (by decide) dX12_isSchool_16) hS21 (fun v22 locs22 hr22 hS22 => ?_)
  rcases hr22 with rfl | rfl
  · exact ret 0 H0 locs22 _ _ dX12_isSchool_19 (Or.inl rfl) ⟨rfl, Or.inl rfl⟩ hC0 hS22
  · exact ret 1 H0 locs22 _ _ dX12_isSchool_19 (Or.inr rfl) ⟨rfl, Or.inr rfl⟩ hC0 hS22
set_option maxRecDepth 100000 in
set_option maxHeartbeats 4000000 in
theorem m_X12_isHands (l : Launch) (X : xW) (Γ : Nat → Option Nat) (H0 : Heap) (hC0 : Conf X Γ H0) (h0 : Nat) (g0 : Γ h0 = some 11) (ca : Nat) (gca : Γ ca = some 64) (uc : ∀ a, Γ a = some 64 → a = ca) : Ctr l X Γ yX12_isHands cX12_isHands 1 (some .boolean) 1 [.ref h0] H0 (QI X Γ (fun v H1 => H1 = H0 ∧ (v = 0 ∨ v = 1))) := by
  refine q_enterZ (own := "SnowFortsModel") (by decide) rfl (Nat.le_of_ble_eq_true rfl) ?_
  intro p e s m args below meth c ls Qz E hl ret hS0
  have hx := E.1; have hb := E.2.1
  have hl : lv_has ls 1 [(0, .ref h0)] := hl
  refine lv_aload_n hx hb dX12_isHands_0 rfl (lv_at hl 0 rfl) ?_
  refine lv_bipush (v := 104) hx hb dX12_isHands_1 rfl ?_
  refine lv_bipush (v := 97) hx hb dX12_isHands_3 rfl ?_
  refine lv_bipush (v := 110) hx hb dX12_isHands_5 rfl ?_
  refine lv_bipush (v := 100) hx hb dX12_isHands_7 rfl ?_
  refine lv_bipush (v := 115) hx hb dX12_isHands_9 rfl ?_
  refine lv_iconst (v := 0) hx hb dX12_isHands_11 rfl ?_
  refine q_goJp (q_runS (As := [.int 104, .int 97, .int 110, .int 100, .int 115, .int 0]) (rest := [.ref h0]) E hS0 (m_X12_spelled l X Γ H0 hC0 104 (a0 := 104) (by decide) 97 (a1 := 97) (by decide) 110 (a2 := 110) (by decide) 100 (a3 := 100) (by decide) 115 (a4 := 115) (by decide) 0 (a5 := 0) (by decide)) cw_X12_spelled cl_RX12_145 rfl hl.1 rfl (show _ ≤ _ from by simp [Value.category]) (by decide) dX12_isHands_12) hS0 (fun v21 locs21 hr21 hS21 => ?_)
  refine q_goIp (q_runV (As := [.long v21]) (rest := []) E hC0 hS21 (m_X12_isWord l X Γ H0 hC0 h0 g0 v21 (a1 := v21.toInt) rfl ca gca uc) cw_X12_isWord cl_RX12_149 g0 ⟨rfl, rfl⟩ rfl hl.1 rfl (Nat.zero_le _) (by decide) dX12_isHands_15) hS21 (fun v22 locs22 hr22 hS22 => ?_)
  rcases hr22 with rfl | rfl
  · exact ret 0 H0 locs22 _ _ dX12_isHands_18 (Or.inl rfl) ⟨rfl, Or.inl rfl⟩ hC0 hS22
  · exact ret 1 H0 locs22 _ _ dX12_isHands_18 (Or.inr rfl) ⟨rfl, Or.inr rfl⟩ hC0 hS22
set_option maxRecDepth 100000 in
set_option maxHeartbeats 4000000 in
theorem m_X12_isSnow (l : Launch) (X : xW) (Γ : Nat → Option Nat) (H0 : Heap) (hC0 : Conf X Γ H0) (h0 : Nat) (g0 : Γ h0 = some 11) (ca : Nat) (gca : Γ ca = some 64) (uc : ∀ a, Γ a = some 64 → a = ca) : Ctr l X Γ yX12_isSnow cX12_isSnow 1 (some .boolean) 1 [.ref h0] H0 (QI X Γ (fun v H1 => H1 = H0 ∧ (v = 0 ∨ v = 1))) := by
  refine q_enterZ (own := "SnowFortsModel") (by decide) rfl (Nat.le_of_ble_eq_true rfl) ?_
  intro p e s m args below meth c ls Qz E hl ret hS0
  have hx := E.1; have hb := E.2.1
  have hl : lv_has ls 1 [(0, .ref h0)] := hl
  refine lv_aload_n hx hb dX12_isSnow_0 rfl (lv_at hl 0 rfl) ?_
  refine lv_bipush (v := 115) hx hb dX12_isSnow_1 rfl ?_
  refine lv_bipush (v := 110) hx hb dX12_isSnow_3 rfl ?_
  refine lv_bipush (v := 111) hx hb dX12_isSnow_5 rfl ?_
  refine lv_bipush (v := 119) hx hb dX12_isSnow_7 rfl ?_
  refine lv_iconst (v := 0) hx hb dX12_isSnow_9 rfl ?_
  refine lv_iconst (v := 0) hx hb dX12_isSnow_10 rfl ?_
  refine q_goJp (q_runS (As := [.int 115, .int 110, .int 111, .int 119, .int 0, .int 0]) (rest := [.ref h0]) E hS0 (m_X12_spelled l X Γ H0 hC0 115 (a0 := 115) (by decide) 110 (a1 := 110) (by decide) 111 (a2 := 111) (by decide) 119 (a3 := 119) (by decide) 0 (a4 := 0) (by decide) 0 (a5 := 0) (by decide)) cw_X12_spelled cl_RX12_145 rfl hl.1 rfl (show _ ≤ _ from by simp [Value.category]) (by decide) dX12_isSnow_11) hS0 (fun v21 locs21 hr21 hS21 => ?_)
  refine q_goIp (q_runV (As := [.long v21]) (rest := []) E hC0 hS21 (m_X12_isWord l X Γ H0 hC0 h0 g0 v21 (a1 := v21.toInt) rfl ca gca uc) cw_X12_isWord cl_RX12_149 g0 ⟨rfl, rfl⟩ rfl hl.1 rfl (Nat.zero_le _) (by decide) dX12_isSnow_14) hS21 (fun v22 locs22 hr22 hS22 => ?_)
  rcases hr22 with rfl | rfl
  · exact ret 0 H0 locs22 _ _ dX12_isSnow_17 (Or.inl rfl) ⟨rfl, Or.inl rfl⟩ hC0 hS22
  · exact ret 1 H0 locs22 _ _ dX12_isSnow_17 (Or.inr rfl) ⟨rfl, Or.inr rfl⟩ hC0 hS22
set_option maxRecDepth 100000 in
set_option maxHeartbeats 4000000 in
theorem m_X12_isDeep (l : Launch) (X : xW) (Γ : Nat → Option Nat) (H0 : Heap) (hC0 : Conf X Γ H0) (h0 : Nat) (g0 : Γ h0 = some 11) (ca : Nat) (gca : Γ ca = some 64) (uc : ∀ a, Γ a = some 64 → a = ca) : Ctr l X Γ yX12_isDeep cX12_isDeep 1 (some .boolean) 1 [.ref h0] H0 (QI X Γ (fun v H1 => H1 = H0 ∧ (v = 0 ∨ v = 1))) := by
  refine q_enterZ (own := "SnowFortsModel") (by decide) rfl (Nat.le_of_ble_eq_true rfl) ?_
  intro p e s m args below meth c ls Qz E hl ret hS0
  have hx := E.1; have hb := E.2.1
  have hl : lv_has ls 1 [(0, .ref h0)] := hl
  refine lv_aload_n hx hb dX12_isDeep_0 rfl (lv_at hl 0 rfl) ?_
  refine lv_bipush (v := 100) hx hb dX12_isDeep_1 rfl ?_
  refine lv_bipush (v := 101) hx hb dX12_isDeep_3 rfl ?_
  refine lv_bipush (v := 101) hx hb dX12_isDeep_5 rfl ?_
  refine lv_bipush (v := 112) hx hb dX12_isDeep_7 rfl ?_
  refine lv_iconst (v := 0) hx hb dX12_isDeep_9 rfl ?_
  refine lv_iconst (v := 0) hx hb dX12_isDeep_10 rfl ?_
  refine q_goJp (q_runS (As := [.int 100, .int 101, .int 101, .int 112, .int 0, .int 0]) (rest := [.ref h0]) E hS0 (m_X12_spelled l X Γ H0 hC0 100 (a0 := 100) (by decide) 101 (a1 := 101) (by decide) 101 (a2 := 101) (by decide) 112 (a3 := 112) (by decide) 0 (a4 := 0) (by decide) 0 (a5 := 0) (by decide)) cw_X12_spelled cl_RX12_145 rfl hl.1 rfl (show _ ≤ _ from by simp [Value.category]) (by decide) dX12_isDeep_11) hS0 (fun v21 locs21 hr21 hS21 => ?_)
  refine q_goIp (q_runV (As := [.long v21]) (rest := []) E hC0 hS21 (m_X12_isWord l X Γ H0 hC0 h0 g0 v21 (a1 := v21.toInt) rfl ca gca uc) cw_X12_isWord cl_RX12_149 g0 ⟨rfl, rfl⟩ rfl hl.1 rfl (Nat.zero_le _) (by decide) dX12_isDeep_14) hS21 (fun v22 locs22 hr22 hS22 => ?_)
  rcases hr22 with rfl | rfl
  · exact ret 0 H0 locs22 _ _ dX12_isDeep_17 (Or.inl rfl) ⟨rfl, Or.inl rfl⟩ hC0 hS22
  · exact ret 1 H0 locs22 _ _ dX12_isDeep_17 (Or.inr rfl) ⟨rfl, Or.inr rfl⟩ hC0 hS22
set_option maxRecDepth 100000 in
set_option maxHeartbeats 4000000 in
theorem m_X12_isTall (l : Launch) (X : xW) (Γ : Nat → Option Nat) (H0 : Heap) (hC0 : Conf X Γ H0) (h0 : Nat) (g0 : Γ h0 = some 11) (ca : Nat) (gca : Γ ca = some 64) (uc : ∀ a, Γ a = some 64 → a = ca) : Ctr l X Γ yX12_isTall cX12_isTall 1 (some .boolean) 1 [.ref h0] H0 (QI X Γ (fun v H1 => H1 = H0 ∧ (v = 0 ∨ v = 1))) := by
  refine q_enterZ (own := "SnowFortsModel") (by decide) rfl (Nat.le_of_ble_eq_true rfl) ?_
  intro p e s m args below meth c ls Qz E hl ret hS0
  have hx := E.1; have hb := E.2.1
  have hl : lv_has ls 1 [(0, .ref h0)] := hl
  refine lv_aload_n hx hb dX12_isTall_0 rfl (lv_at hl 0 rfl) ?_
  refine lv_bipush (v := 116) hx hb dX12_isTall_1 rfl ?_
  refine lv_bipush (v := 97) hx hb dX12_isTall_3 rfl ?_
  refine lv_bipush (v := 108) hx hb dX12_isTall_5 rfl ?_
  refine lv_bipush (v := 108) hx hb dX12_isTall_7 rfl ?_
  refine lv_iconst (v := 0) hx hb dX12_isTall_9 rfl ?_
  refine lv_iconst (v := 0) hx hb dX12_isTall_10 rfl ?_
  refine q_goJp (q_runS (As := [.int 116, .int 97, .int 108, .int 108, .int 0, .int 0]) (rest := [.ref h0]) E hS0 (m_X12_spelled l X Γ H0 hC0 116 (a0 := 116) (by decide) 97 (a1 := 97) (by decide) 108 (a2 := 108) (by decide) 108 (a3 := 108) (by decide) 0 (a4 := 0) (by decide) 0 (a5 := 0) (by decide)) cw_X12_spelled cl_RX12_145 rfl hl.1 rfl (show _ ≤ _ from by simp [Value.category]) (by decide) dX12_isTall_11) hS0 (fun v21 locs21 hr21 hS21 => ?_)
  refine q_goIp (q_runV (As := [.long v21]) (rest := []) E hC0 hS21 (m_X12_isWord l X Γ H0 hC0 h0 g0 v21 (a1 := v21.toInt) rfl ca gca uc) cw_X12_isWord cl_RX12_149 g0 ⟨rfl, rfl⟩ rfl hl.1 rfl (Nat.zero_le _) (by decide) dX12_isTall_14) hS21 (fun v22 locs22 hr22 hS22 => ?_)
  rcases hr22 with rfl | rfl
  · exact ret 0 H0 locs22 _ _ dX12_isTall_17 (Or.inl rfl) ⟨rfl, Or.inl rfl⟩ hC0 hS22
  · exact ret 1 H0 locs22 _ _ dX12_isTall_17 (Or.inr rfl) ⟨rfl, Or.inr rfl⟩ hC0 hS22
set_option maxRecDepth 100000 in
set_option maxHeartbeats 4000000 in
theorem m_X12_isSun (l : Launch) (X : xW) (Γ : Nat → Option Nat) (H0 : Heap) (hC0 : Conf X Γ H0) (h0 : Nat) (g0 : Γ h0 = some 11) (ca : Nat) (gca : Γ ca = some 64) (uc : ∀ a, Γ a = some 64 → a = ca) : Ctr l X Γ yX12_isSun cX12_isSun 1 (some .boolean) 1 [.ref h0] H0 (QI X Γ (fun v H1 => H1 = H0 ∧ (v = 0 ∨ v = 1))) := by
  refine q_enterZ (own := "SnowFortsModel") (by decide) rfl (Nat.le_of_ble_eq_true rfl) ?_
  intro p e s m args below meth c ls Qz E hl ret hS0
  have hx := E.1; have hb := E.2.1
  have hl : lv_has ls 1 [(0, .ref h0)] := hl
  refine lv_aload_n hx hb dX12_isSun_0 rfl (lv_at hl 0 rfl) ?_
  refine lv_bipush (v := 115) hx hb dX12_isSun_1 rfl ?_
  refine lv_bipush (v := 117) hx hb dX12_isSun_3 rfl ?_
  refine lv_bipush (v := 110) hx hb dX12_isSun_5 rfl ?_
  refine lv_iconst (v := 0) hx hb dX12_isSun_7 rfl ?_
  refine lv_iconst (v := 0) hx hb dX12_isSun_8 rfl ?_
  refine lv_iconst (v := 0) hx hb dX12_isSun_9 rfl ?_
  refine q_goJp (q_runS (As := [.int 115, .int 117, .int 110, .int 0, .int 0, .int 0]) (rest := [.ref h0]) E hS0 (m_X12_spelled l X Γ H0 hC0 115 (a0 := 115) (by decide) 117 (a1 := 117) (by decide) 110 (a2 := 110) (by decide) 0 (a3 := 0) (by decide) 0 (a4 := 0) (by decide) 0 (a5 := 0) (by decide)) cw_X12_spelled cl_RX12_145 rfl hl.1 rfl (show _ ≤ _ from by simp [Value.category]) (by decide) dX12_isSun_10) hS0 (fun v21 locs21 hr21 hS21 => ?_)
  refine q_goIp (q_runV (As := [.long v21]) (rest := []) E hC0 hS21 (m_X12_isWord l X Γ H0 hC0 h0 g0 v21 (a1 := v21.toInt) rfl ca gca uc) cw_X12_isWord cl_RX12_149 g0 ⟨rfl, rfl⟩ rfl hl.1 rfl (Nat.zero_le _) (by decide) dX12_isSun_13) hS21 (fun v22 locs22 hr22 hS22 => ?_)
  rcases hr22 with rfl | rfl
  · exact ret 0 H0 locs22 _ _ dX12_isSun_16 (Or.inl rfl) ⟨rfl, Or.inl rfl⟩ hC0 hS22
  · exact ret 1 H0 locs22 _ _ dX12_isSun_16 (Or.inr rfl) ⟨rfl, Or.inr rfl⟩ hC0 hS22
set_option maxRecDepth 100000 in
set_option maxHeartbeats 4000000 in
theorem m_X12_isBy (l : Launch) (X : xW) (Γ : Nat → Option Nat) (H0 : Heap) (hC0 : Conf X Γ H0) (h0 : Nat) (g0 : Γ h0 = some 11) (ca : Nat) (gca : Γ ca = some 64) (uc : ∀ a, Γ a = some 64 → a = ca) : Ctr l X Γ yX12_isBy cX12_isBy 1 (some .boolean) 1 [.ref h0] H0 (QI X Γ (fun v H1 => H1 = H0 ∧ (v = 0 ∨ v = 1))) := by
  refine q_enterZ (own := "SnowFortsModel") (by decide) rfl (Nat.le_of_ble_eq_true rfl) ?_
  intro p e s m args below meth c ls Qz E hl ret hS0
  have hx := E.1; have hb := E.2.1
  have hl : lv_has ls 1 [(0, .ref h0)] := hl
  refine lv_aload_n hx hb dX12_isBy_0 rfl (lv_at hl 0 rfl) ?_
  refine lv_bipush (v := 98) hx hb dX12_isBy_1 rfl ?_
  refine lv_bipush (v := 121) hx hb dX12_isBy_3 rfl ?_
  refine lv_iconst (v := 0) hx hb dX12_isBy_5 rfl ?_
  refine lv_iconst (v := 0) hx hb dX12_isBy_6 rfl ?_
  refine lv_iconst (v := 0) hx hb dX12_isBy_7 rfl ?_
  refine lv_iconst (v := 0) hx hb dX12_isBy_8 rfl ?_
  refine q_goJp (q_runS (As := [.int 98, .int 121, .int 0, .int 0, .int 0, .int 0]) (rest := [.ref h0]) E hS0 (m_X12_spelled l X Γ H0 hC0 98 (a0 := 98) (by decide) 121 (a1 := 121) (by decide) 0 (a2 := 0) (by decide) 0 (a3 := 0) (by decide) 0 (a4 := 0) (by decide) 0 (a5 := 0) (by decide)) cw_X12_spelled cl_RX12_145 rfl hl.1 rfl (show _ ≤ _ from by simp [Value.category]) (by decide) dX12_isBy_9) hS0 (fun v21 locs21 hr21 hS21 => ?_)
  refine q_goIp (q_runV (As := [.long v21]) (rest := []) E hC0 hS21 (m_X12_isWord l X Γ H0 hC0 h0 g0 v21 (a1 := v21.toInt) rfl ca gca uc) cw_X12_isWord cl_RX12_149 g0 ⟨rfl, rfl⟩ rfl hl.1 rfl (Nat.zero_le _) (by decide) dX12_isBy_12) hS21 (fun v22 locs22 hr22 hS22 => ?_)
  rcases hr22 with rfl | rfl
  · exact ret 0 H0 locs22 _ _ dX12_isBy_15 (Or.inl rfl) ⟨rfl, Or.inl rfl⟩ hC0 hS22
  · exact ret 1 H0 locs22 _ _ dX12_isBy_15 (Or.inr rfl) ⟨rfl, Or.inr rfl⟩ hC0 hS22
set_option maxRecDepth 100000 in
set_option maxHeartbeats 4000000 in
theorem m_X12_isNo (l : Launch) (X : xW) (Γ : Nat → Option Nat) (H0 : Heap) (hC0 : Conf X Γ H0) (h0 : Nat) (g0 : Γ h0 = some 11) (ca : Nat) (gca : Γ ca = some 64) (uc : ∀ a, Γ a = some 64 → a = ca) : Ctr l X Γ yX12_isNo cX12_isNo 1 (some .boolean) 1 [.ref h0] H0 (QI X Γ (fun v H1 => H1 = H0 ∧ (v = 0 ∨ v = 1))) := by
  refine q_enterZ (own := "SnowFortsModel") (by decide) rfl (Nat.le_of_ble_eq_true rfl) ?_
  intro p e s m args below meth c ls Qz E hl ret hS0
  have hx := E.1; have hb := E.2.1
  have hl : lv_has ls 1 [(0, .ref h0)] := hl
  refine lv_aload_n hx hb dX12_isNo_0 rfl (lv_at hl 0 rfl) ?_
  refine lv_bipush (v := 110) hx hb dX12_isNo_1 rfl ?_
  refine lv_bipush (v := 111) hx hb dX12_isNo_3 rfl ?_
  refine lv_iconst (v := 0) hx hb dX12_isNo_5 rfl ?_
  refine lv_iconst (v := 0) hx hb dX12_isNo_6 rfl ?_
  refine lv_iconst (v := 0) hx hb dX12_isNo_7 rfl ?_
  refine lv_iconst (v := 0) hx hb dX12_isNo_8 rfl ?_
  refine q_goJp (q_runS (As := [.int 110, .int 111, .int 0, .int 0, .int 0, .int 0]) (rest := [.ref h0]) E hS0 (m_X12_spelled l X Γ H0 hC0 110 (a0 := 110) (by decide) 111 (a1 := 111) (by decide) 0 (a2 := 0) (by decide) 0 (a3 := 0) (by decide) 0 (a4 := 0) (by decide) 0 (a5 := 0) (by decide)) cw_X12_spelled cl_RX12_145 rfl hl.1 rfl (show _ ≤ _ from by simp [Value.category]) (by decide) dX12_isNo_9) hS0 (fun v21 locs21 hr21 hS21 => ?_)
  refine q_goIp (q_runV (As := [.long v21]) (rest := []) E hC0 hS21 (m_X12_isWord l X Γ H0 hC0 h0 g0 v21 (a1 := v21.toInt) rfl ca gca uc) cw_X12_isWord cl_RX12_149 g0 ⟨rfl, rfl⟩ rfl hl.1 rfl (Nat.zero_le _) (by decide) dX12_isNo_12) hS21 (fun v22 locs22 hr22 hS22 => ?_)
  rcases hr22 with rfl | rfl
  · exact ret 0 H0 locs22 _ _ dX12_isNo_15 (Or.inl rfl) ⟨rfl, Or.inl rfl⟩ hC0 hS22
  · exact ret 1 H0 locs22 _ _ dX12_isNo_15 (Or.inr rfl) ⟨rfl, Or.inr rfl⟩ hC0 hS22
set_option maxRecDepth 100000 in
set_option maxHeartbeats 4000000 in
theorem m_X12_isAbove (l : Launch) (X : xW) (Γ : Nat → Option Nat) (H0 : Heap) (hC0 : Conf X Γ H0) (h0 : Nat) (g0 : Γ h0 = some 11) (ca : Nat) (gca : Γ ca = some 64) (uc : ∀ a, Γ a = some 64 → a = ca) : Ctr l X Γ yX12_isAbove cX12_isAbove 1 (some .boolean) 1 [.ref h0] H0 (QI X Γ (fun v H1 => H1 = H0 ∧ (v = 0 ∨ v = 1))) := by
  refine q_enterZ (own := "SnowFortsModel") (by decide) rfl (Nat.le_of_ble_eq_true rfl) ?_
  intro p e s m args below meth c ls Qz E hl ret hS0
  have hx := E.1; have hb := E.2.1
  have hl : lv_has ls 1 [(0, .ref h0)] := hl
  refine lv_aload_n hx hb dX12_isAbove_0 rfl (lv_at hl 0 rfl) ?_
  refine lv_bipush (v := 97) hx hb dX12_isAbove_1 rfl ?_
  refine lv_bipush (v := 98) hx hb dX12_isAbove_3 rfl ?_
  refine lv_bipush (v := 111) hx hb dX12_isAbove_5 rfl ?_
  refine lv_bipush (v := 118) hx hb dX12_isAbove_7 rfl ?_
  refine lv_bipush (v := 101) hx hb dX12_isAbove_9 rfl ?_
  refine lv_iconst (v := 0) hx hb dX12_isAbove_11 rfl ?_
  refine q_goJp (q_runS (As := [.int 97, .int 98, .int 111, .int 118, .int 101, .int 0]) (rest := [.ref h0]) E hS0 (m_X12_spelled l X Γ H0 hC0 97 (a0 := 97) (by decide) 98 (a1 := 98) (by decide) 111 (a2 := 111) (by decide) 118 (a3 := 118) (by decide) 101 (a4 := 101) (by decide) 0 (a5 := 0) (by decide)) cw_X12_spelled cl_RX12_145 rfl hl.1 rfl (show _ ≤ _ from by simp [Value.category]) (by decide) dX12_isAbove_12) hS0 (fun v21 locs21 hr21 hS21 => ?_)
  refine q_goIp (q_runV (As := [.long v21]) (rest := []) E hC0 hS21 (m_X12_isWord l X Γ H0 hC0 h0 g0 v21 (a1 := v21.toInt) rfl ca gca uc) cw_X12_isWord cl_RX12_149 g0 ⟨rfl, rfl⟩ rfl hl.1 rfl (Nat.zero_le _) (by decide) dX12_isAbove_15) hS21 (fun v22 locs22 hr22 hS22 => ?_)
  rcases hr22 with rfl | rfl
  · exact ret 0 H0 locs22 _ _ dX12_isAbove_18 (Or.inl rfl) ⟨rfl, Or.inl rfl⟩ hC0 hS22
  · exact ret 1 H0 locs22 _ _ dX12_isAbove_18 (Or.inr rfl) ⟨rfl, Or.inr rfl⟩ hC0 hS22
set_option maxRecDepth 100000 in
set_option maxHeartbeats 4000000 in
theorem m_X12_isBehind (l : Launch) (X : xW) (Γ : Nat → Option Nat) (H0 : Heap) (hC0 : Conf X Γ H0) (h0 : Nat) (g0 : Γ h0 = some 11) (ca : Nat) (gca : Γ ca = some 64) (uc : ∀ a, Γ a = some 64 → a = ca) : Ctr l X Γ yX12_isBehind cX12_isBehind 1 (some .boolean) 1 [.ref h0] H0 (QI X Γ (fun v H1 => H1 = H0 ∧ (v = 0 ∨ v = 1))) := by
  refine q_enterZ (own := "SnowFortsModel") (by decide) rfl (Nat.le_of_ble_eq_true rfl) ?_
  intro p e s m args below meth c ls Qz E hl ret hS0
  have hx := E.1; have hb := E.2.1
  have hl : lv_has ls 1 [(0, .ref h0)] := hl
  refine lv_aload_n hx hb dX12_isBehind_0 rfl (lv_at hl 0 rfl) ?_
  refine lv_bipush (v := 98) hx hb dX12_isBehind_1 rfl ?_
  refine lv_bipush (v := 101) hx hb dX12_isBehind_3 rfl ?_
  refine lv_bipush (v := 104) hx hb dX12_isBehind_5 rfl ?_
  refine lv_bipush (v := 105) hx hb dX12_isBehind_7 rfl ?_
  refine lv_bipush (v := 110) hx hb dX12_isBehind_9 rfl ?_
  refine lv_bipush (v := 100) hx hb dX12_isBehind_11 rfl ?_
  refine q_goJp (q_runS (As := [.int 98, .int 101, .int 104, .int 105, .int 110, .int 100]) (rest := [.ref h0]) E hS0 (m_X12_spelled l X Γ H0 hC0 98 (a0 := 98) (by decide) 101 (a1 := 101) (by decide) 104 (a2 := 104) (by decide) 105 (a3 := 105) (by decide) 110 (a4 := 110) (by decide) 100 (a5 := 100) (by decide)) cw_X12_spelled cl_RX12_145 rfl hl.1 rfl (show _ ≤ _ from by simp [Value.category]) (by decide) dX12_isBehind_13) hS0 (fun v21 locs21 hr21 hS21 => ?_)
  refine q_goIp (q_runV (As := [.long v21]) (rest := []) E hC0 hS21 (m_X12_isWord l X Γ H0 hC0 h0 g0 v21 (a1 := v21.toInt) rfl ca gca uc) cw_X12_isWord cl_RX12_149 g0 ⟨rfl, rfl⟩ rfl hl.1 rfl (Nat.zero_le _) (by decide) dX12_isBehind_16) hS21 (fun v22 locs22 hr22 hS22 => ?_)
  rcases hr22 with rfl | rfl
  · exact ret 0 H0 locs22 _ _ dX12_isBehind_19 (Or.inl rfl) ⟨rfl, Or.inl rfl⟩ hC0 hS22
  · exact ret 1 H0 locs22 _ _ dX12_isBehind_19 (Or.inr rfl) ⟨rfl, Or.inr rfl⟩ hC0 hS22
set_option maxRecDepth 100000 in
set_option maxHeartbeats 4000000 in
theorem m_X12_isTo (l : Launch) (X : xW) (Γ : Nat → Option Nat) (H0 : Heap) (hC0 : Conf X Γ H0) (h0 : Nat) (g0 : Γ h0 = some 11) (ca : Nat) (gca : Γ ca = some 64) (uc : ∀ a, Γ a = some 64 → a = ca) : Ctr l X Γ yX12_isTo cX12_isTo 1 (some .boolean) 1 [.ref h0] H0 (QI X Γ (fun v H1 => H1 = H0 ∧ (v = 0 ∨ v = 1))) := by
  refine q_enterZ (own := "SnowFortsModel") (by decide) rfl (Nat.le_of_ble_eq_true rfl) ?_
  intro p e s m args below meth c ls Qz E hl ret hS0
  have hx := E.1; have hb := E.2.1
  have hl : lv_has ls 1 [(0, .ref h0)] := hl
  refine lv_aload_n hx hb dX12_isTo_0 rfl (lv_at hl 0 rfl) ?_
  refine lv_bipush (v := 116) hx hb dX12_isTo_1 rfl ?_
  refine lv_bipush (v := 111) hx hb dX12_isTo_3 rfl ?_
  refine lv_iconst (v := 0) hx hb dX12_isTo_5 rfl ?_
  refine lv_iconst (v := 0) hx hb dX12_isTo_6 rfl ?_
  refine lv_iconst (v := 0) hx hb dX12_isTo_7 rfl ?_
  refine lv_iconst (v := 0) hx hb dX12_isTo_8 rfl ?_
  refine q_goJp (q_runS (As := [.int 116, .int 111, .int 0, .int 0, .int 0, .int 0]) (rest := [.ref h0]) E hS0 (m_X12_spelled l X Γ H0 hC0 116 (a0 := 116) (by decide) 111 (a1 := 111) (by decide) 0 (a2 := 0) (by decide) 0 (a3 := 0) (by decide) 0 (a4 := 0) (by decide) 0 (a5 := 0) (by decide)) cw_X12_spelled cl_RX12_145 rfl hl.1 rfl (show _ ≤ _ from by simp [Value.category]) (by decide) dX12_isTo_9) hS0 (fun v21 locs21 hr21 hS21 => ?_)
  refine q_goIp (q_runV (As := [.long v21]) (rest := []) E hC0 hS21 (m_X12_isWord l X Γ H0 hC0 h0 g0 v21 (a1 := v21.toInt) rfl ca gca uc) cw_X12_isWord cl_RX12_149 g0 ⟨rfl, rfl⟩ rfl hl.1 rfl (Nat.zero_le _) (by decide) dX12_isTo_12) hS21 (fun v22 locs22 hr22 hS22 => ?_)
  rcases hr22 with rfl | rfl
  · exact ret 0 H0 locs22 _ _ dX12_isTo_15 (Or.inl rfl) ⟨rfl, Or.inl rfl⟩ hC0 hS22
  · exact ret 1 H0 locs22 _ _ dX12_isTo_15 (Or.inr rfl) ⟨rfl, Or.inr rfl⟩ hC0 hS22
set_option maxRecDepth 100000 in
set_option maxHeartbeats 4000000 in
theorem m_X12_isFrom (l : Launch) (X : xW) (Γ : Nat → Option Nat) (H0 : Heap) (hC0 : Conf X Γ H0) (h0 : Nat) (g0 : Γ h0 = some 11) (ca : Nat) (gca : Γ ca = some 64) (uc : ∀ a, Γ a = some 64 → a = ca) : Ctr l X Γ yX12_isFrom cX12_isFrom 1 (some .boolean) 1 [.ref h0] H0 (QI X Γ (fun v H1 => H1 = H0 ∧ (v = 0 ∨ v = 1))) := by
  refine q_enterZ (own := "SnowFortsModel") (by decide) rfl (Nat.le_of_ble_eq_true rfl) ?_
  intro p e s m args below meth c ls Qz E hl ret hS0
  have hx := E.1; have hb := E.2.1
  have hl : lv_has ls 1 [(0, .ref h0)] := hl
  refine lv_aload_n hx hb dX12_isFrom_0 rfl (lv_at hl 0 rfl) ?_
  refine lv_bipush (v := 102) hx hb dX12_isFrom_1 rfl ?_
  refine lv_bipush (v := 114) hx hb dX12_isFrom_3 rfl ?_
  refine lv_bipush (v := 111) hx hb dX12_isFrom_5 rfl ?_
  refine lv_bipush (v := 109) hx hb dX12_isFrom_7 rfl ?_
  refine lv_iconst (v := 0) hx hb dX12_isFrom_9 rfl ?_
  refine lv_iconst (v := 0) hx hb dX12_isFrom_10 rfl ?_
  refine q_goJp (q_runS (As := [.int 102, .int 114, .int 111, .int 109, .int 0, .int 0]) (rest := [.ref h0]) E hS0 (m_X12_spelled l X Γ H0 hC0 102 (a0 := 102) (by decide) 114 (a1 := 114) (by decide) 111 (a2 := 111) (by decide) 109 (a3 := 109) (by decide) 0 (a4 := 0) (by decide) 0 (a5 := 0) (by decide)) cw_X12_spelled cl_RX12_145 rfl hl.1 rfl (show _ ≤ _ from by simp [Value.category]) (by decide) dX12_isFrom_11) hS0 (fun v21 locs21 hr21 hS21 => ?_)
  refine q_goIp (q_runV (As := [.long v21]) (rest := []) E hC0 hS21 (m_X12_isWord l X Γ H0 hC0 h0 g0 v21 (a1 := v21.toInt) rfl ca gca uc) cw_X12_isWord cl_RX12_149 g0 ⟨rfl, rfl⟩ rfl hl.1 rfl (Nat.zero_le _) (by decide) dX12_isFrom_14) hS21 (fun v22 locs22 hr22 hS22 => ?_)
  rcases hr22 with rfl | rfl
  · exact ret 0 H0 locs22 _ _ dX12_isFrom_17 (Or.inl rfl) ⟨rfl, Or.inl rfl⟩ hC0 hS22
  · exact ret 1 H0 locs22 _ _ dX12_isFrom_17 (Or.inr rfl) ⟨rfl, Or.inr rfl⟩ hC0 hS22
set_option maxRecDepth 100000 in
set_option maxHeartbeats 4000000 in
theorem m_X12_isBuild (l : Launch) (X : xW) (Γ : Nat → Option Nat) (H0 : Heap) (hC0 : Conf X Γ H0) (h0 : Nat) (g0 : Γ h0 = some 11) (ca : Nat) (gca : Γ ca = some 64) (uc : ∀ a, Γ a = some 64 → a = ca) : Ctr l X Γ yX12_isBuild cX12_isBuild 1 (some .boolean) 1 [.ref h0] H0 (QI X Γ (fun v H1 => H1 = H0 ∧ (v = 0 ∨ v = 1))) := by
  refine q_enterZ (own := "SnowFortsModel") (by decide) rfl (Nat.le_of_ble_eq_true rfl) ?_
  intro p e s m args below meth c ls Qz E hl ret hS0
  have hx := E.1; have hb := E.2.1
  have hl : lv_has ls 1 [(0, .ref h0)] := hl
  refine lv_aload_n hx hb dX12_isBuild_0 rfl (lv_at hl 0 rfl) ?_
  refine lv_bipush (v := 98) hx hb dX12_isBuild_1 rfl ?_
  refine lv_bipush (v := 117) hx hb dX12_isBuild_3 rfl ?_
  refine lv_bipush (v := 105) hx hb dX12_isBuild_5 rfl ?_
  refine lv_bipush (v := 108) hx hb dX12_isBuild_7 rfl ?_
  refine lv_bipush (v := 100) hx hb dX12_isBuild_9 rfl ?_
  refine lv_iconst (v := 0) hx hb dX12_isBuild_11 rfl ?_
  refine q_goJp (q_runS (As := [.int 98, .int 117, .int 105, .int 108, .int 100, .int 0]) (rest := [.ref h0]) E hS0 (m_X12_spelled l X Γ H0 hC0 98 (a0 := 98) (by decide) 117 (a1 := 117) (by decide) 105 (a2 := 105) (by decide) 108 (a3 := 108) (by decide) 100 (a4 := 100) (by decide) 0 (a5 := 0) (by decide)) cw_X12_spelled cl_RX12_145 rfl hl.1 rfl (show _ ≤ _ from by simp [Value.category]) (by decide) dX12_isBuild_12) hS0 (fun v21 locs21 hr21 hS21 => ?_)
  refine q_goIp (q_runV (As := [.long v21]) (rest := []) E hC0 hS21 (m_X12_isWord l X Γ H0 hC0 h0 g0 v21 (a1 := v21.toInt) rfl ca gca uc) cw_X12_isWord cl_RX12_149 g0 ⟨rfl, rfl⟩ rfl hl.1 rfl (Nat.zero_le _) (by decide) dX12_isBuild_15) hS21 (fun v22 locs22 hr22 hS22 => ?_)
  rcases hr22 with rfl | rfl
  · exact ret 0 H0 locs22 _ _ dX12_isBuild_18 (Or.inl rfl) ⟨rfl, Or.inl rfl⟩ hC0 hS22
  · exact ret 1 H0 locs22 _ _ dX12_isBuild_18 (Or.inr rfl) ⟨rfl, Or.inr rfl⟩ hC0 hS22
set_option maxRecDepth 100000 in
set_option maxHeartbeats 4000000 in
theorem m_X12_isIce (l : Launch) (X : xW) (Γ : Nat → Option Nat) (H0 : Heap) (hC0 : Conf X Γ H0) (h0 : Nat) (g0 : Γ h0 = some 11) (ca : Nat) (gca : Γ ca = some 64) (uc : ∀ a, Γ a = some 64 → a = ca) : Ctr l X Γ yX12_isIce cX12_isIce 1 (some .boolean) 1 [.ref h0] H0 (QI X Γ (fun v H1 => H1 = H0 ∧ (v = 0 ∨ v = 1))) := by
  refine q_enterZ (own := "SnowFortsModel") (by decide) rfl (Nat.le_of_ble_eq_true rfl) ?_
  intro p e s m args below meth c ls Qz E hl ret hS0
  have hx := E.1; have hb := E.2.1
  have hl : lv_has ls 1 [(0, .ref h0)] := hl
  refine lv_aload_n hx hb dX12_isIce_0 rfl (lv_at hl 0 rfl) ?_
  refine lv_bipush (v := 105) hx hb dX12_isIce_1 rfl ?_
  refine lv_bipush (v := 99) hx hb dX12_isIce_3 rfl ?_
  refine lv_bipush (v := 101) hx hb dX12_isIce_5 rfl ?_
  refine lv_iconst (v := 0) hx hb dX12_isIce_7 rfl ?_
  refine lv_iconst (v := 0) hx hb dX12_isIce_8 rfl ?_
  refine lv_iconst (v := 0) hx hb dX12_isIce_9 rfl ?_
  refine q_goJp (q_runS (As := [.int 105, .int 99, .int 101, .int 0, .int 0, .int 0]) (rest := [.ref h0]) E hS0 (m_X12_spelled l X Γ H0 hC0 105 (a0 := 105) (by decide) 99 (a1 := 99) (by decide) 101 (a2 := 101) (by decide) 0 (a3 := 0) (by decide) 0 (a4 := 0) (by decide) 0 (a5 := 0) (by decide)) cw_X12_spelled cl_RX12_145 rfl hl.1 rfl (show _ ≤ _ from by simp [Value.category]) (by decide) dX12_isIce_10) hS0 (fun v21 locs21 hr21 hS21 => ?_)
  refine q_goIp (q_runV (As := [.long v21]) (rest := []) E hC0 hS21 (m_X12_isWord l X Γ H0 hC0 h0 g0 v21 (a1 := v21.toInt) rfl ca gca uc) cw_X12_isWord cl_RX12_149 g0 ⟨rfl, rfl⟩ rfl hl.1 rfl (Nat.zero_le _) (by decide) dX12_isIce_13) hS21 (fun v22 locs22 hr22 hS22 => ?_)
  rcases hr22 with rfl | rfl
  · exact ret 0 H0 locs22 _ _ dX12_isIce_16 (Or.inl rfl) ⟨rfl, Or.inl rfl⟩ hC0 hS22
  · exact ret 1 H0 locs22 _ _ dX12_isIce_16 (Or.inr rfl) ⟨rfl, Or.inr rfl⟩ hC0 hS22
set_option maxRecDepth 100000 in
set_option maxHeartbeats 4000000 in
theorem m_X12_isSteal (l : Launch) (X : xW) (Γ : Nat → Option Nat) (H0 : Heap) (hC0 : Conf X Γ H0) (h0 : Nat) (g0 : Γ h0 = some 11) (ca : Nat) (gca : Γ ca = some 64) (uc : ∀ a, Γ a = some 64 → a = ca) : Ctr l X Γ yX12_isSteal cX12_isSteal 1 (some .boolean) 1 [.ref h0] H0 (QI X Γ (fun v H1 => H1 = H0 ∧ (v = 0 ∨ v = 1))) := by
  refine q_enterZ (own := "SnowFortsModel") (by decide) rfl (Nat.le_of_ble_eq_true rfl) ?_
  intro p e s m args below meth c ls Qz E hl ret hS0
  have hx := E.1; have hb := E.2.1
  have hl : lv_has ls 1 [(0, .ref h0)] := hl
  refine lv_aload_n hx hb dX12_isSteal_0 rfl (lv_at hl 0 rfl) ?_
  refine lv_bipush (v := 115) hx hb dX12_isSteal_1 rfl ?_
  refine lv_bipush (v := 116) hx hb dX12_isSteal_3 rfl ?_
  refine lv_bipush (v := 101) hx hb dX12_isSteal_5 rfl ?_
  refine lv_bipush (v := 97) hx hb dX12_isSteal_7 rfl ?_
  refine lv_bipush (v := 108) hx hb dX12_isSteal_9 rfl ?_
  refine lv_iconst (v := 0) hx hb dX12_isSteal_11 rfl ?_
  refine q_goJp (q_runS (As := [.int 115, .int 116, .int 101, .int 97, .int 108, .int 0]) (rest := [.ref h0]) E hS0 (m_X12_spelled l X Γ H0 hC0 115 (a0 := 115) (by decide) 116 (a1 := 116) (by decide) 101 (a2 := 101) (by decide) 97 (a3 := 97) (by decide) 108 (a4 := 108) (by decide) 0 (a5 := 0) (by decide)) cw_X12_spelled cl_RX12_145 rfl hl.1 rfl (show _ ≤ _ from by simp [Value.category]) (by decide) dX12_isSteal_12) hS0 (fun v21 locs21 hr21 hS21 => ?_)
  refine q_goIp (q_runV (As := [.long v21]) (rest := []) E hC0 hS21 (m_X12_isWord l X Γ H0 hC0 h0 g0 v21 (a1 := v21.toInt) rfl ca gca uc) cw_X12_isWord cl_RX12_149 g0 ⟨rfl, rfl⟩ rfl hl.1 rfl (Nat.zero_le _) (by decide) dX12_isSteal_15) hS21 (fun v22 locs22 hr22 hS22 => ?_)
  rcases hr22 with rfl | rfl
  · exact ret 0 H0 locs22 _ _ dX12_isSteal_18 (Or.inl rfl) ⟨rfl, Or.inl rfl⟩ hC0 hS22
  · exact ret 1 H0 locs22 _ _ dX12_isSteal_18 (Or.inr rfl) ⟨rfl, Or.inr rfl⟩ hC0 hS22
set_option maxRecDepth 100000 in
set_option maxHeartbeats 4000000 in
theorem m_X12_stepWord (l : Launch) (X : xW) (Γ : Nat → Option Nat) (H0 : Heap) (hC0 : Conf X Γ H0) (h0 : Nat) (g0 : Γ h0 = some 11) (ca : Nat) (gca : Γ ca = some 64) (uc : ∀ a, Γ a = some 64 → a = ca) : Ctr l X Γ yX12_stepWord cX12_stepWord 1 (some .int) 2 [.ref h0] H0 (QI X Γ (fun v H1 => H1 = H0 ∧ ((-1 ≤ v.toInt) ∧ (v.toInt ≤ 9)))) := by
  refine q_enterI (own := "SnowFortsModel") (by decide) rfl (Nat.le_of_ble_eq_true rfl) ?_
  intro p e s m args below meth c ls Qz E hl ret hS0
  have hx := E.1; have hb := E.2.1
  have hl : lv_has ls 1 [(0, .ref h0)] := hl
  refine lv_aload_n hx hb dX12_stepWord_0 rfl (lv_at hl 0 rfl) ?_
  refine lv_bipush (v := 102) hx hb dX12_stepWord_1 rfl ?_
  refine lv_bipush (v := 97) hx hb dX12_stepWord_3 rfl ?_
  refine lv_bipush (v := 108) hx hb dX12_stepWord_5 rfl ?_
  refine lv_bipush (v := 108) hx hb dX12_stepWord_7 rfl ?_
  refine lv_iconst (v := 0) hx hb dX12_stepWord_9 rfl ?_
  refine lv_iconst (v := 0) hx hb dX12_stepWord_10 rfl ?_
  refine q_goJp (q_runS (As := [.int 102, .int 97, .int 108, .int 108, .int 0, .int 0]) (rest := [.ref h0]) E hS0 (m_X12_spelled l X Γ H0 hC0 102 (a0 := 102) (by decide) 97 (a1 := 97) (by decide) 108 (a2 := 108) (by decide) 108 (a3 := 108) (by decide) 0 (a4 := 0) (by decide) 0 (a5 := 0) (by decide)) cw_X12_spelled cl_RX12_145 rfl hl.1 rfl (show _ ≤ _ from by simp [Value.category]) (by decide) dX12_stepWord_11) hS0 (fun v21 locs21 hr21 hS21 => ?_)
  refine q_goIp (q_runV (As := [.long v21]) (rest := []) E hC0 hS21 (m_X12_isWord l X Γ H0 hC0 h0 g0 v21 (a1 := v21.toInt) rfl ca gca uc) cw_X12_isWord cl_RX12_149 g0 ⟨rfl, rfl⟩ rfl hl.1 rfl (Nat.zero_le _) (by decide) dX12_stepWord_14) hS21 (fun v22 locs22 hr22 hS22 => ?_)
  rcases hr22 with rfl | rfl
  · refine q_if_eq hx hb (a := 0) (by decide) (tgt := 22) dX12_stepWord_17 rfl (fun c23 => ?_) (fun c23 => absurd c23 (by omega))
    refine lv_aload_n hx hb dX12_stepWord_22 rfl (lv_at hl 0 rfl) ?_
    refine lv_bipush (v := 116) hx hb dX12_stepWord_23 rfl ?_
    refine lv_bipush (v := 104) hx hb dX12_stepWord_25 rfl ?_
    refine lv_bipush (v := 97) hx hb dX12_stepWord_27 rfl ?_
    refine lv_bipush (v := 119) hx hb dX12_stepWord_29 rfl ?_
    refine lv_iconst (v := 0) hx hb dX12_stepWord_31 rfl ?_
    refine lv_iconst (v := 0) hx hb dX12_stepWord_32 rfl ?_
    refine q_goJp (q_runS (As := [.int 116, .int 104, .int 97, .int 119, .int 0, .int 0]) (rest := [.ref h0]) E hS22 (m_X12_spelled l X Γ H0 hC0 116 (a0 := 116) (by decide) 104 (a1 := 104) (by decide) 97 (a2 := 97) (by decide) 119 (a3 := 119) (by decide) 0 (a4 := 0) (by decide) 0 (a5 := 0) (by decide)) cw_X12_spelled cl_RX12_145 rfl hl.1 rfl (show _ ≤ _ from by simp [Value.category]) (by decide) dX12_stepWord_33) hS22 (fun v24 locs24 hr24 hS24 => ?_)
    refine q_goIp (q_runV (As := [.long v24]) (rest := []) E hC0 hS24 (m_X12_isWord l X Γ H0 hC0 h0 g0 v24 (a1 := v24.toInt) rfl ca gca uc) cw_X12_isWord cl_RX12_149 g0 ⟨rfl, rfl⟩ rfl hl.1 rfl (Nat.zero_le _) (by decide) dX12_stepWord_36) hS24 (fun v25 locs25 hr25 hS25 => ?_)
    rcases hr25 with rfl | rfl
    · refine q_if_eq hx hb (a := 0) (by decide) (tgt := 44) dX12_stepWord_39 rfl (fun c26 => ?_) (fun c26 => absurd c26 (by omega))
      refine lv_aload_n hx hb dX12_stepWord_44 rfl (lv_at hl 0 rfl) ?_
      refine lv_bipush (v := 115) hx hb dX12_stepWord_45 rfl ?_
      refine lv_bipush (v := 116) hx hb dX12_stepWord_47 rfl ?_
      refine lv_bipush (v := 111) hx hb dX12_stepWord_49 rfl ?_
      refine lv_bipush (v := 114) hx hb dX12_stepWord_51 rfl ?_
      refine lv_bipush (v := 109) hx hb dX12_stepWord_53 rfl ?_
      refine lv_iconst (v := 0) hx hb dX12_stepWord_55 rfl ?_
      refine q_goJp (q_runS (As := [.int 115, .int 116, .int 111, .int 114, .int 109, .int 0]) (rest := [.ref h0]) E hS25 (m_X12_spelled l X Γ H0 hC0 115 (a0 := 115) (by decide) 116 (a1 := 116) (by decide) 111 (a2 := 111) (by decide) 114 (a3 := 114) (by decide) 109 (a4 := 109) (by decide) 0 (a5 := 0) (by decide)) cw_X12_spelled cl_RX12_145 rfl hl.1 rfl (show _ ≤ _ from by simp [Value.category]) (by decide) dX12_stepWord_56) hS25 (fun v27 locs27 hr27 hS27 => ?_)
      refine q_goIp (q_runV (As := [.long v27]) (rest := []) E hC0 hS27 (m_X12_isWord l X Γ H0 hC0 h0 g0 v27 (a1 := v27.toInt) rfl ca gca uc) cw_X12_isWord cl_RX12_149 g0 ⟨rfl, rfl⟩ rfl hl.1 rfl (Nat.zero_le _) (by decide) dX12_stepWord_59) hS27 (fun v28 locs28 hr28 hS28 => ?_)
      rcases hr28 with rfl | rfl
      · refine q_if_eq hx hb (a := 0) (by decide) (tgt := 67) dX12_stepWord_62 rfl (fun c29 => ?_) (fun c29 => absurd c29 (by omega))
        refine lv_aload_n hx hb dX12_stepWord_67 rfl (lv_at hl 0 rfl) ?_
        refine q_goIp (q_runV (As := []) (rest := []) E hC0 hS28 (m_X12_isBuild l X Γ H0 hC0 h0 g0 ca gca uc) cw_X12_isBuild cl_RX12_153 g0 ⟨rfl, rfl⟩ rfl hl.1 rfl (Nat.zero_le _) (by decide) dX12_stepWord_68) hS28 (fun v30 locs30 hr30 hS30 => ?_)
        rcases hr30 with rfl | rfl
        · refine q_if_eq hx hb (a := 0) (by decide) (tgt := 76) dX12_stepWord_71 rfl (fun c31 => ?_) (fun c31 => absurd c31 (by omega))
          refine lv_aload_n hx hb dX12_stepWord_76 rfl (lv_at hl 0 rfl) ?_
          refine q_goIp (q_runV (As := []) (rest := []) E hC0 hS30 (m_X12_isIce l X Γ H0 hC0 h0 g0 ca gca uc) cw_X12_isIce cl_RX12_157 g0 ⟨rfl, rfl⟩ rfl hl.1 rfl (Nat.zero_le _) (by decide) dX12_stepWord_77) hS30 (fun v32 locs32 hr32 hS32 => ?_)
          rcases hr32 with rfl | rfl
          · refine q_if_eq hx hb (a := 0) (by decide) (tgt := 85) dX12_stepWord_80 rfl (fun c33 => ?_) (fun c33 => absurd c33 (by omega))
            refine lv_aload_n hx hb dX12_stepWord_85 rfl (lv_at hl 0 rfl) ?_
            refine q_goIp (q_runV (As := []) (rest := []) E hC0 hS32 (m_X12_isSteal l X Γ H0 hC0 h0 g0 ca gca uc) cw_X12_isSteal cl_RX12_160 g0 ⟨rfl, rfl⟩ rfl hl.1 rfl (Nat.zero_le _) (by decide) dX12_stepWord_86) hS32 (fun v34 locs34 hr34 hS34 => ?_)
            rcases hr34 with rfl | rfl
            · refine q_if_eq hx hb (a := 0) (by decide) (tgt := 94) dX12_stepWord_89 rfl (fun c35 => ?_) (fun c35 => absurd c35 (by omega))
              refine lv_aload_n hx hb dX12_stepWord_94 rfl (lv_at hl 0 rfl) ?_
              refine lv_bipush (v := 110) hx hb dX12_stepWord_95 rfl ?_
              refine lv_bipush (v := 105) hx hb dX12_stepWord_97 rfl ?_
              refine lv_bipush (v := 103) hx hb dX12_stepWord_99 rfl ?_
              refine lv_bipush (v := 104) hx hb dX12_stepWord_101 rfl ?_
              refine lv_bipush (v := 116) hx hb dX12_stepWord_103 rfl ?_
              refine lv_iconst (v := 0) hx hb dX12_stepWord_105 rfl ?_
              refine q_goJp (q_runS (As := [.int 110, .int 105, .int 103, .int 104, .int 116, .int 0]) (rest := [.ref h0]) E hS34 (m_X12_spelled l X Γ H0 hC0 110 (a0 := 110) (by decide) 105 (a1 := 105) (by decide) 103 (a2 := 103) (by decide) 104 (a3 := 104) (by decide) 116 (a4 := 116) (by decide) 0 (a5 := 0) (by decide)) cw_X12_spelled cl_RX12_145 rfl hl.1 rfl (show _ ≤ _ from by simp [Value.category]) (by decide) dX12_stepWord_106) hS34 (fun v36 locs36 hr36 hS36 => ?_)
              refine q_goIp (q_runV (As := [.long v36]) (rest := []) E hC0 hS36 (m_X12_isWord l X Γ H0 hC0 h0 g0 v36 (a1 := v36.toInt) rfl ca gca uc) cw_X12_isWord cl_RX12_149 g0 ⟨rfl, rfl⟩ rfl hl.1 rfl (Nat.zero_le _) (by decide) dX12_stepWord_109) hS36 (fun v37 locs37 hr37 hS37 => ?_)
              rcases hr37 with rfl | rfl
              · refine q_if_eq hx hb (a := 0) (by decide) (tgt := 118) dX12_stepWord_112 rfl (fun c38 => ?_) (fun c38 => absurd c38 (by omega))
                refine lv_aload_n hx hb dX12_stepWord_118 rfl (lv_at hl 0 rfl) ?_
                refine lv_bipush (v := 119) hx hb dX12_stepWord_119 rfl ?_
                refine lv_bipush (v := 104) hx hb dX12_stepWord_121 rfl ?_
                refine lv_bipush (v := 101) hx hb dX12_stepWord_123 rfl ?_
                refine lv_bipush (v := 110) hx hb dX12_stepWord_125 rfl ?_
                refine lv_iconst (v := 0) hx hb dX12_stepWord_127 rfl ?_
                refine lv_iconst (v := 0) hx hb dX12_stepWord_128 rfl ?_
                refine q_goJp (q_runS (As := [.int 119, .int 104, .int 101, .int 110, .int 0, .int 0]) (rest := [.ref h0]) E hS37 (m_X12_spelled l X Γ H0 hC0 119 (a0 := 119) (by decide) 104 (a1 := 104) (by decide) 101 (a2 := 101) (by decide) 110 (a3 := 110) (by decide) 0 (a4 := 0) (by decide) 0 (a5 := 0) (by decide)) cw_X12_spelled cl_RX12_145 rfl hl.1 rfl (show _ ≤ _ from by simp [Value.category]) (by decide) dX12_stepWord_129) hS37 (fun v39 locs39 hr39 hS39 => ?_)
                refine q_goIp (q_runV (As := [.long v39]) (rest := []) E hC0 hS39 (m_X12_isWord l X Γ H0 hC0 h0 g0 v39 (a1 := v39.toInt) rfl ca gca uc) cw_X12_isWord cl_RX12_149 g0 ⟨rfl, rfl⟩ rfl hl.1 rfl (Nat.zero_le _) (by decide) dX12_stepWord_132) hS39 (fun v40 locs40 hr40 hS40 => ?_)
                rcases hr40 with rfl | rfl
                · refine q_if_eq hx hb (a := 0) (by decide) (tgt := 141) dX12_stepWord_135 rfl (fun c41 => ?_) (fun c41 => absurd c41 (by omega))
                  refine lv_aload_n hx hb dX12_stepWord_141 rfl (lv_at hl 0 rfl) ?_
                  refine lv_bipush (v := 108) hx hb dX12_stepWord_142 rfl ?_
                  refine lv_bipush (v := 111) hx hb dX12_stepWord_144 rfl ?_
                  refine lv_bipush (v := 111) hx hb dX12_stepWord_146 rfl ?_
                  refine lv_bipush (v := 112) hx hb dX12_stepWord_148 rfl ?_
                  refine lv_iconst (v := 0) hx hb dX12_stepWord_150 rfl ?_
                  refine lv_iconst (v := 0) hx hb dX12_stepWord_151 rfl ?_
                  refine q_goJp (q_runS (As := [.int 108, .int 111, .int 111, .int 112, .int 0, .int 0]) (rest := [.ref h0]) E hS40 (m_X12_spelled l X Γ H0 hC0 108 (a0 := 108) (by decide) 111 (a1 := 111) (by decide) 111 (a2 := 111) (by decide) 112 (a3 := 112) (by decide) 0 (a4 := 0) (by decide) 0 (a5 := 0) (by decide)) cw_X12_spelled cl_RX12_145 rfl hl.1 rfl (show _ ≤ _ from by simp [Value.category]) (by decide) dX12_stepWord_152) hS40 (fun v42 locs42 hr42 hS42 => ?_)
                  refine q_goIp (q_runV (As := [.long v42]) (rest := []) E hC0 hS42 (m_X12_isWord l X Γ H0 hC0 h0 g0 v42 (a1 := v42.toInt) rfl ca gca uc) cw_X12_isWord cl_RX12_149 g0 ⟨rfl, rfl⟩ rfl hl.1 rfl (Nat.zero_le _) (by decide) dX12_stepWord_155) hS42 (fun v43 locs43 hr43 hS43 => ?_)
                  rcases hr43 with rfl | rfl
                  · refine q_if_eq hx hb (a := 0) (by decide) (tgt := 164) dX12_stepWord_158 rfl (fun c44 => ?_) (fun c44 => absurd c44 (by omega))
                    refine lv_aload_n hx hb dX12_stepWord_164 rfl (lv_at hl 0 rfl) ?_
                    refine lv_bipush (v := 115) hx hb dX12_stepWord_165 rfl ?_
                    refine lv_bipush (v := 116) hx hb dX12_stepWord_167 rfl ?_
                    refine lv_bipush (v := 111) hx hb dX12_stepWord_169 rfl ?_
                    refine lv_bipush (v := 112) hx hb dX12_stepWord_171 rfl ?_
                    refine lv_iconst (v := 0) hx hb dX12_stepWord_173 rfl ?_
                    refine lv_iconst (v := 0) hx hb dX12_stepWord_174 rfl ?_
                    refine q_goJp (q_runS (As := [.int 115, .int 116, .int 111, .int 112, .int 0, .int 0]) (rest := [.ref h0]) E hS43 (m_X12_spelled l X Γ H0 hC0 115 (a0 := 115) (by decide) 116 (a1 := 116) (by decide) 111 (a2 := 111) (by decide) 112 (a3 := 112) (by decide) 0 (a4 := 0) (by decide) 0 (a5 := 0) (by decide)) cw_X12_spelled cl_RX12_145 rfl hl.1 rfl (show _ ≤ _ from by simp [Value.category]) (by decide) dX12_stepWord_175) hS43 (fun v45 locs45 hr45 hS45 => ?_)
                    refine q_goIp (q_runV (As := [.long v45]) (rest := []) E hC0 hS45 (m_X12_isWord l X Γ H0 hC0 h0 g0 v45 (a1 := v45.toInt) rfl ca gca uc) cw_X12_isWord cl_RX12_149 g0 ⟨rfl, rfl⟩ rfl hl.1 rfl (Nat.zero_le _) (by decide) dX12_stepWord_178) hS45 (fun v46 locs46 hr46 hS46 => ?_)
                    rcases hr46 with rfl | rfl
                    · refine q_if_eq hx hb (a := 0) (by decide) (tgt := 189) dX12_stepWord_181 rfl (fun c47 => ?_) (fun c47 => absurd c47 (by omega))
                      refine lv_iconst (v := (-1)) hx hb dX12_stepWord_189 rfl ?_
                      have c48 : ((-1) : Int32).toInt = (-1) := (by decide)
                      exact ret (-1) H0 locs46 _ _ dX12_stepWord_190 ⟨rfl, ⟨by omega, by omega⟩⟩ hC0 hS46
                    · refine q_if_eq hx hb (a := 1) (by decide) (tgt := 189) dX12_stepWord_181 rfl (fun c49 => absurd c49 (by omega)) (fun c49 => ?_)
                      refine lv_bipush (v := 9) hx hb dX12_stepWord_184 rfl ?_
                      refine lv_goto (tgt := 190) hx hb dX12_stepWord_186 rfl ?_
                      have c50 : (9 : Int32).toInt = 9 := (by decide)
                      exact ret 9 H0 locs46 _ _ dX12_stepWord_190 ⟨rfl, ⟨by omega, by omega⟩⟩ hC0 hS46
                  · refine q_if_eq hx hb (a := 1) (by decide) (tgt := 164) dX12_stepWord_158 rfl (fun c51 => absurd c51 (by omega)) (fun c51 => ?_)
                    refine lv_bipush (v := 8) hx hb dX12_stepWord_161 rfl ?_
                    have c52 : (8 : Int32).toInt = 8 := (by decide)
                    exact ret 8 H0 locs43 _ _ dX12_stepWord_163 ⟨rfl, ⟨by omega, by omega⟩⟩ hC0 hS43
                · refine q_if_eq hx hb (a := 1) (by decide) (tgt := 141) dX12_stepWord_135 rfl (fun c53 => absurd c53 (by omega)) (fun c53 => ?_)
                  refine lv_bipush (v := 7) hx hb dX12_stepWord_138 rfl ?_
                  have c54 : (7 : Int32).toInt = 7 := (by decide)
                  exact ret 7 H0 locs40 _ _ dX12_stepWord_140 ⟨rfl, ⟨by omega, by omega⟩⟩ hC0 hS40
              · refine q_if_eq hx hb (a := 1) (by decide) (tgt := 118) dX12_stepWord_112 rfl (fun c55 => absurd c55 (by omega)) (fun c55 => ?_)
                refine lv_bipush (v := 6) hx hb dX12_stepWord_115 rfl ?_
                have c56 : (6 : Int32).toInt = 6 := (by decide)
                exact ret 6 H0 locs37 _ _ dX12_stepWord_117 ⟨rfl, ⟨by omega, by omega⟩⟩ hC0 hS37
            · refine q_if_eq hx hb (a := 1) (by decide) (tgt := 94) dX12_stepWord_89 rfl (fun c57 => absurd c57 (by omega)) (fun c57 => ?_)
              refine lv_iconst (v := 5) hx hb dX12_stepWord_92 rfl ?_
              have c58 : (5 : Int32).toInt = 5 := (by decide)
              exact ret 5 H0 locs34 _ _ dX12_stepWord_93 ⟨rfl, ⟨by omega, by omega⟩⟩ hC0 hS34
          · refine q_if_eq hx hb (a := 1) (by decide) (tgt := 85) dX12_stepWord_80 rfl (fun c59 => absurd c59 (by omega)) (fun c59 => ?_)
            refine lv_iconst (v := 4) hx hb dX12_stepWord_83 rfl ?_
            have c60 : (4 : Int32).toInt = 4 := (by decide)
            exact ret 4 H0 locs32 _ _ dX12_stepWord_84 ⟨rfl, ⟨by omega, by omega⟩⟩ hC0 hS32
        · refine q_if_eq hx hb (a := 1) (by decide) (tgt := 76) dX12_stepWord_71 rfl (fun c61 => absurd c61 (by omega)) (fun c61 => ?_)
          refine lv_iconst (v := 3) hx hb dX12_stepWord_74 rfl ?_
          have c62 : (3 : Int32).toInt = 3 := (by decide)
          exact ret 3 H0 locs30 _ _ dX12_stepWord_75 ⟨rfl, ⟨by omega, by omega⟩⟩ hC0 hS30
      · refine q_if_eq hx hb (a := 1) (by decide) (tgt := 67) dX12_stepWord_62 rfl (fun c63 => absurd c63 (by omega)) (fun c63 => ?_)
        refine lv_iconst (v := 2) hx hb dX12_stepWord_65 rfl ?_
        have c64 : (2 : Int32).toInt = 2 := (by decide)
        exact ret 2 H0 locs28 _ _ dX12_stepWord_66 ⟨rfl, ⟨by omega, by omega⟩⟩ hC0 hS28
    · refine q_if_eq hx hb (a := 1) (by decide) (tgt := 44) dX12_stepWord_39 rfl (fun c65 => absurd c65 (by omega)) (fun c65 => ?_)
      refine lv_iconst (v := 1) hx hb dX12_stepWord_42 rfl ?_
      have c66 : (1 : Int32).toInt = 1 := (by decide)
      exact ret 1 H0 locs25 _ _ dX12_stepWord_43 ⟨rfl, ⟨by omega, by omega⟩⟩ hC0 hS25
  · refine q_if_eq hx hb (a := 1) (by decide) (tgt := 22) dX12_stepWord_17 rfl (fun c67 => absurd c67 (by omega)) (fun c67 => ?_)
    refine lv_iconst (v := 0) hx hb dX12_stepWord_20 rfl ?_
    have c68 : (0 : Int32).toInt = 0 := (by decide)
    exact ret 0 H0 locs22 _ _ dX12_stepWord_21 ⟨rfl, ⟨by omega, by omega⟩⟩ hC0 hS22
set_option maxRecDepth 100000 in
set_option maxHeartbeats 4000000 in
theorem m_X12_isWall (l : Launch) (X : xW) (Γ : Nat → Option Nat) (H0 : Heap) (hC0 : Conf X Γ H0) (h0 : Nat) (g0 : Γ h0 = some 11) (ca : Nat) (gca : Γ ca = some 64) (uc : ∀ a, Γ a = some 64 → a = ca) : Ctr l X Γ yX12_isWall cX12_isWall 1 (some .boolean) 1 [.ref h0] H0 (QI X Γ (fun v H1 => H1 = H0 ∧ (v = 0 ∨ v = 1))) := by
  refine q_enterZ (own := "SnowFortsModel") (by decide) rfl (Nat.le_of_ble_eq_true rfl) ?_
  intro p e s m args below meth c ls Qz E hl ret hS0
  have hx := E.1; have hb := E.2.1
  have hl : lv_has ls 1 [(0, .ref h0)] := hl
  refine lv_aload_n hx hb dX12_isWall_0 rfl (lv_at hl 0 rfl) ?_
  refine lv_bipush (v := 119) hx hb dX12_isWall_1 rfl ?_
  refine lv_bipush (v := 97) hx hb dX12_isWall_3 rfl ?_
  refine lv_bipush (v := 108) hx hb dX12_isWall_5 rfl ?_
  refine lv_bipush (v := 108) hx hb dX12_isWall_7 rfl ?_
  refine lv_iconst (v := 0) hx hb dX12_isWall_9 rfl ?_
  refine lv_iconst (v := 0) hx hb dX12_isWall_10 rfl ?_
  refine q_goJp (q_runS (As := [.int 119, .int 97, .int 108, .int 108, .int 0, .int 0]) (rest := [.ref h0]) E hS0 (m_X12_spelled l X Γ H0 hC0 119 (a0 := 119) (by decide) 97 (a1 := 97) (by decide) 108 (a2 := 108) (by decide) 108 (a3 := 108) (by decide) 0 (a4 := 0) (by decide) 0 (a5 := 0) (by decide)) cw_X12_spelled cl_RX12_145 rfl hl.1 rfl (show _ ≤ _ from by simp [Value.category]) (by decide) dX12_isWall_11) hS0 (fun v21 locs21 hr21 hS21 => ?_)
  refine q_goIp (q_runV (As := [.long v21]) (rest := []) E hC0 hS21 (m_X12_isWord l X Γ H0 hC0 h0 g0 v21 (a1 := v21.toInt) rfl ca gca uc) cw_X12_isWord cl_RX12_149 g0 ⟨rfl, rfl⟩ rfl hl.1 rfl (Nat.zero_le _) (by decide) dX12_isWall_14) hS21 (fun v22 locs22 hr22 hS22 => ?_)
  rcases hr22 with rfl | rfl
  · exact ret 0 H0 locs22 _ _ dX12_isWall_17 (Or.inl rfl) ⟨rfl, Or.inl rfl⟩ hC0 hS22
  · exact ret 1 H0 locs22 _ _ dX12_isWall_17 (Or.inr rfl) ⟨rfl, Or.inr rfl⟩ hC0 hS22
set_option maxRecDepth 100000 in
set_option maxHeartbeats 4000000 in
theorem m_X12_testWord (l : Launch) (X : xW) (Γ : Nat → Option Nat) (H0 : Heap) (hC0 : Conf X Γ H0) (h0 : Nat) (g0 : Γ h0 = some 11) (ca : Nat) (gca : Γ ca = some 64) (uc : ∀ a, Γ a = some 64 → a = ca) : Ctr l X Γ yX12_testWord cX12_testWord 1 (some .int) 2 [.ref h0] H0 (QI X Γ (fun v H1 => H1 = H0 ∧ ((-1 ≤ v.toInt) ∧ (v.toInt ≤ 3)))) := by
  refine q_enterI (own := "SnowFortsModel") (by decide) rfl (Nat.le_of_ble_eq_true rfl) ?_
  intro p e s m args below meth c ls Qz E hl ret hS0
  have hx := E.1; have hb := E.2.1
  have hl : lv_has ls 1 [(0, .ref h0)] := hl
  refine lv_aload_n hx hb dX12_testWord_0 rfl (lv_at hl 0 rfl) ?_
  refine lv_bipush (v := 100) hx hb dX12_testWord_1 rfl ?_
  refine lv_bipush (v := 97) hx hb dX12_testWord_3 rfl ?_
  refine lv_bipush (v := 121) hx hb dX12_testWord_5 rfl ?_
  refine lv_iconst (v := 0) hx hb dX12_testWord_7 rfl ?_
  refine lv_iconst (v := 0) hx hb dX12_testWord_8 rfl ?_
  refine lv_iconst (v := 0) hx hb dX12_testWord_9 rfl ?_
  refine q_goJp (q_runS (As := [.int 100, .int 97, .int 121, .int 0, .int 0, .int 0]) (rest := [.ref h0]) E hS0 (m_X12_spelled l X Γ H0 hC0 100 (a0 := 100) (by decide) 97 (a1 := 97) (by decide) 121 (a2 := 121) (by decide) 0 (a3 := 0) (by decide) 0 (a4 := 0) (by decide) 0 (a5 := 0) (by decide)) cw_X12_spelled cl_RX12_145 rfl hl.1 rfl (show _ ≤ _ from by simp [Value.category]) (by decide) dX12_testWord_10) hS0 (fun v21 locs21 hr21 hS21 => ?_)
  refine q_goIp (q_runV (As := [.long v21]) (rest := []) E hC0 hS21 (m_X12_isWord l X Γ H0 hC0 h0 g0 v21 (a1 := v21.toInt) rfl ca gca uc) cw_X12_isWord cl_RX12_149 g0 ⟨rfl, rfl⟩ rfl hl.1 rfl (Nat.zero_le _) (by decide) dX12_testWord_13) hS21 (fun v22 locs22 hr22 hS22 => ?_)
  rcases hr22 with rfl | rfl
  · refine q_if_eq hx hb (a := 0) (by decide) (tgt := 21) dX12_testWord_16 rfl (fun c23 => ?_) (fun c23 => absurd c23 (by omega))
    refine lv_aload_n hx hb dX12_testWord_21 rfl (lv_at hl 0 rfl) ?_
    refine q_goIp (q_runV (As := []) (rest := []) E hC0 hS22 (m_X12_isWall l X Γ H0 hC0 h0 g0 ca gca uc) cw_X12_isWall cl_RX12_163 g0 ⟨rfl, rfl⟩ rfl hl.1 rfl (Nat.zero_le _) (by decide) dX12_testWord_22) hS22 (fun v24 locs24 hr24 hS24 => ?_)
    rcases hr24 with rfl | rfl
    · refine q_if_eq hx hb (a := 0) (by decide) (tgt := 30) dX12_testWord_25 rfl (fun c25 => ?_) (fun c25 => absurd c25 (by omega))
      refine lv_aload_n hx hb dX12_testWord_30 rfl (lv_at hl 0 rfl) ?_
      refine lv_bipush (v := 98) hx hb dX12_testWord_31 rfl ?_
      refine lv_bipush (v := 114) hx hb dX12_testWord_33 rfl ?_
      refine lv_bipush (v := 101) hx hb dX12_testWord_35 rfl ?_
      refine lv_bipush (v := 97) hx hb dX12_testWord_37 rfl ?_
      refine lv_bipush (v := 99) hx hb dX12_testWord_39 rfl ?_
      refine lv_bipush (v := 104) hx hb dX12_testWord_41 rfl ?_
      refine q_goJp (q_runS (As := [.int 98, .int 114, .int 101, .int 97, .int 99, .int 104]) (rest := [.ref h0]) E hS24 (m_X12_spelled l X Γ H0 hC0 98 (a0 := 98) (by decide) 114 (a1 := 114) (by decide) 101 (a2 := 101) (by decide) 97 (a3 := 97) (by decide) 99 (a4 := 99) (by decide) 104 (a5 := 104) (by decide)) cw_X12_spelled cl_RX12_145 rfl hl.1 rfl (show _ ≤ _ from by simp [Value.category]) (by decide) dX12_testWord_43) hS24 (fun v26 locs26 hr26 hS26 => ?_)
      refine q_goIp (q_runV (As := [.long v26]) (rest := []) E hC0 hS26 (m_X12_isWord l X Γ H0 hC0 h0 g0 v26 (a1 := v26.toInt) rfl ca gca uc) cw_X12_isWord cl_RX12_149 g0 ⟨rfl, rfl⟩ rfl hl.1 rfl (Nat.zero_le _) (by decide) dX12_testWord_46) hS26 (fun v27 locs27 hr27 hS27 => ?_)
      rcases hr27 with rfl | rfl
      · refine q_if_eq hx hb (a := 0) (by decide) (tgt := 54) dX12_testWord_49 rfl (fun c28 => ?_) (fun c28 => absurd c28 (by omega))
        refine lv_aload_n hx hb dX12_testWord_54 rfl (lv_at hl 0 rfl) ?_
        refine lv_bipush (v := 119) hx hb dX12_testWord_55 rfl ?_
        refine lv_bipush (v := 97) hx hb dX12_testWord_57 rfl ?_
        refine lv_bipush (v := 121) hx hb dX12_testWord_59 rfl ?_
        refine lv_iconst (v := 0) hx hb dX12_testWord_61 rfl ?_
        refine lv_iconst (v := 0) hx hb dX12_testWord_62 rfl ?_
        refine lv_iconst (v := 0) hx hb dX12_testWord_63 rfl ?_
        refine q_goJp (q_runS (As := [.int 119, .int 97, .int 121, .int 0, .int 0, .int 0]) (rest := [.ref h0]) E hS27 (m_X12_spelled l X Γ H0 hC0 119 (a0 := 119) (by decide) 97 (a1 := 97) (by decide) 121 (a2 := 121) (by decide) 0 (a3 := 0) (by decide) 0 (a4 := 0) (by decide) 0 (a5 := 0) (by decide)) cw_X12_spelled cl_RX12_145 rfl hl.1 rfl (show _ ≤ _ from by simp [Value.category]) (by decide) dX12_testWord_64) hS27 (fun v29 locs29 hr29 hS29 => ?_)
        refine q_goIp (q_runV (As := [.long v29]) (rest := []) E hC0 hS29 (m_X12_isWord l X Γ H0 hC0 h0 g0 v29 (a1 := v29.toInt) rfl ca gca uc) cw_X12_isWord cl_RX12_149 g0 ⟨rfl, rfl⟩ rfl hl.1 rfl (Nat.zero_le _) (by decide) dX12_testWord_67) hS29 (fun v30 locs30 hr30 hS30 => ?_)
        rcases hr30 with rfl | rfl
        · refine q_if_eq hx hb (a := 0) (by decide) (tgt := 77) dX12_testWord_70 rfl (fun c31 => ?_) (fun c31 => absurd c31 (by omega))
          refine lv_iconst (v := (-1)) hx hb dX12_testWord_77 rfl ?_
          have c32 : ((-1) : Int32).toInt = (-1) := (by decide)
          exact ret (-1) H0 locs30 _ _ dX12_testWord_78 ⟨rfl, ⟨by omega, by omega⟩⟩ hC0 hS30
        · refine q_if_eq hx hb (a := 1) (by decide) (tgt := 77) dX12_testWord_70 rfl (fun c33 => absurd c33 (by omega)) (fun c33 => ?_)
          refine lv_iconst (v := 3) hx hb dX12_testWord_73 rfl ?_
          refine lv_goto (tgt := 78) hx hb dX12_testWord_74 rfl ?_
          have c34 : (3 : Int32).toInt = 3 := (by decide)
          exact ret 3 H0 locs30 _ _ dX12_testWord_78 ⟨rfl, ⟨by omega, by omega⟩⟩ hC0 hS30
      · refine q_if_eq hx hb (a := 1) (by decide) (tgt := 54) dX12_testWord_49 rfl (fun c35 => absurd c35 (by omega)) (fun c35 => ?_)
        refine lv_iconst (v := 2) hx hb dX12_testWord_52 rfl ?_
        have c36 : (2 : Int32).toInt = 2 := (by decide)
        exact ret 2 H0 locs27 _ _ dX12_testWord_53 ⟨rfl, ⟨by omega, by omega⟩⟩ hC0 hS27
    · refine q_if_eq hx hb (a := 1) (by decide) (tgt := 30) dX12_testWord_25 rfl (fun c37 => absurd c37 (by omega)) (fun c37 => ?_)
      refine lv_iconst (v := 1) hx hb dX12_testWord_28 rfl ?_
      have c38 : (1 : Int32).toInt = 1 := (by decide)
      exact ret 1 H0 locs24 _ _ dX12_testWord_29 ⟨rfl, ⟨by omega, by omega⟩⟩ hC0 hS24
  · refine q_if_eq hx hb (a := 1) (by decide) (tgt := 21) dX12_testWord_16 rfl (fun c39 => absurd c39 (by omega)) (fun c39 => ?_)
    refine lv_iconst (v := 0) hx hb dX12_testWord_19 rfl ?_
    have c40 : (0 : Int32).toInt = 0 := (by decide)
    exact ret 0 H0 locs22 _ _ dX12_testWord_20 ⟨rfl, ⟨by omega, by omega⟩⟩ hC0 hS22
set_option maxRecDepth 100000 in
set_option maxHeartbeats 4000000 in
theorem m_X12_isEnd (l : Launch) (X : xW) (Γ : Nat → Option Nat) (H0 : Heap) (hC0 : Conf X Γ H0) (h0 : Nat) (g0 : Γ h0 = some 11) (ca : Nat) (gca : Γ ca = some 64) (uc : ∀ a, Γ a = some 64 → a = ca) : Ctr l X Γ yX12_isEnd cX12_isEnd 1 (some .boolean) 1 [.ref h0] H0 (QI X Γ (fun v H1 => H1 = H0 ∧ (v = 0 ∨ v = 1))) := by
  refine q_enterZ (own := "SnowFortsModel") (by decide) rfl (Nat.le_of_ble_eq_true rfl) ?_
  intro p e s m args below meth c ls Qz E hl ret hS0
  have hx := E.1; have hb := E.2.1
  have hl : lv_has ls 1 [(0, .ref h0)] := hl
  refine lv_aload_n hx hb dX12_isEnd_0 rfl (lv_at hl 0 rfl) ?_
  refine lv_bipush (v := 101) hx hb dX12_isEnd_1 rfl ?_
  refine lv_bipush (v := 110) hx hb dX12_isEnd_3 rfl ?_
  refine lv_bipush (v := 100) hx hb dX12_isEnd_5 rfl ?_
  refine lv_iconst (v := 0) hx hb dX12_isEnd_7 rfl ?_
  refine lv_iconst (v := 0) hx hb dX12_isEnd_8 rfl ?_
  refine lv_iconst (v := 0) hx hb dX12_isEnd_9 rfl ?_
  refine q_goJp (q_runS (As := [.int 101, .int 110, .int 100, .int 0, .int 0, .int 0]) (rest := [.ref h0]) E hS0 (m_X12_spelled l X Γ H0 hC0 101 (a0 := 101) (by decide) 110 (a1 := 110) (by decide) 100 (a2 := 100) (by decide) 0 (a3 := 0) (by decide) 0 (a4 := 0) (by decide) 0 (a5 := 0) (by decide)) cw_X12_spelled cl_RX12_145 rfl hl.1 rfl (show _ ≤ _ from by simp [Value.category]) (by decide) dX12_isEnd_10) hS0 (fun v21 locs21 hr21 hS21 => ?_)
  refine q_goIp (q_runV (As := [.long v21]) (rest := []) E hC0 hS21 (m_X12_isWord l X Γ H0 hC0 h0 g0 v21 (a1 := v21.toInt) rfl ca gca uc) cw_X12_isWord cl_RX12_149 g0 ⟨rfl, rfl⟩ rfl hl.1 rfl (Nat.zero_le _) (by decide) dX12_isEnd_13) hS21 (fun v22 locs22 hr22 hS22 => ?_)
  rcases hr22 with rfl | rfl
  · exact ret 0 H0 locs22 _ _ dX12_isEnd_16 (Or.inl rfl) ⟨rfl, Or.inl rfl⟩ hC0 hS22
  · exact ret 1 H0 locs22 _ _ dX12_isEnd_16 (Or.inr rfl) ⟨rfl, Or.inr rfl⟩ hC0 hS22
set_option maxRecDepth 100000 in
set_option maxHeartbeats 4000000 in
theorem m_X12_isKept (l : Launch) (X : xW) (Γ : Nat → Option Nat) (H0 : Heap) (hC0 : Conf X Γ H0) (h0 : Nat) (g0 : Γ h0 = some 11) (ca : Nat) (gca : Γ ca = some 64) (uc : ∀ a, Γ a = some 64 → a = ca) : Ctr l X Γ yX12_isKept cX12_isKept 1 (some .boolean) 3 [.ref h0] H0 (QI X Γ (fun v H1 => H1 = H0 ∧ (v = 0 ∨ v = 1))) := by
  refine q_enterZ (own := "SnowFortsModel") (by decide) rfl (Nat.le_of_ble_eq_true rfl) ?_
  intro p e s m args below meth c ls Qz E hl ret hS0
  have hx := E.1; have hb := E.2.1
  have hl : lv_has ls 1 [(0, .ref h0)] := hl
  refine lv_aload_n hx hb dX12_isKept_0 rfl (lv_at hl 0 rfl) ?_
  refine q_goIp (q_runV (As := []) (rest := []) E hC0 hS0 (m_X12_isWide l X Γ H0 hC0 h0 g0 ca gca uc) cw_X12_isWide cl_RX12_166 g0 ⟨rfl, rfl⟩ rfl hl.1 rfl (Nat.zero_le _) (by decide) dX12_isKept_1) hS0 (fun v21 locs21 hr21 hS21 => ?_)
  rcases hr21 with rfl | rfl
  · refine q_if_ne hx hb (a := 0) (by decide) (tgt := 84) dX12_isKept_4 rfl (fun c22 => absurd c22 (by omega)) (fun c22 => ?_)
    refine lv_aload_n hx hb dX12_isKept_7 rfl (lv_at hl 0 rfl) ?_
    refine q_goIp (q_runV (As := []) (rest := []) E hC0 hS21 (m_X12_isHigh l X Γ H0 hC0 h0 g0 ca gca uc) cw_X12_isHigh cl_RX12_169 g0 ⟨rfl, rfl⟩ rfl hl.1 rfl (Nat.zero_le _) (by decide) dX12_isKept_8) hS21 (fun v23 locs23 hr23 hS23 => ?_)
    rcases hr23 with rfl | rfl
    · refine q_if_ne hx hb (a := 0) (by decide) (tgt := 84) dX12_isKept_11 rfl (fun c24 => absurd c24 (by omega)) (fun c24 => ?_)
      refine lv_aload_n hx hb dX12_isKept_14 rfl (lv_at hl 0 rfl) ?_
      refine q_goIp (q_runV (As := []) (rest := []) E hC0 hS23 (m_X12_isSchool l X Γ H0 hC0 h0 g0 ca gca uc) cw_X12_isSchool cl_RX12_172 g0 ⟨rfl, rfl⟩ rfl hl.1 rfl (Nat.zero_le _) (by decide) dX12_isKept_15) hS23 (fun v25 locs25 hr25 hS25 => ?_)
      rcases hr25 with rfl | rfl
      · refine q_if_ne hx hb (a := 0) (by decide) (tgt := 84) dX12_isKept_18 rfl (fun c26 => absurd c26 (by omega)) (fun c26 => ?_)
        refine lv_aload_n hx hb dX12_isKept_21 rfl (lv_at hl 0 rfl) ?_
        refine q_goIp (q_runV (As := []) (rest := []) E hC0 hS25 (m_X12_isHands l X Γ H0 hC0 h0 g0 ca gca uc) cw_X12_isHands cl_RX12_175 g0 ⟨rfl, rfl⟩ rfl hl.1 rfl (Nat.zero_le _) (by decide) dX12_isKept_22) hS25 (fun v27 locs27 hr27 hS27 => ?_)
        rcases hr27 with rfl | rfl
        · refine q_if_ne hx hb (a := 0) (by decide) (tgt := 84) dX12_isKept_25 rfl (fun c28 => absurd c28 (by omega)) (fun c28 => ?_)
          refine lv_aload_n hx hb dX12_isKept_28 rfl (lv_at hl 0 rfl) ?_
          refine q_goIp (q_runV (As := []) (rest := []) E hC0 hS27 (m_X12_isSnow l X Γ H0 hC0 h0 g0 ca gca uc) cw_X12_isSnow cl_RX12_178 g0 ⟨rfl, rfl⟩ rfl hl.1 rfl (Nat.zero_le _) (by decide) dX12_isKept_29) hS27 (fun v29 locs29 hr29 hS29 => ?_)
          rcases hr29 with rfl | rfl
          · refine q_if_ne hx hb (a := 0) (by decide) (tgt := 84) dX12_isKept_32 rfl (fun c30 => absurd c30 (by omega)) (fun c30 => ?_)
            refine lv_aload_n hx hb dX12_isKept_35 rfl (lv_at hl 0 rfl) ?_
            refine q_goIp (q_runV (As := []) (rest := []) E hC0 hS29 (m_X12_isDeep l X Γ H0 hC0 h0 g0 ca gca uc) cw_X12_isDeep cl_RX12_181 g0 ⟨rfl, rfl⟩ rfl hl.1 rfl (Nat.zero_le _) (by decide) dX12_isKept_36) hS29 (fun v31 locs31 hr31 hS31 => ?_)
            rcases hr31 with rfl | rfl
            · refine q_if_ne hx hb (a := 0) (by decide) (tgt := 84) dX12_isKept_39 rfl (fun c32 => absurd c32 (by omega)) (fun c32 => ?_)
              refine lv_aload_n hx hb dX12_isKept_42 rfl (lv_at hl 0 rfl) ?_
              refine q_goIp (q_runV (As := []) (rest := []) E hC0 hS31 (m_X12_isTall l X Γ H0 hC0 h0 g0 ca gca uc) cw_X12_isTall cl_RX12_184 g0 ⟨rfl, rfl⟩ rfl hl.1 rfl (Nat.zero_le _) (by decide) dX12_isKept_43) hS31 (fun v33 locs33 hr33 hS33 => ?_)
              rcases hr33 with rfl | rfl
              · refine q_if_ne hx hb (a := 0) (by decide) (tgt := 84) dX12_isKept_46 rfl (fun c34 => absurd c34 (by omega)) (fun c34 => ?_)
                refine lv_aload_n hx hb dX12_isKept_49 rfl (lv_at hl 0 rfl) ?_
                refine q_goIp (q_runV (As := []) (rest := []) E hC0 hS33 (m_X12_isSun l X Γ H0 hC0 h0 g0 ca gca uc) cw_X12_isSun cl_RX12_187 g0 ⟨rfl, rfl⟩ rfl hl.1 rfl (Nat.zero_le _) (by decide) dX12_isKept_50) hS33 (fun v35 locs35 hr35 hS35 => ?_)
                rcases hr35 with rfl | rfl
                · refine q_if_ne hx hb (a := 0) (by decide) (tgt := 84) dX12_isKept_53 rfl (fun c36 => absurd c36 (by omega)) (fun c36 => ?_)
                  refine lv_aload_n hx hb dX12_isKept_56 rfl (lv_at hl 0 rfl) ?_
                  refine q_goIp (q_runV (As := []) (rest := []) E hC0 hS35 (m_X12_isBy l X Γ H0 hC0 h0 g0 ca gca uc) cw_X12_isBy cl_RX12_190 g0 ⟨rfl, rfl⟩ rfl hl.1 rfl (Nat.zero_le _) (by decide) dX12_isKept_57) hS35 (fun v37 locs37 hr37 hS37 => ?_)
                  rcases hr37 with rfl | rfl
                  · refine q_if_ne hx hb (a := 0) (by decide) (tgt := 84) dX12_isKept_60 rfl (fun c38 => absurd c38 (by omega)) (fun c38 => ?_)
                    refine lv_aload_n hx hb dX12_isKept_63 rfl (lv_at hl 0 rfl) ?_
                    refine q_goIp (q_runV (As := []) (rest := []) E hC0 hS37 (m_X12_isNo l X Γ H0 hC0 h0 g0 ca gca uc) cw_X12_isNo cl_RX12_193 g0 ⟨rfl, rfl⟩ rfl hl.1 rfl (Nat.zero_le _) (by decide) dX12_isKept_64) hS37 (fun v39 locs39 hr39 hS39 => ?_)
                    rcases hr39 with rfl | rfl
                    · refine q_if_ne hx hb (a := 0) (by decide) (tgt := 84) dX12_isKept_67 rfl (fun c40 => absurd c40 (by omega)) (fun c40 => ?_)
                      refine lv_aload_n hx hb dX12_isKept_70 rfl (lv_at hl 0 rfl) ?_
                      refine q_goIp (q_runV (As := []) (rest := []) E hC0 hS39 (m_X12_isAbove l X Γ H0 hC0 h0 g0 ca gca uc) cw_X12_isAbove cl_RX12_196 g0 ⟨rfl, rfl⟩ rfl hl.1 rfl (Nat.zero_le _) (by decide) dX12_isKept_71) hS39 (fun v41 locs41 hr41 hS41 => ?_)
                      rcases hr41 with rfl | rfl
                      · refine q_if_ne hx hb (a := 0) (by decide) (tgt := 84) dX12_isKept_74 rfl (fun c42 => absurd c42 (by omega)) (fun c42 => ?_)
                        refine lv_aload_n hx hb dX12_isKept_77 rfl (lv_at hl 0 rfl) ?_
                        refine q_goIp (q_runV (As := []) (rest := []) E hC0 hS41 (m_X12_isBehind l X Γ H0 hC0 h0 g0 ca gca uc) cw_X12_isBehind cl_RX12_199 g0 ⟨rfl, rfl⟩ rfl hl.1 rfl (Nat.zero_le _) (by decide) dX12_isKept_78) hS41 (fun v43 locs43 hr43 hS43 => ?_)
                        rcases hr43 with rfl | rfl
                        · refine q_if_eq hx hb (a := 0) (by decide) (tgt := 86) dX12_isKept_81 rfl (fun c44 => ?_) (fun c44 => absurd c44 (by omega))
                          refine lv_aload_n hx hb dX12_isKept_86 rfl (lv_at hl 0 rfl) ?_
                          refine q_goIp (q_runV (As := []) (rest := []) E hC0 hS43 (m_X12_isTo l X Γ H0 hC0 h0 g0 ca gca uc) cw_X12_isTo cl_RX12_202 g0 ⟨rfl, rfl⟩ rfl hl.1 rfl (Nat.zero_le _) (by decide) dX12_isKept_87) hS43 (fun v45 locs45 hr45 hS45 => ?_)
                          rcases hr45 with rfl | rfl
                          · refine q_if_ne hx hb (a := 0) (by decide) (tgt := 121) dX12_isKept_90 rfl (fun c46 => absurd c46 (by omega)) (fun c46 => ?_)
                            refine lv_aload_n hx hb dX12_isKept_93 rfl (lv_at hl 0 rfl) ?_
                            refine q_goIp (q_runV (As := []) (rest := []) E hC0 hS45 (m_X12_isFrom l X Γ H0 hC0 h0 g0 ca gca uc) cw_X12_isFrom cl_RX12_205 g0 ⟨rfl, rfl⟩ rfl hl.1 rfl (Nat.zero_le _) (by decide) dX12_isKept_94) hS45 (fun v47 locs47 hr47 hS47 => ?_)
                            rcases hr47 with rfl | rfl
                            · refine q_if_ne hx hb (a := 0) (by decide) (tgt := 121) dX12_isKept_97 rfl (fun c48 => absurd c48 (by omega)) (fun c48 => ?_)
                              refine lv_aload_n hx hb dX12_isKept_100 rfl (lv_at hl 0 rfl) ?_
                              refine q_goIp (q_runV (As := []) (rest := []) E hC0 hS47 (m_X12_stepWord l X Γ H0 hC0 h0 g0 ca gca uc) cw_X12_stepWord cl_RX12_208 g0 ⟨rfl, rfl⟩ rfl hl.1 rfl (Nat.zero_le _) (by decide) dX12_isKept_101) hS47 (fun v49 locs49 hr49 hS49 => ?_)
                              obtain ⟨f49_0, f49_1⟩ := hr49
                              refine q_if_ge hx hb (a := v49.toInt) rfl (tgt := 121) dX12_isKept_104 rfl (fun c50 => ?_) (fun c50 => ?_)
                              · refine lv_iconst (v := 1) hx hb dX12_isKept_121 rfl ?_
                                refine lv_goto (tgt := 126) hx hb dX12_isKept_122 rfl ?_
                                exact ret 1 H0 locs49 _ _ dX12_isKept_126 (Or.inr rfl) ⟨rfl, Or.inr rfl⟩ hC0 hS49
                              · refine lv_aload_n hx hb dX12_isKept_107 rfl (lv_at hl 0 rfl) ?_
                                refine q_goIp (q_runV (As := []) (rest := []) E hC0 hS49 (m_X12_testWord l X Γ H0 hC0 h0 g0 ca gca uc) cw_X12_testWord cl_RX12_212 g0 ⟨rfl, rfl⟩ rfl hl.1 rfl (Nat.zero_le _) (by decide) dX12_isKept_108) hS49 (fun v51 locs51 hr51 hS51 => ?_)
                                obtain ⟨f51_0, f51_1⟩ := hr51
                                refine q_if_ge hx hb (a := v51.toInt) rfl (tgt := 121) dX12_isKept_111 rfl (fun c52 => ?_) (fun c52 => ?_)
                                · refine lv_iconst (v := 1) hx hb dX12_isKept_121 rfl ?_
                                  refine lv_goto (tgt := 126) hx hb dX12_isKept_122 rfl ?_
                                  exact ret 1 H0 locs51 _ _ dX12_isKept_126 (Or.inr rfl) ⟨rfl, Or.inr rfl⟩ hC0 hS51
                                · refine lv_aload_n hx hb dX12_isKept_114 rfl (lv_at hl 0 rfl) ?_
                                  refine q_goIp (q_runV (As := []) (rest := []) E hC0 hS51 (m_X12_isEnd l X Γ H0 hC0 h0 g0 ca gca uc) cw_X12_isEnd cl_RX12_215 g0 ⟨rfl, rfl⟩ rfl hl.1 rfl (Nat.zero_le _) (by decide) dX12_isKept_115) hS51 (fun v53 locs53 hr53 hS53 => ?_)
                                  rcases hr53 with rfl | rfl
                                  · refine q_if_eq hx hb (a := 0) (by decide) (tgt := 125) dX12_isKept_118 rfl (fun c54 => ?_) (fun c54 => absurd c54 (by omega))
                                    refine lv_iconst (v := 0) hx hb dX12_isKept_125 rfl ?_
                                    exact ret 0 H0 locs53 _ _ dX12_isKept_126 (Or.inl rfl) ⟨rfl, Or.inl rfl⟩ hC0 hS53
                                  · refine q_if_eq hx hb (a := 1) (by decide) (tgt := 125) dX12_isKept_118 rfl (fun c55 => absurd c55 (by omega)) (fun c55 => ?_)
                                    refine lv_iconst (v := 1) hx hb dX12_isKept_121 rfl ?_
                                    refine lv_goto (tgt := 126) hx hb dX12_isKept_122 rfl ?_
                                    exact ret 1 H0 locs53 _ _ dX12_isKept_126 (Or.inr rfl) ⟨rfl, Or.inr rfl⟩ hC0 hS53
                            · refine q_if_ne hx hb (a := 1) (by decide) (tgt := 121) dX12_isKept_97 rfl (fun c56 => ?_) (fun c56 => absurd c56 (by omega))
                              refine lv_iconst (v := 1) hx hb dX12_isKept_121 rfl ?_
                              refine lv_goto (tgt := 126) hx hb dX12_isKept_122 rfl ?_
                              exact ret 1 H0 locs47 _ _ dX12_isKept_126 (Or.inr rfl) ⟨rfl, Or.inr rfl⟩ hC0 hS47
                          · refine q_if_ne hx hb (a := 1) (by decide) (tgt := 121) dX12_isKept_90 rfl (fun c57 => ?_) (fun c57 => absurd c57 (by omega))
                            refine lv_iconst (v := 1) hx hb dX12_isKept_121 rfl ?_
                            refine lv_goto (tgt := 126) hx hb dX12_isKept_122 rfl ?_
                            exact ret 1 H0 locs45 _ _ dX12_isKept_126 (Or.inr rfl) ⟨rfl, Or.inr rfl⟩ hC0 hS45
                        · refine q_if_eq hx hb (a := 1) (by decide) (tgt := 86) dX12_isKept_81 rfl (fun c58 => absurd c58 (by omega)) (fun c58 => ?_)
                          refine lv_iconst (v := 1) hx hb dX12_isKept_84 rfl ?_
                          exact ret 1 H0 locs43 _ _ dX12_isKept_85 (Or.inr rfl) ⟨rfl, Or.inr rfl⟩ hC0 hS43
                      · refine q_if_ne hx hb (a := 1) (by decide) (tgt := 84) dX12_isKept_74 rfl (fun c59 => ?_) (fun c59 => absurd c59 (by omega))
                        refine lv_iconst (v := 1) hx hb dX12_isKept_84 rfl ?_
                        exact ret 1 H0 locs41 _ _ dX12_isKept_85 (Or.inr rfl) ⟨rfl, Or.inr rfl⟩ hC0 hS41
                    · refine q_if_ne hx hb (a := 1) (by decide) (tgt := 84) dX12_isKept_67 rfl (fun c60 => ?_) (fun c60 => absurd c60 (by omega))
                      refine lv_iconst (v := 1) hx hb dX12_isKept_84 rfl ?_
                      exact ret 1 H0 locs39 _ _ dX12_isKept_85 (Or.inr rfl) ⟨rfl, Or.inr rfl⟩ hC0 hS39
                  · refine q_if_ne hx hb (a := 1) (by decide) (tgt := 84) dX12_isKept_60 rfl (fun c61 => ?_) (fun c61 => absurd c61 (by omega))
                    refine lv_iconst (v := 1) hx hb dX12_isKept_84 rfl ?_
                    exact ret 1 H0 locs37 _ _ dX12_isKept_85 (Or.inr rfl) ⟨rfl, Or.inr rfl⟩ hC0 hS37
                · refine q_if_ne hx hb (a := 1) (by decide) (tgt := 84) dX12_isKept_53 rfl (fun c62 => ?_) (fun c62 => absurd c62 (by omega))
                  refine lv_iconst (v := 1) hx hb dX12_isKept_84 rfl ?_
                  exact ret 1 H0 locs35 _ _ dX12_isKept_85 (Or.inr rfl) ⟨rfl, Or.inr rfl⟩ hC0 hS35
              · refine q_if_ne hx hb (a := 1) (by decide) (tgt := 84) dX12_isKept_46 rfl (fun c63 => ?_) (fun c63 => absurd c63 (by omega))
                refine lv_iconst (v := 1) hx hb dX12_isKept_84 rfl ?_
                exact ret 1 H0 locs33 _ _ dX12_isKept_85 (Or.inr rfl) ⟨rfl, Or.inr rfl⟩ hC0 hS33
            · refine q_if_ne hx hb (a := 1) (by decide) (tgt := 84) dX12_isKept_39 rfl (fun c64 => ?_) (fun c64 => absurd c64 (by omega))
              refine lv_iconst (v := 1) hx hb dX12_isKept_84 rfl ?_
              exact ret 1 H0 locs31 _ _ dX12_isKept_85 (Or.inr rfl) ⟨rfl, Or.inr rfl⟩ hC0 hS31
          · refine q_if_ne hx hb (a := 1) (by decide) (tgt := 84) dX12_isKept_32 rfl (fun c65 => ?_) (fun c65 => absurd c65 (by omega))
            refine lv_iconst (v := 1) hx hb dX12_isKept_84 rfl ?_
            exact ret 1 H0 locs29 _ _ dX12_isKept_85 (Or.inr rfl) ⟨rfl, Or.inr rfl⟩ hC0 hS29
        · refine q_if_ne hx hb (a := 1) (by decide) (tgt := 84) dX12_isKept_25 rfl (fun c66 => ?_) (fun c66 => absurd c66 (by omega))
          refine lv_iconst (v := 1) hx hb dX12_isKept_84 rfl ?_
          exact ret 1 H0 locs27 _ _ dX12_isKept_85 (Or.inr rfl) ⟨rfl, Or.inr rfl⟩ hC0 hS27
      · refine q_if_ne hx hb (a := 1) (by decide) (tgt := 84) dX12_isKept_18 rfl (fun c67 => ?_) (fun c67 => absurd c67 (by omega))
        refine lv_iconst (v := 1) hx hb dX12_isKept_84 rfl ?_
        exact ret 1 H0 locs25 _ _ dX12_isKept_85 (Or.inr rfl) ⟨rfl, Or.inr rfl⟩ hC0 hS25
    · refine q_if_ne hx hb (a := 1) (by decide) (tgt := 84) dX12_isKept_11 rfl (fun c68 => ?_) (fun c68 => absurd c68 (by omega))
      refine lv_iconst (v := 1) hx hb dX12_isKept_84 rfl ?_
      exact ret 1 H0 locs23 _ _ dX12_isKept_85 (Or.inr rfl) ⟨rfl, Or.inr rfl⟩ hC0 hS23
  · refine q_if_ne hx hb (a := 1) (by decide) (tgt := 84) dX12_isKept_4 rfl (fun c69 => ?_) (fun c69 => absurd c69 (by omega))
    refine lv_iconst (v := 1) hx hb dX12_isKept_84 rfl ?_
    exact ret 1 H0 locs21 _ _ dX12_isKept_85 (Or.inr rfl) ⟨rfl, Or.inr rfl⟩ hC0 hS21
set_option maxRecDepth 100000 in
set_option maxHeartbeats 4000000 in
theorem m_X12_readSchool (l : Launch) (X : xW) (Γ : Nat → Option Nat) (H0 : Heap) (hC0 : Conf X Γ H0) (h0 : Nat) (g0 : Γ h0 = some 11) (ca : Nat) (gca : Γ ca = some 64) (uc : ∀ a, Γ a = some 64 → a = ca) : Ctr l X Γ yX12_readSchool cX12_readSchool 2 none 4 [.ref h0] H0 (QV X Γ (fun H1 => Kp X Γ [1, 6, 7, 8, 9, 10, 11, 12, 14, 16, 17, 19, 22, 24, 26, 28] H0 H1 ∧ (((sI H0 h0 (X.1.2 11 16)).toInt ≤ (sI H1 h0 (X.1.2 11 16)).toInt) ∧ ((sI H0 h0 (X.1.2 11 16)).toInt < (sI H1 h0 (X.1.2 11 16)).toInt + tk (sI H1 h0 (X.1.2 11 14)).toInt + 2000 * (sI H1 h0 (X.1.2 11 12)).toInt) ∧ ((sI H0 h0 (X.1.2 11 12)).toInt ≤ 7 * (sI H1 h0 (X.1.2 11 12)).toInt) ∧ (0 ≤ (sI H1 h0 (X.1.2 11 12)).toInt)))) := by
  refine q_enterV (own := "SnowFortsModel") (by decide) rfl (Nat.le_of_ble_eq_true rfl) ?_
  intro p e s m args below meth c ls Qz E hl ret hS0
  have hx := E.1; have hb := E.2.1
  have hKp0 : Kp X Γ [1, 6, 7, 8, 9, 10, 11, 12, 14, 16, 17, 19, 22, 24, 26, 28] H0 H0 := Kp.rf
  have hl : lv_has ls 2 [(0, .ref h0)] := hl
  have hz1 := f_bd hC0 g0 (ci := 11) (k := 16) rfl rfl
  have hz2 := f_bd hC0 g0 (ci := 11) (k := 12) rfl rfl
  refine lv_aload_n hx hb dX12_readSchool_0 rfl (lv_at hl 0 rfl) ?_
  refine q_getC E hC0 g0 fa_RX12_35 uc dX12_readSchool_1 ?_
  refine lv_sipush (v := 2082) hx hb dX12_readSchool_4 rfl ?_
  refine q_cald E hC0 (lo := 0) (hi := 2) gca (a := 2082) (show (2082 : Int32).toInt = 2082 from by decide) (by omega) (by omega) (cr_n2 (by omega) (by omega)) dX12_readSchool_7 (fun v21 ev21 lv21 uv21 => ?_)
  refine lv_istore_n hx hb dX12_readSchool_8 rfl hl (by decide) rfl (fun ls hl => ?_)
  replace hl : lv_has ls 2 [(1, .int v21), (0, .ref h0)] := hl
  refine lv_iload_n hx hb dX12_readSchool_9 rfl (lv_at hl 0 rfl) ?_
  refine lv_iconst (v := 2) hx hb dX12_readSchool_10 rfl ?_
  refine q_icmp_ne hx hb (a := v21.toInt) (b := 2) rfl (by decide) (tgt := 24) dX12_readSchool_11 rfl (fun c22 => ?_) (fun c22 => ?_)
  · refine lv_aload_n hx hb dX12_readSchool_24 rfl (lv_at hl 1 rfl) ?_
    refine q_getI E hC0 g0 fa_RX12_218 dX12_readSchool_25 (fun v23 ev23 lv23 uv23 => ?_)
    have m24 : (sI H0 h0 (X.1.2 11 12)).toInt = v23.toInt := (congrArg Int32.toInt ev23).trans rfl
    refine q_if_le hx hb (a := v23.toInt) rfl (tgt := 32) dX12_readSchool_28 rfl (fun c25 => ?_) (fun c25 => ?_)
    · refine lv_aload_n hx hb dX12_readSchool_32 rfl (lv_at hl 1 rfl) ?_
      refine q_goV (q_runV (As := []) (rest := []) E hC0 hS0 (m_X12_next l X Γ H0 hC0 h0 g0 ca gca uc) cw_X12_next cl_RX12_228 g0 ⟨rfl, rfl⟩ rfl hl.1 rfl (Nat.zero_le _) (by decide) dX12_readSchool_33) hS0 (fun H26 locs26 hr26 hC26 hS26 => ?_)
      obtain ⟨hp26, hr26⟩ := hr26
      have hKp26 := hKp0.tr (hp26.mono rfl)
      obtain ⟨f26_0, f26_1, f26_2⟩ := hr26
      refine lv_aload_n hx hb dX12_readSchool_36 rfl (lv_at hl 1 rfl) ?_
      refine q_getI E hC26 g0 fa_RX12_120 dX12_readSchool_37 (fun v27 ev27 _ _ => ?_)
      have m28 : (sI H26 h0 (X.1.2 11 14)).toInt = v27.toInt := (congrArg Int32.toInt ev27).trans rfl
      refine lv_iconst (v := 1) hx hb dX12_readSchool_40 rfl ?_
      refine q_icmp_ne hx hb (a := v27.toInt) (b := 1) rfl (by decide) (tgt := 60) dX12_readSchool_41 rfl (fun c29 => ?_) (fun c29 => ?_)
      · refine lv_aload_n hx hb dX12_readSchool_60 rfl (lv_at hl 1 rfl) ?_
        refine q_goV (q_runV (As := []) (rest := []) E hC26 hS26 (m_X12_wrong l X Γ H26 hC26 h0 g0 ca gca uc) cw_X12_wrong cl_RX12_231 g0 ⟨rfl, rfl⟩ rfl hl.1 rfl (Nat.zero_le _) (by decide) dX12_readSchool_61) hS26 (fun H30 locs30 hr30 hC30 hS30 => ?_)
        obtain ⟨hp30, hr30⟩ := hr30
        have hKp30 := hKp26.tr (hp30.mono rfl)
        obtain ⟨f30_0, f30_1, f30_2, f30_3⟩ := hr30
        refine lv_aload_n hx hb dX12_readSchool_64 rfl (lv_at hl 1 rfl) ?_
        refine q_getI E hC30 g0 fa_RX12_218 dX12_readSchool_65 (fun v31 ev31 lv31 uv31 => ?_)
        have m32 : (sI H30 h0 (X.1.2 11 12)).toInt = v31.toInt := (congrArg Int32.toInt ev31).trans rfl
        refine q_if_ne hx hb (a := v31.toInt) rfl (tgt := 99) dX12_readSchool_68 rfl (fun c33 => ?_) (fun c33 => absurd c33 (by omega))
        refine lv_aload_n hx hb dX12_readSchool_99 rfl (lv_at hl 1 rfl) ?_
        refine q_getI E hC30 g0 fa_RX12_218 dX12_readSchool_100 (fun v34 ev34 lv34 uv34 => ?_)
        have qv34 := ev31.symm.trans ev34; subst qv34
        refine q_if_le hx hb (a := v31.toInt) rfl (tgt := 107) dX12_readSchool_103 rfl (fun c35 => absurd c35 (by omega)) (fun c35 => ?_)
        have hz8 := tk_nn (sI H30 h0 (X.1.2 11 14)).toInt
        exact ret H30 locs30 _ _ dX12_readSchool_106 ⟨hKp30, ⟨by omega, by omega, by omega, by omega⟩⟩ hC30 hS30
      · refine lv_aload_n hx hb dX12_readSchool_44 rfl (lv_at hl 1 rfl) ?_
        refine q_getI E hC26 g0 fa_RX12_133 dX12_readSchool_45 (fun v36 ev36 _ _ => ?_)
        refine lv_bipush (v := 8) hx hb dX12_readSchool_48 rfl ?_
        refine q_icmp_gt hx hb (a := v36.toInt) (b := 8) rfl (by decide) (tgt := 60) dX12_readSchool_50 rfl (fun c37 => ?_) (fun c37 => ?_)
        · refine lv_aload_n hx hb dX12_readSchool_60 rfl (lv_at hl 1 rfl) ?_
          refine q_goV (q_runV (As := []) (rest := []) E hC26 hS26 (m_X12_wrong l X Γ H26 hC26 h0 g0 ca gca uc) cw_X12_wrong cl_RX12_231 g0 ⟨rfl, rfl⟩ rfl hl.1 rfl (Nat.zero_le _) (by decide) dX12_readSchool_61) hS26 (fun H38 locs38 hr38 hC38 hS38 => ?_)
          obtain ⟨hp38, hr38⟩ := hr38
          have hKp38 := hKp26.tr (hp38.mono rfl)
          obtain ⟨f38_0, f38_1, f38_2, f38_3⟩ := hr38
          refine lv_aload_n hx hb dX12_readSchool_64 rfl (lv_at hl 1 rfl) ?_
          refine q_getI E hC38 g0 fa_RX12_218 dX12_readSchool_65 (fun v39 ev39 lv39 uv39 => ?_)
          have m40 : (sI H38 h0 (X.1.2 11 12)).toInt = v39.toInt := (congrArg Int32.toInt ev39).trans rfl
          refine q_if_ne hx hb (a := v39.toInt) rfl (tgt := 99) dX12_readSchool_68 rfl (fun c41 => ?_) (fun c41 => absurd c41 (by omega))
          refine lv_aload_n hx hb dX12_readSchool_99 rfl (lv_at hl 1 rfl) ?_
          refine q_getI E hC38 g0 fa_RX12_218 dX12_readSchool_100 (fun v42 ev42 lv42 uv42 => ?_)
          have qv42 := ev39.symm.trans ev42; subst qv42
          refine q_if_le hx hb (a := v39.toInt) rfl (tgt := 107) dX12_readSchool_103 rfl (fun c43 => absurd c43 (by omega)) (fun c43 => ?_)
          have hz8 := tk_nn (sI H38 h0 (X.1.2 11 14)).toInt
          exact ret H38 locs38 _ _ dX12_readSchool_106 ⟨hKp38, ⟨by omega, by omega, by omega, by omega⟩⟩ hC38 hS38
        · refine lv_aload_n hx hb dX12_readSchool_53 rfl (lv_at hl 1 rfl) ?_
          refine q_goIp (q_runV (As := []) (rest := []) E hC26 hS26 (m_X12_isKept l X Γ H26 hC26 h0 g0 ca gca uc) cw_X12_isKept cl_RX12_241 g0 ⟨rfl, rfl⟩ rfl hl.1 rfl (Nat.zero_le _) (by decide) dX12_readSchool_54) hS26 (fun v44 locs44 hr44 hS44 => ?_)
          rcases hr44 with rfl | rfl
          · refine q_if_eq hx hb (a := 0) (by decide) (tgt := 64) dX12_readSchool_57 rfl (fun c45 => ?_) (fun c45 => absurd c45 (by omega))
            refine lv_aload_n hx hb dX12_readSchool_64 rfl (lv_at hl 1 rfl) ?_
            refine q_getI E hC26 g0 fa_RX12_218 dX12_readSchool_65 (fun v46 ev46 lv46 uv46 => ?_)
            have m47 : (sI H26 h0 (X.1.2 11 12)).toInt = v46.toInt := (congrArg Int32.toInt ev46).trans rfl
            refine q_if_ne hx hb (a := v46.toInt) rfl (tgt := 99) dX12_readSchool_68 rfl (fun c48 => ?_) (fun c48 => ?_)
            · refine lv_aload_n hx hb dX12_readSchool_99 rfl (lv_at hl 1 rfl) ?_
              refine q_getI E hC26 g0 fa_RX12_218 dX12_readSchool_100 (fun v49 ev49 lv49 uv49 => ?_)
              have qv49 := ev46.symm.trans ev49; subst qv49
              refine q_if_le hx hb (a := v46.toInt) rfl (tgt := 107) dX12_readSchool_103 rfl (fun c50 => absurd c50 (by omega)) (fun c50 => ?_)
              have hz8 := tk_nn (sI H26 h0 (X.1.2 11 14)).toInt
              exact ret H26 locs44 _ _ dX12_readSchool_106 ⟨hKp26, ⟨by omega, by omega, by omega, by omega⟩⟩ hC26 hS44
            · refine lv_iload_n hx hb dX12_readSchool_71 rfl (lv_at hl 0 rfl) ?_
              refine lv_iconst (v := 1) hx hb dX12_readSchool_72 rfl ?_
              refine q_icmp_ne hx hb (a := v21.toInt) (b := 1) rfl (by decide) (tgt := 99) dX12_readSchool_73 rfl (fun c51 => ?_) (fun c51 => ?_)
              · refine lv_aload_n hx hb dX12_readSchool_99 rfl (lv_at hl 1 rfl) ?_
                refine q_getI E hC26 g0 fa_RX12_218 dX12_readSchool_100 (fun v52 ev52 lv52 uv52 => ?_)
                have qv52 := ev46.symm.trans ev52; subst qv52
                refine q_if_le hx hb (a := v46.toInt) rfl (tgt := 107) dX12_readSchool_103 rfl (fun c53 => ?_) (fun c53 => absurd c53 (by omega))
                refine lv_aload_n hx hb dX12_readSchool_107 rfl (lv_at hl 1 rfl) ?_
                refine q_getR E hC26 g0 fa_RX12_44 dX12_readSchool_108 (fun q54 eq54 gq54 => ?_)
                refine lv_iload_n hx hb dX12_readSchool_111 rfl (lv_at hl 0 rfl) ?_
                refine lv_aload_n hx hb dX12_readSchool_112 rfl (lv_at hl 1 rfl) ?_
                refine q_getJ E hC26 g0 fa_RX12_126 dX12_readSchool_113 (fun v55 ev55 => ?_)
                refine q_last2 E hC26 hS44 gq54 (by decide) rfl rfl (fun _ => rfl) (a := v21.toInt) rfl (by omega) (by omega) dX12_readSchool_116 (fun H56 locs56 hC56 hS56 U56 => ?_)
                have hKp56 := Kp.upA gq54 rfl (by decide) rfl U56 hKp26
                have m57 : (sI H56 h0 (X.1.2 11 12)).toInt = (sI H26 h0 (X.1.2 11 12)).toInt := congrArg Int32.toInt (up_nI U56 (ne_k g0 gq54 (by decide)))
                have m58 : (sI H56 h0 (X.1.2 11 14)).toInt = (sI H26 h0 (X.1.2 11 14)).toInt := congrArg Int32.toInt (up_nI U56 (ne_k g0 gq54 (by decide)))
                have m59 := congrArg tk m58
                have m60 : (sI H56 h0 (X.1.2 11 16)).toInt = (sI H26 h0 (X.1.2 11 16)).toInt := congrArg Int32.toInt (up_nI U56 (ne_k g0 gq54 (by decide)))
                refine lv_aload_n hx hb dX12_readSchool_117 rfl (lv_at hl 1 rfl) ?_
                refine q_goV (q_runV (As := []) (rest := []) E hC56 hS56 (m_X12_next l X Γ H56 hC56 h0 g0 ca gca uc) cw_X12_next cl_RX12_228 g0 ⟨rfl, rfl⟩ rfl hl.1 rfl (Nat.zero_le _) (by decide) dX12_readSchool_118) hS56 (fun H61 locs61 hr61 hC61 hS61 => ?_)
                obtain ⟨hp61, hr61⟩ := hr61
                have hKp61 := hKp56.tr (hp61.mono rfl)
                obtain ⟨f61_0, f61_1, f61_2⟩ := hr61
                refine lv_aload_n hx hb dX12_readSchool_121 rfl (lv_at hl 1 rfl) ?_
                refine lv_aload_n hx hb dX12_readSchool_122 rfl (lv_at hl 1 rfl) ?_
                refine q_goIp (q_runV (As := []) (rest := [.ref h0]) E hC61 hS61 (m_X12_isHands l X Γ H61 hC61 h0 g0 ca gca uc) cw_X12_isHands cl_RX12_175 g0 ⟨rfl, rfl⟩ rfl hl.1 rfl (show _ ≤ _ from by simp [Value.category]) (by decide) dX12_readSchool_123) hS61 (fun v62 locs62 hr62 hS62 => ?_)
                have b62 : v62.toInt = 0 ∨ v62.toInt = 1 := hr62.imp (fun h => by rw [h]; decide) (fun h => by rw [h]; decide)
                refine q_goV (q_runV (As := [.int v62]) (rest := []) E hC61 hS62 (m_X12_must l X Γ H61 hC61 h0 g0 v62 (a1 := v62.toInt) rfl ca gca uc (by omega) (by omega)) cw_X12_must cl_RX12_244 g0 ⟨rfl, rfl⟩ rfl hl.1 rfl (Nat.zero_le _) (by decide) dX12_readSchool_126) hS62 (fun H63 locs63 hr63 hC63 hS63 => ?_)
                obtain ⟨hp63, hr63⟩ := hr63
                have hKp63 := hKp61.tr (hp63.mono rfl)
                obtain ⟨f63_0, f63_1, f63_2, f63_3, f63_4⟩ := hr63
                refine lv_aload_n hx hb dX12_readSchool_129 rfl (lv_at hl 1 rfl) ?_
                refine q_getC E hC63 g0 fa_RX12_35 uc dX12_readSchool_130 ?_
                refine lv_sipush (v := 2092) hx hb dX12_readSchool_133 rfl ?_
                refine lv_iload_n hx hb dX12_readSchool_136 rfl (lv_at hl 0 rfl) ?_
                refine lv_iadd hx hb dX12_readSchool_137 (lv_topi (fun v64 ev64 => ?_))
                have ev64i : v64.toInt = (2092 + v21.toInt) := i_add ev64 (by decide) rfl (by omega) (by omega)
                refine lv_aload_n hx hb dX12_readSchool_138 rfl (lv_at hl 1 rfl) ?_
                refine lv_iconst (v := 0) hx hb dX12_readSchool_139 rfl ?_
                refine lv_bipush (v := 40) hx hb dX12_readSchool_140 rfl ?_
                refine q_goI (q_runV (As := [.int 0, .int 40]) (rest := [.int v64, .ref ca]) E hC63 hS63 (m_X12_count l X Γ H63 hC63 h0 g0 0 (a1 := 0) (by decide) 40 (a2 := 40) (by decide) ca gca uc (by omega) (by omega) (by omega) (by omega)) cw_X12_count cl_RX12_248 g0 ⟨rfl, rfl⟩ rfl hl.1 rfl (show _ ≤ _ from by simp [Value.category]) (by decide) dX12_readSchool_142) hS63 (fun v65 H65 locs65 hr65 hC65 hS65 => ?_)
                obtain ⟨hp65, hr65⟩ := hr65
                have hKp65 := hKp63.tr (hp65.mono rfl)
                obtain ⟨f65_0, f65_1, f65_2, f65_3, f65_4, f65_5, f65_6, f65_7⟩ := hr65
                refine q_cast E hC65 hS65 gca (a := (2092 + v21.toInt)) ev64i (by omega) (by omega) (cs_n12 (a := (2092 + v21.toInt)) (b := v65.toInt) (by omega) (by omega) rfl (by omega) (by omega)) dX12_readSchool_145 (fun H66 locs66 hC66 hS66 U66 => ?_)
                have hKp66 := Kp.upD gca rfl rfl (fun _ => ⟨fun _ => nd4 (by omega) (by omega), fun _ => by unfold dpu; omega, fun _ => by unfold dpn; omega⟩) U66 hKp65
                have m67 : (sI H66 h0 (X.1.2 11 12)).toInt = (sI H65 h0 (X.1.2 11 12)).toInt := congrArg Int32.toInt (up_nI U66 (ne_k g0 gca (by decide)))
                have m68 : (sI H66 h0 (X.1.2 11 14)).toInt = (sI H65 h0 (X.1.2 11 14)).toInt := congrArg Int32.toInt (up_nI U66 (ne_k g0 gca (by decide)))
                have m69 := congrArg tk m68
                have m70 : (sI H66 h0 (X.1.2 11 16)).toInt = (sI H65 h0 (X.1.2 11 16)).toInt := congrArg Int32.toInt (up_nI U66 (ne_k g0 gca (by decide)))
                have e71 := up_I U66
                refine lv_aload_n hx hb dX12_readSchool_146 rfl (lv_at hl 1 rfl) ?_
                have e73 := (up_nI U56 (ne_k g0 gq54 (by decide))).trans ev46
                refine q_getI E hC66 g0 fa_RX12_218 dX12_readSchool_147 (fun v72 ev72 lv72 uv72 => ?_)
                have m74 : (sI H66 h0 (X.1.2 11 12)).toInt = v72.toInt := (congrArg Int32.toInt ev72).trans rfl
                refine q_if_ne hx hb (a := v72.toInt) rfl (tgt := 165) dX12_readSchool_150 rfl (fun c75 => ?_) (fun c75 => ?_)
                · have hz8 := tk_nn (sI H66 h0 (X.1.2 11 14)).toInt
                  exact ret H66 locs66 _ _ dX12_readSchool_165 ⟨hKp66, ⟨by omega, by omega, by omega, by omega⟩⟩ hC66 hS66
                · refine lv_aload_n hx hb dX12_readSchool_153 rfl (lv_at hl 1 rfl) ?_
                  refine q_getC E hC66 g0 fa_RX12_35 uc dX12_readSchool_154 ?_
                  refine lv_sipush (v := 2082) hx hb dX12_readSchool_157 rfl ?_
                  refine lv_dup2_11 hx hb dX12_readSchool_160 rfl rfl ?_
                  have e77 := (kp_c (j := (2082 : Int).toNat) hp26 gca rfl).trans ev21
                  have e78 := (up_nI (a' := ca) (j' := (2082 : Int).toNat) U56 (ne_k gca gq54 (by decide))).trans e77
                  have e79 := (kp_c (j := (2082 : Int).toNat) hp61 gca rfl).trans e78
                  have e80 := (kp_c (j := (2082 : Int).toNat) hp63 gca rfl).trans e79
                  have e81 := (kp_c (j := (2082 : Int).toNat) hp65 gca rfl).trans e80
                  have e82 := (up_nI (a' := ca) (j' := (2082 : Int).toNat) U66 (fun h => by have h2 := h.2; omega)).trans e81
                  refine q_cald E hC66 (lo := 0) (hi := 2) gca (a := 2082) (show (2082 : Int32).toInt = 2082 from by decide) (by omega) (by omega) (cr_n2 (by omega) (by omega)) dX12_readSchool_161 (fun v76 ev76 lv76 uv76 => ?_)
                  have qv76 := e82.symm.trans ev76; subst qv76
                  refine lv_iconst (v := 1) hx hb dX12_readSchool_162 rfl ?_
                  refine lv_iadd hx hb dX12_readSchool_163 (lv_topi (fun v83 ev83 => ?_))
                  have ev83i : v83.toInt = (v21.toInt + 1) := i_add ev83 rfl (by decide) (by omega) (by omega)
                  refine q_cast E hC66 hS66 gca (a := 2082) (show (2082 : Int32).toInt = 2082 from by decide) (by omega) (by omega) (cs_n2 (a := 2082) (b := (v21.toInt + 1)) (by omega) (by omega) ev83i (by omega) (by omega)) dX12_readSchool_164 (fun H84 locs84 hC84 hS84 U84 => ?_)
                  have hKp84 := Kp.upD gca rfl rfl (fun _ => ⟨fun _ => nd4 (by omega) (by omega), fun _ => by unfold dpu; omega, fun _ => by unfold dpn; omega⟩) U84 hKp66
                  have m85 : (sI H84 h0 (X.1.2 11 12)).toInt = (sI H66 h0 (X.1.2 11 12)).toInt := congrArg Int32.toInt (up_nI U84 (ne_k g0 gca (by decide)))
                  have m86 : (sI H84 h0 (X.1.2 11 14)).toInt = (sI H66 h0 (X.1.2 11 14)).toInt := congrArg Int32.toInt (up_nI U84 (ne_k g0 gca (by decide)))
                  have m87 := congrArg tk m86
                  have m88 : (sI H84 h0 (X.1.2 11 16)).toInt = (sI H66 h0 (X.1.2 11 16)).toInt := congrArg Int32.toInt (up_nI U84 (ne_k g0 gca (by decide)))
                  have e89 := up_I U84
                  have hz8 := tk_nn (sI H84 h0 (X.1.2 11 14)).toInt
                  exact ret H84 locs84 _ _ dX12_readSchool_165 ⟨hKp84, ⟨by omega, by omega, by omega, by omega⟩⟩ hC84 hS84
              · refine lv_aload_n hx hb dX12_readSchool_76 rfl (lv_at hl 1 rfl) ?_
                refine q_getR E hC26 g0 fa_RX12_44 dX12_readSchool_77 (fun q90 eq90 gq90 => ?_)
                refine lv_iconst (v := 0) hx hb dX12_readSchool_80 rfl ?_
                refine q_lald2 E hC26 gq90 rfl rfl (fun _ => rfl) (a := 0) (show (0 : Int32).toInt = 0 from by decide) (by omega) (by omega) dX12_readSchool_81 (fun v91 ev91 => ?_)
                refine lv_aload_n hx hb dX12_readSchool_82 rfl (lv_at hl 1 rfl) ?_
                refine q_getJ E hC26 g0 fa_RX12_126 dX12_readSchool_83 (fun v92 ev92 => ?_)
                refine q_lcmp_ne hx hb (a := v91.toInt) (b := v92.toInt) rfl rfl (tgt := 99) dX12_readSchool_86 dX12_readSchool_87 rfl (fun c93 => ?_) (fun c93 => ?_)
                · refine lv_aload_n hx hb dX12_readSchool_99 rfl (lv_at hl 1 rfl) ?_
                  refine q_getI E hC26 g0 fa_RX12_218 dX12_readSchool_100 (fun v94 ev94 lv94 uv94 => ?_)
                  have qv94 := ev46.symm.trans ev94; subst qv94
                  refine q_if_le hx hb (a := v46.toInt) rfl (tgt := 107) dX12_readSchool_103 rfl (fun c95 => ?_) (fun c95 => absurd c95 (by omega))
                  refine lv_aload_n hx hb dX12_readSchool_107 rfl (lv_at hl 1 rfl) ?_
                  refine q_getR E hC26 g0 fa_RX12_44 dX12_readSchool_108 (fun q96 eq96 gq96 => ?_)
                  refine lv_iload_n hx hb dX12_readSchool_111 rfl (lv_at hl 0 rfl) ?_
                  refine lv_aload_n hx hb dX12_readSchool_112 rfl (lv_at hl 1 rfl) ?_
                  refine q_getJ E hC26 g0 fa_RX12_126 dX12_readSchool_113 (fun v97 ev97 => ?_)
                  refine q_last2 E hC26 hS44 gq96 (by decide) rfl rfl (fun _ => rfl) (a := v21.toInt) rfl (by omega) (by omega) dX12_readSchool_116 (fun H98 locs98 hC98 hS98 U98 => ?_)
                  have hKp98 := Kp.upA gq96 rfl (by decide) rfl U98 hKp26
                  have m99 : (sI H98 h0 (X.1.2 11 12)).toInt = (sI H26 h0 (X.1.2 11 12)).toInt := congrArg Int32.toInt (up_nI U98 (ne_k g0 gq96 (by decide)))
                  have m100 : (sI H98 h0 (X.1.2 11 14)).toInt = (sI H26 h0 (X.1.2 11 14)).toInt := congrArg Int32.toInt (up_nI U98 (ne_k g0 gq96 (by decide)))
                  have m101 := congrArg tk m100
                  have m102 : (sI H98 h0 (X.1.2 11 16)).toInt = (sI H26 h0 (X.1.2 11 16)).toInt := congrArg Int32.toInt (up_nI U98 (ne_k g0 gq96 (by decide)))
                  refine lv_aload_n hx hb dX12_readSchool_117 rfl (lv_at hl 1 rfl) ?_
                  refine q_goV (q_runV (As := []) (rest := []) E hC98 hS98 (m_X12_next l X Γ H98 hC98 h0 g0 ca gca uc) cw_X12_next cl_RX12_228 g0 ⟨rfl, rfl⟩ rfl hl.1 rfl (Nat.zero_le _) (by decide) dX12_readSchool_118) hS98 (fun H103 locs103 hr103 hC103 hS103 => ?_)
                  obtain ⟨hp103, hr103⟩ := hr103
                  have hKp103 := hKp98.tr (hp103.mono rfl)
                  obtain ⟨f103_0, f103_1, f103_2⟩ := hr103
                  refine lv_aload_n hx hb dX12_readSchool_121 rfl (lv_at hl 1 rfl) ?_
                  refine lv_aload_n hx hb dX12_readSchool_122 rfl (lv_at hl 1 rfl) ?_
                  refine q_goIp (q_runV (As := []) (rest := [.ref h0]) E hC103 hS103 (m_X12_isHands l X Γ H103 hC103 h0 g0 ca gca uc) cw_X12_isHands cl_RX12_175 g0 ⟨rfl, rfl⟩ rfl hl.1 rfl (show _ ≤ _ from by simp [Value.category]) (by decide) dX12_readSchool_123) hS103 (fun v104 locs104 hr104 hS104 => ?_)
                  have b104 : v104.toInt = 0 ∨ v104.toInt = 1 := hr104.imp (fun h => by rw [h]; decide) (fun h => by rw [h]; decide)
                  refine q_goV (q_runV (As := [.int v104]) (rest := []) E hC103 hS104 (m_X12_must l X Γ H103 hC103 h0 g0 v104 (a1 := v104.toInt) rfl ca gca uc (by omega) (by omega)) cw_X12_must cl_RX12_244 g0 ⟨rfl, rfl⟩ rfl hl.1 rfl (Nat.zero_le _) (by decide) dX12_readSchool_126) hS104 (fun H105 locs105 hr105 hC105 hS105 => ?_)
                  obtain ⟨hp105, hr105⟩ := hr105
                  have hKp105 := hKp103.tr (hp105.mono rfl)
                  obtain ⟨f105_0, f105_1, f105_2, f105_3, f105_4⟩ := hr105
                  refine lv_aload_n hx hb dX12_readSchool_129 rfl (lv_at hl 1 rfl) ?_
                  refine q_getC E hC105 g0 fa_RX12_35 uc dX12_readSchool_130 ?_
                  refine lv_sipush (v := 2092) hx hb dX12_readSchool_133 rfl ?_
                  refine lv_iload_n hx hb dX12_readSchool_136 rfl (lv_at hl 0 rfl) ?_
                  refine lv_iadd hx hb dX12_readSchool_137 (lv_topi (fun v106 ev106 => ?_))
                  have ev106i : v106.toInt = (2092 + v21.toInt) := i_add ev106 (by decide) rfl (by omega) (by omega)
                  refine lv_aload_n hx hb dX12_readSchool_138 rfl (lv_at hl 1 rfl) ?_
                  refine lv_iconst (v := 0) hx hb dX12_readSchool_139 rfl ?_
                  refine lv_bipush (v := 40) hx hb dX12_readSchool_140 rfl ?_
                  refine q_goI (q_runV (As := [.int 0, .int 40]) (rest := [.int v106, .ref ca]) E hC105 hS105 (m_X12_count l X Γ H105 hC105 h0 g0 0 (a1 := 0) (by decide) 40 (a2 := 40) (by decide) ca gca uc (by omega) (by omega) (by omega) (by omega)) cw_X12_count cl_RX12_248 g0 ⟨rfl, rfl⟩ rfl hl.1 rfl (show _ ≤ _ from by simp [Value.category]) (by decide) dX12_readSchool_142) hS105 (fun v107 H107 locs107 hr107 hC107 hS107 => ?_)
                  obtain ⟨hp107, hr107⟩ := hr107
                  have hKp107 := hKp105.tr (hp107.mono rfl)
                  obtain ⟨f107_0, f107_1, f107_2, f107_3, f107_4, f107_5, f107_6, f107_7⟩ := hr107
                  refine q_cast E hC107 hS107 gca (a := (2092 + v21.toInt)) ev106i (by omega) (by omega) (cs_n12 (a := (2092 + v21.toInt)) (b := v107.toInt) (by omega) (by omega) rfl (by omega) (by omega)) dX12_readSchool_145 (fun H108 locs108 hC108 hS108 U108 => ?_)
                  have hKp108 := Kp.upD gca rfl rfl (fun _ => ⟨fun _ => nd4 (by omega) (by omega), fun _ => by unfold dpu; omega, fun _ => by unfold dpn; omega⟩) U108 hKp107
                  have m109 : (sI H108 h0 (X.1.2 11 12)).toInt = (sI H107 h0 (X.1.2 11 12)).toInt := congrArg Int32.toInt (up_nI U108 (ne_k g0 gca (by decide)))
                  have m110 : (sI H108 h0 (X.1.2 11 14)).toInt = (sI H107 h0 (X.1.2 11 14)).toInt := congrArg Int32.toInt (up_nI U108 (ne_k g0 gca (by decide)))
                  have m111 := congrArg tk m110
                  have m112 : (sI H108 h0 (X.1.2 11 16)).toInt = (sI H107 h0 (X.1.2 11 16)).toInt := congrArg Int32.toInt (up_nI U108 (ne_k g0 gca (by decide)))
                  have e113 := up_I U108
                  refine lv_aload_n hx hb dX12_readSchool_146 rfl (lv_at hl 1 rfl) ?_
                  have e115 := (up_nI U98 (ne_k g0 gq96 (by decide))).trans ev46
                  refine q_getI E hC108 g0 fa_RX12_218 dX12_readSchool_147 (fun v114 ev114 lv114 uv114 => ?_)
                  have m116 : (sI H108 h0 (X.1.2 11 12)).toInt = v114.toInt := (congrArg Int32.toInt ev114).trans rfl
                  refine q_if_ne hx hb (a := v114.toInt) rfl (tgt := 165) dX12_readSchool_150 rfl (fun c117 => ?_) (fun c117 => ?_)
                  · have hz8 := tk_nn (sI H108 h0 (X.1.2 11 14)).toInt
                    exact ret H108 locs108 _ _ dX12_readSchool_165 ⟨hKp108, ⟨by omega, by omega, by omega, by omega⟩⟩ hC108 hS108
                  · refine lv_aload_n hx hb dX12_readSchool_153 rfl (lv_at hl 1 rfl) ?_
                    refine q_getC E hC108 g0 fa_RX12_35 uc dX12_readSchool_154 ?_
                    refine lv_sipush (v := 2082) hx hb dX12_readSchool_157 rfl ?_
                    refine lv_dup2_11 hx hb dX12_readSchool_160 rfl rfl ?_
                    have e119 := (kp_c (j := (2082 : Int).toNat) hp26 gca rfl).trans ev21
                    have e120 := (up_nI (a' := ca) (j' := (2082 : Int).toNat) U98 (ne_k gca gq96 (by decide))).trans e119
                    have e121 := (kp_c (j := (2082 : Int).toNat) hp103 gca rfl).trans e120
                    have e122 := (kp_c (j := (2082 : Int).toNat) hp105 gca rfl).trans e121
                    have e123 := (kp_c (j := (2082 : Int).toNat) hp107 gca rfl).trans e122
                    have e124 := (up_nI (a' := ca) (j' := (2082 : Int).toNat) U108 (fun h => by have h2 := h.2; omega)).trans e123
                    refine q_cald E hC108 (lo := 0) (hi := 2) gca (a := 2082) (show (2082 : Int32).toInt = 2082 from by decide) (by omega) (by omega) (cr_n2 (by omega) (by omega)) dX12_readSchool_161 (fun v118 ev118 lv118 uv118 => ?_)
                    have qv118 := e124.symm.trans ev118; subst qv118
                    refine lv_iconst (v := 1) hx hb dX12_readSchool_162 rfl ?_
                    refine lv_iadd hx hb dX12_readSchool_163 (lv_topi (fun v125 ev125 => ?_))
                    have ev125i : v125.toInt = (v21.toInt + 1) := i_add ev125 rfl (by decide) (by omega) (by omega)
                    refine q_cast E hC108 hS108 gca (a := 2082) (show (2082 : Int32).toInt = 2082 from by decide) (by omega) (by omega) (cs_n2 (a := 2082) (b := (v21.toInt + 1)) (by omega) (by omega) ev125i (by omega) (by omega)) dX12_readSchool_164 (fun H126 locs126 hC126 hS126 U126 => ?_)
                    have hKp126 := Kp.upD gca rfl rfl (fun _ => ⟨fun _ => nd4 (by omega) (by omega), fun _ => by unfold dpu; omega, fun _ => by unfold dpn; omega⟩) U126 hKp108
                    have m127 : (sI H126 h0 (X.1.2 11 12)).toInt = (sI H108 h0 (X.1.2 11 12)).toInt := congrArg Int32.toInt (up_nI U126 (ne_k g0 gca (by decide)))
                    have m128 : (sI H126 h0 (X.1.2 11 14)).toInt = (sI H108 h0 (X.1.2 11 14)).toInt := congrArg Int32.toInt (up_nI U126 (ne_k g0 gca (by decide)))
                    have m129 := congrArg tk m128
                    have m130 : (sI H126 h0 (X.1.2 11 16)).toInt = (sI H108 h0 (X.1.2 11 16)).toInt := congrArg Int32.toInt (up_nI U126 (ne_k g0 gca (by decide)))
                    have e131 := up_I U126
                    have hz8 := tk_nn (sI H126 h0 (X.1.2 11 14)).toInt
                    exact ret H126 locs126 _ _ dX12_readSchool_165 ⟨hKp126, ⟨by omega, by omega, by omega, by omega⟩⟩ hC126 hS126
                · refine lv_aload_n hx hb dX12_readSchool_90 rfl (lv_at hl 1 rfl) ?_
                  refine lv_iconst (v := 3) hx hb dX12_readSchool_91 rfl ?_
                  refine lv_aload_n hx hb dX12_readSchool_92 rfl (lv_at hl 1 rfl) ?_
                  refine q_getI E hC26 g0 fa_RX12_114 dX12_readSchool_93 (fun v132 ev132 lv132 uv132 => ?_)
                  refine q_goV (q_runV (As := [.int 3, .int v132]) (rest := []) E hC26 hS44 (m_X12_fail l X Γ H26 hC26 h0 g0 3 (a1 := 3) (by decide) v132 (a2 := v132.toInt) rfl ca gca uc (by omega) (by omega)) cw_X12_fail cl_RX12_224 g0 ⟨rfl, rfl⟩ rfl hl.1 rfl (Nat.zero_le _) (by decide) dX12_readSchool_96) hS44 (fun H133 locs133 hr133 hC133 hS133 => ?_)
                  obtain ⟨hp133, hr133⟩ := hr133
                  have hKp133 := hKp26.tr (hp133.mono rfl)
                  obtain ⟨f133_0, f133_1, f133_2, f133_3⟩ := hr133
                  refine lv_aload_n hx hb dX12_readSchool_99 rfl (lv_at hl 1 rfl) ?_
                  refine q_getI E hC133 g0 fa_RX12_218 dX12_readSchool_100 (fun v134 ev134 lv134 uv134 => ?_)
                  have m135 : (sI H133 h0 (X.1.2 11 12)).toInt = v134.toInt := (congrArg Int32.toInt ev134).trans rfl
                  refine q_if_le hx hb (a := v134.toInt) rfl (tgt := 107) dX12_readSchool_103 rfl (fun c136 => absurd c136 (by omega)) (fun c136 => ?_)
                  have hz8 := tk_nn (sI H133 h0 (X.1.2 11 14)).toInt
                  exact ret H133 locs133 _ _ dX12_readSchool_106 ⟨hKp133, ⟨by omega, by omega, by omega, by omega⟩⟩ hC133 hS133
          · refine q_if_eq hx hb (a := 1) (by decide) (tgt := 64) dX12_readSchool_57 rfl (fun c137 => absurd c137 (by omega)) (fun c137 => ?_)
            refine lv_aload_n hx hb dX12_readSchool_60 rfl (lv_at hl 1 rfl) ?_
            refine q_goV (q_runV (As := []) (rest := []) E hC26 hS44 (m_X12_wrong l X Γ H26 hC26 h0 g0 ca gca uc) cw_X12_wrong cl_RX12_231 g0 ⟨rfl, rfl⟩ rfl hl.1 rfl (Nat.zero_le _) (by decide) dX12_readSchool_61) hS44 (fun H138 locs138 hr138 hC138 hS138 => ?_)
            obtain ⟨hp138, hr138⟩ := hr138
            have hKp138 := hKp26.tr (hp138.mono rfl)
            obtain ⟨f138_0, f138_1, f138_2, f138_3⟩ := hr138
            refine lv_aload_n hx hb dX12_readSchool_64 rfl (lv_at hl 1 rfl) ?_
            refine q_getI E hC138 g0 fa_RX12_218 dX12_readSchool_65 (fun v139 ev139 lv139 uv139 => ?_)
            have m140 : (sI H138 h0 (X.1.2 11 12)).toInt = v139.toInt := (congrArg Int32.toInt ev139).trans rfl
            refine q_if_ne hx hb (a := v139.toInt) rfl (tgt := 99) dX12_readSchool_68 rfl (fun c141 => ?_) (fun c141 => absurd c141 (by omega))
            refine lv_aload_n hx hb dX12_readSchool_99 rfl (lv_at hl 1 rfl) ?_
            refine q_getI E hC138 g0 fa_RX12_218 dX12_readSchool_100 (fun v142 ev142 lv142 uv142 => ?_)
            have qv142 := ev139.symm.trans ev142; subst qv142
            refine q_if_le hx hb (a := v139.toInt) rfl (tgt := 107) dX12_readSchool_103 rfl (fun c143 => absurd c143 (by omega)) (fun c143 => ?_)
            have hz8 := tk_nn (sI H138 h0 (X.1.2 11 14)).toInt
            exact ret H138 locs138 _ _ dX12_readSchool_106 ⟨hKp138, ⟨by omega, by omega, by omega, by omega⟩⟩ hC138 hS138
    · have hz8 := tk_nn (sI H0 h0 (X.1.2 11 14)).toInt
      exact ret H0 [] _ _ dX12_readSchool_31 ⟨hKp0, ⟨by omega, by omega, by omega, by omega⟩⟩ hC0 hS0
  · refine lv_aload_n hx hb dX12_readSchool_14 rfl (lv_at hl 1 rfl) ?_
    refine lv_bipush (v := 6) hx hb dX12_readSchool_15 rfl ?_
    refine lv_aload_n hx hb dX12_readSchool_17 rfl (lv_at hl 1 rfl) ?_
    refine q_getI E hC0 g0 fa_RX12_114 dX12_readSchool_18 (fun v144 ev144 lv144 uv144 => ?_)
    refine q_goV (q_runV (As := [.int 6, .int v144]) (rest := []) E hC0 hS0 (m_X12_fail l X Γ H0 hC0 h0 g0 6 (a1 := 6) (by decide) v144 (a2 := v144.toInt) rfl ca gca uc (by omega) (by omega)) cw_X12_fail cl_RX12_224 g0 ⟨rfl, rfl⟩ rfl hl.1 rfl (Nat.zero_le _) (by decide) dX12_readSchool_21) hS0 (fun H145 locs145 hr145 hC145 hS145 => ?_)
    obtain ⟨hp145, hr145⟩ := hr145
    have hKp145 := hKp0.tr (hp145.mono rfl)
    obtain ⟨f145_0, f145_1, f145_2, f145_3⟩ := hr145
    refine lv_aload_n hx hb dX12_readSchool_24 rfl (lv_at hl 1 rfl) ?_
    refine q_getI E hC145 g0 fa_RX12_218 dX12_readSchool_25 (fun v146 ev146 lv146 uv146 => ?_)
    have m147 : (sI H145 h0 (X.1.2 11 12)).toInt = v146.toInt := (congrArg Int32.toInt ev146).trans rfl
    refine q_if_le hx hb (a := v146.toInt) rfl (tgt := 32) dX12_readSchool_28 rfl (fun c148 => absurd c148 (by omega)) (fun c148 => ?_)
    have hz8 := tk_nn (sI H145 h0 (X.1.2 11 14)).toInt
    exact ret H145 locs145 _ _ dX12_readSchool_31 ⟨hKp145, ⟨by omega, by omega, by omega, by omega⟩⟩ hC145 hS145
