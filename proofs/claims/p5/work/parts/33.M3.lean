set_option maxRecDepth 100000 in
set_option maxHeartbeats 4000000 in
theorem m_X12_isHigh (l : Launch) (X : xW) (Γ : Nat → Option Nat) (H0 : Heap) (hC0 : Conf X Γ H0) (h0 : Nat) (g0 : Γ h0 = some 11) (ca : Nat) (gca : Γ ca = some 64) (uc : ∀ a, Γ a = some 64 → a = ca) : Ctr l X Γ yX12_isHigh cX12_isHigh 1 (some .boolean) 1 [.ref h0] H0 (QI X Γ (fun v H1 => H1 = H0 ∧ (v = 0 ∨ v = 1))) := by
  refine q_enterZ (own := "SnowFortsModel") (by decide) rfl (Nat.le_of_ble_eq_true rfl) ?_
  intro p e s m args below meth c ls Qz E hl ret hS0
  have hx := E.1; have hb := E.2.1
  have hl : lv_has ls 1 [(0, .ref h0)] := hl
  refine lv_aload_n hx hb dX12_isHigh_0 rfl (lv_at hl 0 rfl) ?_
  refine lv_bipush (v := 104) hx hb dX12_isHigh_1 rfl ?_
  refine lv_bipush (v := 105) hx hb dX12_isHigh_3 rfl ?_
  refine lv_bipush (v := 103) hx hb dX12_isHigh_5 rfl ?_
  refine lv_bipush (v := 104) hx hb dX12_isHigh_7 rfl ?_
  refine lv_iconst (v := 0) hx hb dX12_isHigh_9 rfl ?_
  refine lv_iconst (v := 0) hx hb dX12_isHigh_10 rfl ?_
  refine q_goJp (q_runS (As := [.int 104, .int 105, .int 103, .int 104, .int 0, .int 0]) (rest := [.ref h0]) E hS0 (m_X12_spelled l X Γ H0 hC0 104 (a0 := 104) (by decide) 105 (a1 := 105) (by decide) 103 (a2 := 103) (by decide) 104 (a3 := 104) (by decide) 0 (a4 := 0) (by decide) 0 (a5 := 0) (by decide)) cw_X12_spelled cl_RX12_145 rfl hl.1 rfl (show _ ≤ _ from by simp [Value.category]) (by decide) dX12_isHigh_11) hS0 (fun v21 locs21 hr21 hS21 => ?_)
  refine q_goIp (q_runV (As := [.long v21]) (rest := []) E hC0 hS21 (m_X12_isWord l X Γ H0 hC0 h0 g0 v21 (a1 := v21.toInt) rfl ca gca uc) cw_X12_isWord cl_RX12_149 g0 ⟨rfl, rfl⟩ rfl hl.1 rfl (Nat.zero_le _) (by decide) dX12_isHigh_14) hS21 (fun v22 locs22 hr22 hS22 => ?_)
  rcases hr22 with rfl | rfl
  · exact ret 0 H0 locs22 _ _ dX12_isHigh_17 (Or.inl rfl) ⟨rfl, Or.inl rfl⟩ hC0 hS22
  · exact ret 1 H0 locs22 _ _ dX12_isHigh_17 (Or.inr rfl) ⟨rfl, Or.inr rfl⟩ hC0 hS22
set_option maxRecDepth 100000 in
set_option maxHeartbeats 4000000 in
theorem m_X12_isSign (l : Launch) (X : xW) (Γ : Nat → Option Nat) (H0 : Heap) (hC0 : Conf X Γ H0) (h0 : Nat) (g0 : Γ h0 = some 11) (p1 : Int32) {a1 : Int} (e1 : p1.toInt = a1) (ca : Nat) (gca : Γ ca = some 64) (uc : ∀ a, Γ a = some 64 → a = ca) : Ctr l X Γ yX12_isSign cX12_isSign 2 (some .boolean) 0 [.ref h0, .int p1] H0 (QI X Γ (fun v H1 => H1 = H0 ∧ ((v = 1 ∧ ((sI H0 h0 (X.1.2 11 14)).toInt = 3)) ∨ (v = 0 ∧ (True))))) := by
  refine q_enterZ (own := "SnowFortsModel") (by decide) rfl (Nat.le_of_ble_eq_true rfl) ?_
  intro p e s m args below meth c ls Qz E hl ret hS0
  have hx := E.1; have hb := E.2.1
  have hl : lv_has ls 2 [(0, .ref h0), (1, .int p1)] := hl
  refine lv_aload_n hx hb dX12_isSign_0 rfl (lv_at hl 0 rfl) ?_
  refine q_getI E hC0 g0 fa_RX12_120 dX12_isSign_1 (fun v21 ev21 _ _ => ?_)
  have m22 : (sI H0 h0 (X.1.2 11 14)).toInt = v21.toInt := (congrArg Int32.toInt ev21).trans rfl
  refine lv_iconst (v := 3) hx hb dX12_isSign_4 rfl ?_
  refine q_icmp_ne hx hb (a := v21.toInt) (b := 3) rfl (by decide) (tgt := 20) dX12_isSign_5 rfl (fun c23 => ?_) (fun c23 => ?_)
  · refine lv_iconst (v := 0) hx hb dX12_isSign_20 rfl ?_
    exact ret 0 H0 [] _ _ dX12_isSign_21 (Or.inl rfl) ⟨rfl, Or.inr ⟨rfl, trivial⟩⟩ hC0 hS0
  · refine lv_aload_n hx hb dX12_isSign_8 rfl (lv_at hl 0 rfl) ?_
    refine q_getI E hC0 g0 fa_RX12_139 dX12_isSign_9 (fun v24 ev24 _ _ => ?_)
    refine lv_iload_n hx hb dX12_isSign_12 rfl (lv_at hl 1 rfl) ?_
    have c25 := i_rng v24; rw [show v24.toInt = v24.toInt from rfl] at c25
    have c26 := i_rng p1; rw [show p1.toInt = a1 from e1] at c26
    refine q_icmp_ne hx hb (a := v24.toInt) (b := a1) rfl e1 (tgt := 20) dX12_isSign_13 rfl (fun c27 => ?_) (fun c27 => ?_)
    · refine lv_iconst (v := 0) hx hb dX12_isSign_20 rfl ?_
      exact ret 0 H0 [] _ _ dX12_isSign_21 (Or.inl rfl) ⟨rfl, Or.inr ⟨rfl, trivial⟩⟩ hC0 hS0
    · refine lv_iconst (v := 1) hx hb dX12_isSign_16 rfl ?_
      refine lv_goto (tgt := 21) hx hb dX12_isSign_17 rfl ?_
      exact ret 1 H0 [] _ _ dX12_isSign_21 (Or.inr rfl) ⟨rfl, Or.inl ⟨rfl, by omega⟩⟩ hC0 hS0
set_option maxRecDepth 100000 in
set_option maxHeartbeats 4000000 in
theorem m_X12_isSchool (l : Launch) (X : xW) (Γ : Nat → Option Nat) (H0 : Heap) (hC0 : Conf X Γ H0) (h0 : Nat) (g0 : Γ h0 = some 11) (ca : Nat) (gca : Γ ca = some 64) (uc : ∀ a, Γ a = some 64 → a = ca) : Ctr l X Γ yX12_isSchool cX12_isSchool 1 (some .boolean) 1 [.ref h0] H0 (QI X Γ (fun v H1 => H1 = H0 ∧ (v = 0 ∨ v = 1))) := by
  refine q_enterZ (own := "SnowFortsModel") (by decide) rfl (Nat.le_of_ble_eq_true rfl) ?_
  intro p e s m args below meth c ls Qz E hl ret hS0
  have hx := E.1; have hb := E.2.1
  have hl : lv_has ls 1 [(0, .ref h0)] := hl
  refine lv_aload_n hx hb dX12_isSchool_0 rfl (lv_at hl 0 rfl) ?_
  refine lv_bipush (v := 115) hx hb dX12_isSchool_1 rfl ?_
  refine lv_bipush (v := 99) hx hb dX12_isSchool_3 rfl ?_
  refine lv_bipush (v := 104) hx hb dX12_isSchool_5 rfl ?_
  refine lv_bipush (v := 111) hx hb dX12_isSchool_7 rfl ?_
  refine lv_bipush (v := 111) hx hb dX12_isSchool_9 rfl ?_
  refine lv_bipush (v := 108) hx hb dX12_isSchool_11 rfl ?_
  refine q_goJp (q_runS (As := [.int 115, .int 99, .int 104, .int 111, .int 111, .int 108]) (rest := [.ref h0]) E hS0 (m_X12_spelled l X Γ H0 hC0 115 (a0 := 115) (by decide) 99 (a1 := 99) (by decide) 104 (a2 := 104) (by decide) 111 (a3 := 111) (by decide) 111 (a4 := 111) (by decide) 108 (a5 := 108) (by decide)) cw_X12_spelled cl_RX12_145 rfl hl.1 rfl (show _ ≤ _ from by simp [Value.category]) (by decide) dX12_isSchool_13) hS0 (fun v21 locs21 hr21 hS21 => ?_)
  refine q_goIp (q_runV (As := [.long v21]) (rest := []) E hC0 hS21 (m_X12_isWord l X Γ H0 hC0 h0 g0 v21 (a1 := v21.toInt) rfl ca gca uc) cw_X12_isWord cl_RX12_149 g0 ⟨rfl, rfl⟩ rfl hl.1 rfl (Nat.zero_le _) (by decide) dX12_isSchool_16) hS21 (fun v22 locs22 hr22 hS22 => ?_)
  rcases hr22 with rfl | rfl
  · exact ret 0 H0 locs22 _ _ dX12_isSchool_19 (Or.inl rfl) ⟨rfl, Or.inl rfl⟩ hC0 hS22
  · exact ret 1 H0 locs22 _ _ dX12_isSchool_19 (Or.inr rfl) ⟨rfl, Or.inr rfl⟩ hC0 hS22
set_option maxRecDepth 100000 in
set_option maxHeartbeats 4000000 in
theorem m_X12_isHands (l : Launch) (X : xW) (Γ : Nat → Option Nat) (H0 : Heap) (hC0 : Conf X Γ H0) (h0 : Nat) (g0 : Γ h0 = some 11) (ca : Nat) (gca : Γ ca = some 64) (uc : ∀ a, Γ a = some 64 → a = ca) : Ctr l X Γ yX12_isHands cX12_isHands 1 (some .boolean) 1 [.ref h0] H0 (QI X Γ (fun v H1 => H1 = H0 ∧ (v = 0 ∨ v = 1))) := by
  refine q_enterZ (own := "SnowFortsModel") (by decide) rfl (Nat.le_of_ble_eq_true rfl) ?_
  intro p e s m args below meth c ls Qz E hl ret hS0
  have hx := E.1; have hb := E.2.1
  have hl : lv_has ls 1 [(0, .ref h0)] := hl
  refine lv_aload_n hx hb dX12_isHands_0 rfl (lv_at hl 0 rfl) ?_
  refine lv_bipush (v := 104) hx hb dX12_isHands_1 rfl ?_
  refine lv_bipush (v := 97) hx hb dX12_isHands_3 rfl ?_
  refine lv_bipush (v := 110) hx hb dX12_isHands_5 rfl ?_
  refine lv_bipush (v := 100) hx hb dX12_isHands_7 rfl ?_
  refine lv_bipush (v := 115) hx hb dX12_isHands_9 rfl ?_
  refine lv_iconst (v := 0) hx hb dX12_isHands_11 rfl ?_
  refine q_goJp (q_runS (As := [.int 104, .int 97, .int 110, .int 100, .int 115, .int 0]) (rest := [.ref h0]) E hS0 (m_X12_spelled l X Γ H0 hC0 104 (a0 := 104) (by decide) 97 (a1 := 97) (by decide) 110 (a2 := 110) (by decide) 100 (a3 := 100) (by decide) 115 (a4 := 115) (by decide) 0 (a5 := 0) (by decide)) cw_X12_spelled cl_RX12_145 rfl hl.1 rfl (show _ ≤ _ from by simp [Value.category]) (by decide) dX12_isHands_12) hS0 (fun v21 locs21 hr21 hS21 => ?_)
  refine q_goIp (q_runV (As := [.long v21]) (rest := []) E hC0 hS21 (m_X12_isWord l X Γ H0 hC0 h0 g0 v21 (a1 := v21.toInt) rfl ca gca uc) cw_X12_isWord cl_RX12_149 g0 ⟨rfl, rfl⟩ rfl hl.1 rfl (Nat.zero_le _) (by decide) dX12_isHands_15) hS21 (fun v22 locs22 hr22 hS22 => ?_)
  rcases hr22 with rfl | rfl
  · exact ret 0 H0 locs22 _ _ dX12_isHands_18 (Or.inl rfl) ⟨rfl, Or.inl rfl⟩ hC0 hS22
  · exact ret 1 H0 locs22 _ _ dX12_isHands_18 (Or.inr rfl) ⟨rfl, Or.inr rfl⟩ hC0 hS22
set_option maxRecDepth 100000 in
set_option maxHeartbeats 4000000 in
theorem m_X12_isSnow (l : Launch) (X : xW) (Γ : Nat → Option Nat) (H0 : Heap) (hC0 : Conf X Γ H0) (h0 : Nat) (g0 : Γ h0 = some 11) (ca : Nat) (gca : Γ ca = some 64) (uc : ∀ a, Γ a = some 64 → a = ca) : Ctr l X Γ yX12_isSnow cX12_isSnow 1 (some .boolean) 1 [.ref h0] H0 (QI X Γ (fun v H1 => H1 = H0 ∧ (v = 0 ∨ v = 1))) := by
  refine q_enterZ (own := "SnowFortsModel") (by decide) rfl (Nat.le_of_ble_eq_true rfl) ?_
  intro p e s m args below meth c ls Qz E hl ret hS0
  have hx := E.1; have hb := E.2.1
  have hl : lv_has ls 1 [(0, .ref h0)] := hl
  refine lv_aload_n hx hb dX12_isSnow_0 rfl (lv_at hl 0 rfl) ?_
  refine lv_bipush (v := 115) hx hb dX12_isSnow_1 rfl ?_
  refine lv_bipush (v := 110) hx hb dX12_isSnow_3 rfl ?_
  refine lv_bipush (v := 111) hx hb dX12_isSnow_5 rfl ?_
  refine lv_bipush (v := 119) hx hb dX12_isSnow_7 rfl ?_
  refine lv_iconst (v := 0) hx hb dX12_isSnow_9 rfl ?_
  refine lv_iconst (v := 0) hx hb dX12_isSnow_10 rfl ?_
  refine q_goJp (q_runS (As := [.int 115, .int 110, .int 111, .int 119, .int 0, .int 0]) (rest := [.ref h0]) E hS0 (m_X12_spelled l X Γ H0 hC0 115 (a0 := 115) (by decide) 110 (a1 := 110) (by decide) 111 (a2 := 111) (by decide) 119 (a3 := 119) (by decide) 0 (a4 := 0) (by decide) 0 (a5 := 0) (by decide)) cw_X12_spelled cl_RX12_145 rfl hl.1 rfl (show _ ≤ _ from by simp [Value.category]) (by decide) dX12_isSnow_11) hS0 (fun v21 locs21 hr21 hS21 => ?_)
  refine q_goIp (q_runV (As := [.long v21]) (rest := []) E hC0 hS21 (m_X12_isWord l X Γ H0 hC0 h0 g0 v21 (a1 := v21.toInt) rfl ca gca uc) cw_X12_isWord cl_RX12_149 g0 ⟨rfl, rfl⟩ rfl hl.1 rfl (Nat.zero_le _) (by decide) dX12_isSnow_14) hS21 (fun v22 locs22 hr22 hS22 => ?_)
  rcases hr22 with rfl | rfl
  · exact ret 0 H0 locs22 _ _ dX12_isSnow_17 (Or.inl rfl) ⟨rfl, Or.inl rfl⟩ hC0 hS22
  · exact ret 1 H0 locs22 _ _ dX12_isSnow_17 (Or.inr rfl) ⟨rfl, Or.inr rfl⟩ hC0 hS22
set_option maxRecDepth 100000 in
set_option maxHeartbeats 4000000 in
theorem m_X12_isDeep (l : Launch) (X : xW) (Γ : Nat → Option Nat) (H0 : Heap) (hC0 : Conf X Γ H0) (h0 : Nat) (g0 : Γ h0 = some 11) (ca : Nat) (gca : Γ ca = some 64) (uc : ∀ a, Γ a = some 64 → a = ca) : Ctr l X Γ yX12_isDeep cX12_isDeep 1 (some .boolean) 1 [.ref h0] H0 (QI X Γ (fun v H1 => H1 = H0 ∧ (v = 0 ∨ v = 1))) := by
  refine q_enterZ (own := "SnowFortsModel") (by decide) rfl (Nat.le_of_ble_eq_true rfl) ?_
  intro p e s m args below meth c ls Qz E hl ret hS0
  have hx := E.1; have hb := E.2.1
  have hl : lv_has ls 1 [(0, .ref h0)] := hl
  refine lv_aload_n hx hb dX12_isDeep_0 rfl (lv_at hl 0 rfl) ?_
  refine lv_bipush (v := 100) hx hb dX12_isDeep_1 rfl ?_
  refine lv_bipush (v := 101) hx hb dX12_isDeep_3 rfl ?_
  refine lv_bipush (v := 101) hx hb dX12_isDeep_5 rfl ?_
  refine lv_bipush (v := 112) hx hb dX12_isDeep_7 rfl ?_
  refine lv_iconst (v := 0) hx hb dX12_isDeep_9 rfl ?_
  refine lv_iconst (v := 0) hx hb dX12_isDeep_10 rfl ?_
  refine q_goJp (q_runS (As := [.int 100, .int 101, .int 101, .int 112, .int 0, .int 0]) (rest := [.ref h0]) E hS0 (m_X12_spelled l X Γ H0 hC0 100 (a0 := 100) (by decide) 101 (a1 := 101) (by decide) 101 (a2 := 101) (by decide) 112 (a3 := 112) (by decide) 0 (a4 := 0) (by decide) 0 (a5 := 0) (by decide)) cw_X12_spelled cl_RX12_145 rfl hl.1 rfl (show _ ≤ _ from by simp [Value.category]) (by decide) dX12_isDeep_11) hS0 (fun v21 locs21 hr21 hS21 => ?_)
  refine q_goIp (q_runV (As := [.long v21]) (rest := []) E hC0 hS21 (m_X12_isWord l X Γ H0 hC0 h0 g0 v21 (a1 := v21.toInt) rfl ca gca uc) cw_X12_isWord cl_RX12_149 g0 ⟨rfl, rfl⟩ rfl hl.1 rfl (Nat.zero_le _) (by decide) dX12_isDeep_14) hS21 (fun v22 locs22 hr22 hS22 => ?_)
  rcases hr22 with rfl | rfl
  · exact ret 0 H0 locs22 _ _ dX12_isDeep_17 (Or.inl rfl) ⟨rfl, Or.inl rfl⟩ hC0 hS22
  · exact ret 1 H0 locs22 _ _ dX12_isDeep_17 (Or.inr rfl) ⟨rfl, Or.inr rfl⟩ hC0 hS22
set_option maxRecDepth 100000 in
set_option maxHeartbeats 4000000 in
theorem m_X12_isTall (l : Launch) (X : xW) (Γ : Nat → Option Nat) (H0 : Heap) (hC0 : Conf X Γ H0) (h0 : Nat) (g0 : Γ h0 = some 11) (ca : Nat) (gca : Γ ca = some 64) (uc : ∀ a, Γ a = some 64 → a = ca) : Ctr l X Γ yX12_isTall cX12_isTall 1 (some .boolean) 1 [.ref h0] H0 (QI X Γ (fun v H1 => H1 = H0 ∧ (v = 0 ∨ v = 1))) := by
  refine q_enterZ (own := "SnowFortsModel") (by decide) rfl (Nat.le_of_ble_eq_true rfl) ?_
  intro p e s m args below meth c ls Qz E hl ret hS0
  have hx := E.1; have hb := E.2.1
  have hl : lv_has ls 1 [(0, .ref h0)] := hl
  refine lv_aload_n hx hb dX12_isTall_0 rfl (lv_at hl 0 rfl) ?_
  refine lv_bipush (v := 116) hx hb dX12_isTall_1 rfl ?_
  refine lv_bipush (v := 97) hx hb dX12_isTall_3 rfl ?_
  refine lv_bipush (v := 108) hx hb dX12_isTall_5 rfl ?_
  refine lv_bipush (v := 108) hx hb dX12_isTall_7 rfl ?_
  refine lv_iconst (v := 0) hx hb dX12_isTall_9 rfl ?_
  refine lv_iconst (v := 0) hx hb dX12_isTall_10 rfl ?_
  refine q_goJp (q_runS (As := [.int 116, .int 97, .int 108, .int 108, .int 0, .int 0]) (rest := [.ref h0]) E hS0 (m_X12_spelled l X Γ H0 hC0 116 (a0 := 116) (by decide) 97 (a1 := 97) (by decide) 108 (a2 := 108) (by decide) 108 (a3 := 108) (by decide) 0 (a4 := 0) (by decide) 0 (a5 := 0) (by decide)) cw_X12_spelled cl_RX12_145 rfl hl.1 rfl (show _ ≤ _ from by simp [Value.category]) (by decide) dX12_isTall_11) hS0 (fun v21 locs21 hr21 hS21 => ?_)
  refine q_goIp (q_runV (As := [.long v21]) (rest := []) E hC0 hS21 (m_X12_isWord l X Γ H0 hC0 h0 g0 v21 (a1 := v21.toInt) rfl ca gca uc) cw_X12_isWord cl_RX12_149 g0 ⟨rfl, rfl⟩ rfl hl.1 rfl (Nat.zero_le _) (by decide) dX12_isTall_14) hS21 (fun v22 locs22 hr22 hS22 => ?_)
  rcases hr22 with rfl | rfl
  · exact ret 0 H0 locs22 _ _ dX12_isTall_17 (Or.inl rfl) ⟨rfl, Or.inl rfl⟩ hC0 hS22
  · exact ret 1 H0 locs22 _ _ dX12_isTall_17 (Or.inr rfl) ⟨rfl, Or.inr rfl⟩ hC0 hS22
set_option maxRecDepth 100000 in
set_option maxHeartbeats 4000000 in
theorem m_X12_isSun (l : Launch) (X : xW) (Γ : Nat → Option Nat) (H0 : Heap) (hC0 : Conf X Γ H0) (h0 : Nat) (g0 : Γ h0 = some 11) (ca : Nat) (gca : Γ ca = some 64) (uc : ∀ a, Γ a = some 64 → a = ca) : Ctr l X Γ yX12_isSun cX12_isSun 1 (some .boolean) 1 [.ref h0] H0 (QI X Γ (fun v H1 => H1 = H0 ∧ (v = 0 ∨ v = 1))) := by
  refine q_enterZ (own := "SnowFortsModel") (by decide) rfl (Nat.le_of_ble_eq_true rfl) ?_
  intro p e s m args below meth c ls Qz E hl ret hS0
  have hx := E.1; have hb := E.2.1
  have hl : lv_has ls 1 [(0, .ref h0)] := hl
  refine lv_aload_n hx hb dX12_isSun_0 rfl (lv_at hl 0 rfl) ?_
  refine lv_bipush (v := 115) hx hb dX12_isSun_1 rfl ?_
  refine lv_bipush (v := 117) hx hb dX12_isSun_3 rfl ?_
  refine lv_bipush (v := 110) hx hb dX12_isSun_5 rfl ?_
  refine lv_iconst (v := 0) hx hb dX12_isSun_7 rfl ?_
  refine lv_iconst (v := 0) hx hb dX12_isSun_8 rfl ?_
  refine lv_iconst (v := 0) hx hb dX12_isSun_9 rfl ?_
  refine q_goJp (q_runS (As := [.int 115, .int 117, .int 110, .int 0, .int 0, .int 0]) (rest := [.ref h0]) E hS0 (m_X12_spelled l X Γ H0 hC0 115 (a0 := 115) (by decide) 117 (a1 := 117) (by decide) 110 (a2 := 110) (by decide) 0 (a3 := 0) (by decide) 0 (a4 := 0) (by decide) 0 (a5 := 0) (by decide)) cw_X12_spelled cl_RX12_145 rfl hl.1 rfl (show _ ≤ _ from by simp [Value.category]) (by decide) dX12_isSun_10) hS0 (fun v21 locs21 hr21 hS21 => ?_)
  refine q_goIp (q_runV (As := [.long v21]) (rest := []) E hC0 hS21 (m_X12_isWord l X Γ H0 hC0 h0 g0 v21 (a1 := v21.toInt) rfl ca gca uc) cw_X12_isWord cl_RX12_149 g0 ⟨rfl, rfl⟩ rfl hl.1 rfl (Nat.zero_le _) (by decide) dX12_isSun_13) hS21 (fun v22 locs22 hr22 hS22 => ?_)
  rcases hr22 with rfl | rfl
  · exact ret 0 H0 locs22 _ _ dX12_isSun_16 (Or.inl rfl) ⟨rfl, Or.inl rfl⟩ hC0 hS22
  · exact ret 1 H0 locs22 _ _ dX12_isSun_16 (Or.inr rfl) ⟨rfl, Or.inr rfl⟩ hC0 hS22
set_option maxRecDepth 100000 in
set_option maxHeartbeats 4000000 in
theorem m_X12_isBy (l : Launch) (X : xW) (Γ : Nat → Option Nat) (H0 : Heap) (hC0 : Conf X Γ H0) (h0 : Nat) (g0 : Γ h0 = some 11) (ca : Nat) (gca : Γ ca = some 64) (uc : ∀ a, Γ a = some 64 → a = ca) : Ctr l X Γ yX12_isBy cX12_isBy 1 (some .boolean) 1 [.ref h0] H0 (QI X Γ (fun v H1 => H1 = H0 ∧ (v = 0 ∨ v = 1))) := by
  refine q_enterZ (own := "SnowFortsModel") (by decide) rfl (Nat.le_of_ble_eq_true rfl) ?_
  intro p e s m args below meth c ls Qz E hl ret hS0
  have hx := E.1; have hb := E.2.1
  have hl : lv_has ls 1 [(0, .ref h0)] := hl
  refine lv_aload_n hx hb dX12_isBy_0 rfl (lv_at hl 0 rfl) ?_
  refine lv_bipush (v := 98) hx hb dX12_isBy_1 rfl ?_
  refine lv_bipush (v := 121) hx hb dX12_isBy_3 rfl ?_
  refine lv_iconst (v := 0) hx hb dX12_isBy_5 rfl ?_
  refine lv_iconst (v := 0) hx hb dX12_isBy_6 rfl ?_
  refine lv_iconst (v := 0) hx hb dX12_isBy_7 rfl ?_
  refine lv_iconst (v := 0) hx hb dX12_isBy_8 rfl ?_
  refine q_goJp (q_runS (As := [.int 98, .int 121, .int 0, .int 0, .int 0, .int 0]) (rest := [.ref h0]) E hS0 (m_X12_spelled l X Γ H0 hC0 98 (a0 := 98) (by decide) 121 (a1 := 121) (by decide) 0 (a2 := 0) (by decide) 0 (a3 := 0) (by decide) 0 (a4 := 0) (by decide) 0 (a5 := 0) (by decide)) cw_X12_spelled cl_RX12_145 rfl hl.1 rfl (show _ ≤ _ from by simp [Value.category]) (by decide) dX12_isBy_9) hS0 (fun v21 locs21 hr21 hS21 => ?_)
  refine q_goIp (q_runV (As := [.long v21]) (rest := []) E hC0 hS21 (m_X12_isWord l X Γ H0 hC0 h0 g0 v21 (a1 := v21.toInt) rfl ca gca uc) cw_X12_isWord cl_RX12_149 g0 ⟨rfl, rfl⟩ rfl hl.1 rfl (Nat.zero_le _) (by decide) dX12_isBy_12) hS21 (fun v22 locs22 hr22 hS22 => ?_)
  rcases hr22 with rfl | rfl
  · exact ret 0 H0 locs22 _ _ dX12_isBy_15 (Or.inl rfl) ⟨rfl, Or.inl rfl⟩ hC0 hS22
  · exact ret 1 H0 locs22 _ _ dX12_isBy_15 (Or.inr rfl) ⟨rfl, Or.inr rfl⟩ hC0 hS22
set_option maxRecDepth 100000 in
set_option maxHeartbeats 4000000 in
theorem m_X12_isNo (l : Launch) (X : xW) (Γ : Nat → Option Nat) (H0 : Heap) (hC0 : Conf X Γ H0) (h0 : Nat) (g0 : Γ h0 = some 11) (ca : Nat) (gca : Γ ca = some 64) (uc : ∀ a, Γ a = some 64 → a = ca) : Ctr l X Γ yX12_isNo cX12_isNo 1 (some .boolean) 1 [.ref h0] H0 (QI X Γ (fun v H1 => H1 = H0 ∧ (v = 0 ∨ v = 1))) := by
  refine q_enterZ (own := "SnowFortsModel") (by decide) rfl (Nat.le_of_ble_eq_true rfl) ?_
  intro p e s m args below meth c ls Qz E hl ret hS0
  have hx := E.1; have hb := E.2.1
  have hl : lv_has ls 1 [(0, .ref h0)] := hl
  refine lv_aload_n hx hb dX12_isNo_0 rfl (lv_at hl 0 rfl) ?_
  refine lv_bipush (v := 110) hx hb dX12_isNo_1 rfl ?_
  refine lv_bipush (v := 111) hx hb dX12_isNo_3 rfl ?_
  refine lv_iconst (v := 0) hx hb dX12_isNo_5 rfl ?_
  refine lv_iconst (v := 0) hx hb dX12_isNo_6 rfl ?_
  refine lv_iconst (v := 0) hx hb dX12_isNo_7 rfl ?_
  refine lv_iconst (v := 0) hx hb dX12_isNo_8 rfl ?_
  refine q_goJp (q_runS (As := [.int 110, .int 111, .int 0, .int 0, .int 0, .int 0]) (rest := [.ref h0]) E hS0 (m_X12_spelled l X Γ H0 hC0 110 (a0 := 110) (by decide) 111 (a1 := 111) (by decide) 0 (a2 := 0) (by decide) 0 (a3 := 0) (by decide) 0 (a4 := 0) (by decide) 0 (a5 := 0) (by decide)) cw_X12_spelled cl_RX12_145 rfl hl.1 rfl (show _ ≤ _ from by simp [Value.category]) (by decide) dX12_isNo_9) hS0 (fun v21 locs21 hr21 hS21 => ?_)
  refine q_goIp (q_runV (As := [.long v21]) (rest := []) E hC0 hS21 (m_X12_isWord l X Γ H0 hC0 h0 g0 v21 (a1 := v21.toInt) rfl ca gca uc) cw_X12_isWord cl_RX12_149 g0 ⟨rfl, rfl⟩ rfl hl.1 rfl (Nat.zero_le _) (by decide) dX12_isNo_12) hS21 (fun v22 locs22 hr22 hS22 => ?_)
  rcases hr22 with rfl | rfl
  · exact ret 0 H0 locs22 _ _ dX12_isNo_15 (Or.inl rfl) ⟨rfl, Or.inl rfl⟩ hC0 hS22
  · exact ret 1 H0 locs22 _ _ dX12_isNo_15 (Or.inr rfl) ⟨rfl, Or.inr rfl⟩ hC0 hS22
set_option maxRecDepth 100000 in
set_option maxHeartbeats 4000000 in
theorem m_X12_isAbove (l : Launch) (X : xW) (Γ : Nat → Option Nat) (H0 : Heap) (hC0 : Conf X Γ H0) (h0 : Nat) (g0 : Γ h0 = some 11) (ca : Nat) (gca : Γ ca = some 64) (uc : ∀ a, Γ a = some 64 → a = ca) : Ctr l X Γ yX12_isAbove cX12_isAbove 1 (some .boolean) 1 [.ref h0] H0 (QI X Γ (fun v H1 => H1 = H0 ∧ (v = 0 ∨ v = 1))) := by
  refine q_enterZ (own := "SnowFortsModel") (by decide) rfl (Nat.le_of_ble_eq_true rfl) ?_
  intro p e s m args below meth c ls Qz E hl ret hS0
  have hx := E.1; have hb := E.2.1
  have hl : lv_has ls 1 [(0, .ref h0)] := hl
  refine lv_aload_n hx hb dX12_isAbove_0 rfl (lv_at hl 0 rfl) ?_
  refine lv_bipush (v := 97) hx hb dX12_isAbove_1 rfl ?_
  refine lv_bipush (v := 98) hx hb dX12_isAbove_3 rfl ?_
  refine lv_bipush (v := 111) hx hb dX12_isAbove_5 rfl ?_
  refine lv_bipush (v := 118) hx hb dX12_isAbove_7 rfl ?_
  refine lv_bipush (v := 101) hx hb dX12_isAbove_9 rfl ?_
  refine lv_iconst (v := 0) hx hb dX12_isAbove_11 rfl ?_
  refine q_goJp (q_runS (As := [.int 97, .int 98, .int 111, .int 118, .int 101, .int 0]) (rest := [.ref h0]) E hS0 (m_X12_spelled l X Γ H0 hC0 97 (a0 := 97) (by decide) 98 (a1 := 98) (by decide) 111 (a2 := 111) (by decide) 118 (a3 := 118) (by decide) 101 (a4 := 101) (by decide) 0 (a5 := 0) (by decide)) cw_X12_spelled cl_RX12_145 rfl hl.1 rfl (show _ ≤ _ from by simp [Value.category]) (by decide) dX12_isAbove_12) hS0 (fun v21 locs21 hr21 hS21 => ?_)
  refine q_goIp (q_runV (As := [.long v21]) (rest := []) E hC0 hS21 (m_X12_isWord l X Γ H0 hC0 h0 g0 v21 (a1 := v21.toInt) rfl ca gca uc) cw_X12_isWord cl_RX12_149 g0 ⟨rfl, rfl⟩ rfl hl.1 rfl (Nat.zero_le _) (by decide) dX12_isAbove_15) hS21 (fun v22 locs22 hr22 hS22 => ?_)
  rcases hr22 with rfl | rfl
  · exact ret 0 H0 locs22 _ _ dX12_isAbove_18 (Or.inl rfl) ⟨rfl, Or.inl rfl⟩ hC0 hS22
  · exact ret 1 H0 locs22 _ _ dX12_isAbove_18 (Or.inr rfl) ⟨rfl, Or.inr rfl⟩ hC0 hS22
set_option maxRecDepth 100000 in
set_option maxHeartbeats 4000000 in
theorem m_X12_isBehind (l : Launch) (X : xW) (Γ : Nat → Option Nat) (H0 : Heap) (hC0 : Conf X Γ H0) (h0 : Nat) (g0 : Γ h0 = some 11) (ca : Nat) (gca : Γ ca = some 64) (uc : ∀ a, Γ a = some 64 → a = ca) : Ctr l X Γ yX12_isBehind cX12_isBehind 1 (some .boolean) 1 [.ref h0] H0 (QI X Γ (fun v H1 => H1 = H0 ∧ (v = 0 ∨ v = 1))) := by
  refine q_enterZ (own := "SnowFortsModel") (by decide) rfl (Nat.le_of_ble_eq_true rfl) ?_
  intro p e s m args below meth c ls Qz E hl ret hS0
  have hx := E.1; have hb := E.2.1
  have hl : lv_has ls 1 [(0, .ref h0)] := hl
  refine lv_aload_n hx hb dX12_isBehind_0 rfl (lv_at hl 0 rfl) ?_
  refine lv_bipush (v := 98) hx hb dX12_isBehind_1 rfl ?_
  refine lv_bipush (v := 101) hx hb dX12_isBehind_3 rfl ?_
  refine lv_bipush (v := 104) hx hb dX12_isBehind_5 rfl ?_
  refine lv_bipush (v := 105) hx hb dX12_isBehind_7 rfl ?_
  refine lv_bipush (v := 110) hx hb dX12_isBehind_9 rfl ?_
  refine lv_bipush (v := 100) hx hb dX12_isBehind_11 rfl ?_
  refine q_goJp (q_runS (As := [.int 98, .int 101, .int 104, .int 105, .int 110, .int 100]) (rest := [.ref h0]) E hS0 (m_X12_spelled l X Γ H0 hC0 98 (a0 := 98) (by decide) 101 (a1 := 101) (by decide) 104 (a2 := 104) (by decide) 105 (a3 := 105) (by decide) 110 (a4 := 110) (by decide) 100 (a5 := 100) (by decide)) cw_X12_spelled cl_RX12_145 rfl hl.1 rfl (show _ ≤ _ from by simp [Value.category]) (by decide) dX12_isBehind_13) hS0 (fun v21 locs21 hr21 hS21 => ?_)
  refine q_goIp (q_runV (As := [.long v21]) (rest := []) E hC0 hS21 (m_X12_isWord l X Γ H0 hC0 h0 g0 v21 (a1 := v21.toInt) rfl ca gca uc) cw_X12_isWord cl_RX12_149 g0 ⟨rfl, rfl⟩ rfl hl.1 rfl (Nat.zero_le _) (by decide) dX12_isBehind_16) hS21 (fun v22 locs22 hr22 hS22 => ?_)
  rcases hr22 with rfl | rfl
  · exact ret 0 H0 locs22 _ _ dX12_isBehind_19 (Or.inl rfl) ⟨rfl, Or.inl rfl⟩ hC0 hS22
  · exact ret 1 H0 locs22 _ _ dX12_isBehind_19 (Or.inr rfl) ⟨rfl, Or.inr rfl⟩ hC0 hS22
set_option maxRecDepth 100000 in
set_option maxHeartbeats 4000000 in
theorem m_X12_isTo (l : Launch) (X : xW) (Γ : Nat → Option Nat) (H0 : Heap) (hC0 : Conf X Γ H0) (h0 : Nat) (g0 : Γ h0 = some 11) (ca : Nat) (gca : Γ ca = some 64) (uc : ∀ a, Γ a = some 64 → a = ca) : Ctr l X Γ yX12_isTo cX12_isTo 1 (some .boolean) 1 [.ref h0] H0 (QI X Γ (fun v H1 => H1 = H0 ∧ (v = 0 ∨ v = 1))) := by
  refine q_enterZ (own := "SnowFortsModel") (by decide) rfl (Nat.le_of_ble_eq_true rfl) ?_
  intro p e s m args below meth c ls Qz E hl ret hS0
  have hx := E.1; have hb := E.2.1
  have hl : lv_has ls 1 [(0, .ref h0)] := hl
  refine lv_aload_n hx hb dX12_isTo_0 rfl (lv_at hl 0 rfl) ?_
  refine lv_bipush (v := 116) hx hb dX12_isTo_1 rfl ?_
  refine lv_bipush (v := 111) hx hb dX12_isTo_3 rfl ?_
  refine lv_iconst (v := 0) hx hb dX12_isTo_5 rfl ?_
  refine lv_iconst (v := 0) hx hb dX12_isTo_6 rfl ?_
  refine lv_iconst (v := 0) hx hb dX12_isTo_7 rfl ?_
  refine lv_iconst (v := 0) hx hb dX12_isTo_8 rfl ?_
  refine q_goJp (q_runS (As := [.int 116, .int 111, .int 0, .int 0, .int 0, .int 0]) (rest := [.ref h0]) E hS0 (m_X12_spelled l X Γ H0 hC0 116 (a0 := 116) (by decide) 111 (a1 := 111) (by decide) 0 (a2 := 0) (by decide) 0 (a3 := 0) (by decide) 0 (a4 := 0) (by decide) 0 (a5 := 0) (by decide)) cw_X12_spelled cl_RX12_145 rfl hl.1 rfl (show _ ≤ _ from by simp [Value.category]) (by decide) dX12_isTo_9) hS0 (fun v21 locs21 hr21 hS21 => ?_)
  refine q_goIp (q_runV (As := [.long v21]) (rest := []) E hC0 hS21 (m_X12_isWord l X Γ H0 hC0 h0 g0 v21 (a1 := v21.toInt) rfl ca gca uc) cw_X12_isWord cl_RX12_149 g0 ⟨rfl, rfl⟩ rfl hl.1 rfl (Nat.zero_le _) (by decide) dX12_isTo_12) hS21 (fun v22 locs22 hr22 hS22 => ?_)
  rcases hr22 with rfl | rfl
  · exact ret 0 H0 locs22 _ _ dX12_isTo_15 (Or.inl rfl) ⟨rfl, Or.inl rfl⟩ hC0 hS22
  · exact ret 1 H0 locs22 _ _ dX12_isTo_15 (Or.inr rfl) ⟨rfl, Or.inr rfl⟩ hC0 hS22
set_option maxRecDepth 100000 in
set_option maxHeartbeats 4000000 in
theorem m_X12_isFrom (l : Launch) (X : xW) (Γ : Nat → Option Nat) (H0 : Heap) (hC0 : Conf X Γ H0) (h0 : Nat) (g0 : Γ h0 = some 11) (ca : Nat) (gca : Γ ca = some 64) (uc : ∀ a, Γ a = some 64 → a = ca) : Ctr l X Γ yX12_isFrom cX12_isFrom 1 (some .boolean) 1 [.ref h0] H0 (QI X Γ (fun v H1 => H1 = H0 ∧ (v = 0 ∨ v = 1))) := by
  refine q_enterZ (own := "SnowFortsModel") (by decide) rfl (Nat.le_of_ble_eq_true rfl) ?_
  intro p e s m args below meth c ls Qz E hl ret hS0
  have hx := E.1; have hb := E.2.1
  have hl : lv_has ls 1 [(0, .ref h0)] := hl
  refine lv_aload_n hx hb dX12_isFrom_0 rfl (lv_at hl 0 rfl) ?_
  refine lv_bipush (v := 102) hx hb dX12_isFrom_1 rfl ?_
  refine lv_bipush (v := 114) hx hb dX12_isFrom_3 rfl ?_
  refine lv_bipush (v := 111) hx hb dX12_isFrom_5 rfl ?_
  refine lv_bipush (v := 109) hx hb dX12_isFrom_7 rfl ?_
  refine lv_iconst (v := 0) hx hb dX12_isFrom_9 rfl ?_
  refine lv_iconst (v := 0) hx hb dX12_isFrom_10 rfl ?_
  refine q_goJp (q_runS (As := [.int 102, .int 114, .int 111, .int 109, .int 0, .int 0]) (rest := [.ref h0]) E hS0 (m_X12_spelled l X Γ H0 hC0 102 (a0 := 102) (by decide) 114 (a1 := 114) (by decide) 111 (a2 := 111) (by decide) 109 (a3 := 109) (by decide) 0 (a4 := 0) (by decide) 0 (a5 := 0) (by decide)) cw_X12_spelled cl_RX12_145 rfl hl.1 rfl (show _ ≤ _ from by simp [Value.category]) (by decide) dX12_isFrom_11) hS0 (fun v21 locs21 hr21 hS21 => ?_)
  refine q_goIp (q_runV (As := [.long v21]) (rest := []) E hC0 hS21 (m_X12_isWord l X Γ H0 hC0 h0 g0 v21 (a1 := v21.toInt) rfl ca gca uc) cw_X12_isWord cl_RX12_149 g0 ⟨rfl, rfl⟩ rfl hl.1 rfl (Nat.zero_le _) (by decide) dX12_isFrom_14) hS21 (fun v22 locs22 hr22 hS22 => ?_)
  rcases hr22 with rfl | rfl
  · exact ret 0 H0 locs22 _ _ dX12_isFrom_17 (Or.inl rfl) ⟨rfl, Or.inl rfl⟩ hC0 hS22
  · exact ret 1 H0 locs22 _ _ dX12_isFrom_17 (Or.inr rfl) ⟨rfl, Or.inr rfl⟩ hC0 hS22
set_option maxRecDepth 100000 in
set_option maxHeartbeats 4000000 in
theorem m_X12_isBuild (l : Launch) (X : xW) (Γ : Nat → Option Nat) (H0 : Heap) (hC0 : Conf X Γ H0) (h0 : Nat) (g0 : Γ h0 = some 11) (ca : Nat) (gca : Γ ca = some 64) (uc : ∀ a, Γ a = some 64 → a = ca) : Ctr l X Γ yX12_isBuild cX12_isBuild 1 (some .boolean) 1 [.ref h0] H0 (QI X Γ (fun v H1 => H1 = H0 ∧ (v = 0 ∨ v = 1))) := by
  refine q_enterZ (own := "SnowFortsModel") (by decide) rfl (Nat.le_of_ble_eq_true rfl) ?_
  intro p e s m args below meth c ls Qz E hl ret hS0
  have hx := E.1; have hb := E.2.1
  have hl : lv_has ls 1 [(0, .ref h0)] := hl
  refine lv_aload_n hx hb dX12_isBuild_0 rfl (lv_at hl 0 rfl) ?_
  refine lv_bipush (v := 98) hx hb dX12_isBuild_1 rfl ?_
  refine lv_bipush (v := 117) hx hb dX12_isBuild_3 rfl ?_
  refine lv_bipush (v := 105) hx hb dX12_isBuild_5 rfl ?_
  refine lv_bipush (v := 108) hx hb dX12_isBuild_7 rfl ?_
  refine lv_bipush (v := 100) hx hb dX12_isBuild_9 rfl ?_
  refine lv_iconst (v := 0) hx hb dX12_isBuild_11 rfl ?_
  refine q_goJp (q_runS (As := [.int 98, .int 117, .int 105, .int 108, .int 100, .int 0]) (rest := [.ref h0]) E hS0 (m_X12_spelled l X Γ H0 hC0 98 (a0 := 98) (by decide) 117 (a1 := 117) (by decide) 105 (a2 := 105) (by decide) 108 (a3 := 108) (by decide) 100 (a4 := 100) (by decide) 0 (a5 := 0) (by decide)) cw_X12_spelled cl_RX12_145 rfl hl.1 rfl (show _ ≤ _ from by simp [Value.category]) (by decide) dX12_isBuild_12) hS0 (fun v21 locs21 hr21 hS21 => ?_)
  refine q_goIp (q_runV (As := [.long v21]) (rest := []) E hC0 hS21 (m_X12_isWord l X Γ H0 hC0 h0 g0 v21 (a1 := v21.toInt) rfl ca gca uc) cw_X12_isWord cl_RX12_149 g0 ⟨rfl, rfl⟩ rfl hl.1 rfl (Nat.zero_le _) (by decide) dX12_isBuild_15) hS21 (fun v22 locs22 hr22 hS22 => ?_)
  rcases hr22 with rfl | rfl
  · exact ret 0 H0 locs22 _ _ dX12_isBuild_18 (Or.inl rfl) ⟨rfl, Or.inl rfl⟩ hC0 hS22
  · exact ret 1 H0 locs22 _ _ dX12_isBuild_18 (Or.inr rfl) ⟨rfl, Or.inr rfl⟩ hC0 hS22
set_option maxRecDepth 100000 in
set_option maxHeartbeats 4000000 in
theorem m_X12_isIce (l : Launch) (X : xW) (Γ : Nat → Option Nat) (H0 : Heap) (hC0 : Conf X Γ H0) (h0 : Nat) (g0 : Γ h0 = some 11) (ca : Nat) (gca : Γ ca = some 64) (uc : ∀ a, Γ a = some 64 → a = ca) : Ctr l X Γ yX12_isIce cX12_isIce 1 (some .boolean) 1 [.ref h0] H0 (QI X Γ (fun v H1 => H1 = H0 ∧ (v = 0 ∨ v = 1))) := by
  refine q_enterZ (own := "SnowFortsModel") (by decide) rfl (Nat.le_of_ble_eq_true rfl) ?_
  intro p e s m args below meth c ls Qz E hl ret hS0
  have hx := E.1; have hb := E.2.1
  have hl : lv_has ls 1 [(0, .ref h0)] := hl
  refine lv_aload_n hx hb dX12_isIce_0 rfl (lv_at hl 0 rfl) ?_
  refine lv_bipush (v := 105) hx hb dX12_isIce_1 rfl ?_
  refine lv_bipush (v := 99) hx hb dX12_isIce_3 rfl ?_
  refine lv_bipush (v := 101) hx hb dX12_isIce_5 rfl ?_
  refine lv_iconst (v := 0) hx hb dX12_isIce_7 rfl ?_
  refine lv_iconst (v := 0) hx hb dX12_isIce_8 rfl ?_
  refine lv_iconst (v := 0) hx hb dX12_isIce_9 rfl ?_
  refine q_goJp (q_runS (As := [.int 105, .int 99, .int 101, .int 0, .int 0, .int 0]) (rest := [.ref h0]) E hS0 (m_X12_spelled l X Γ H0 hC0 105 (a0 := 105) (by decide) 99 (a1 := 99) (by decide) 101 (a2 := 101) (by decide) 0 (a3 := 0) (by decide) 0 (a4 := 0) (by decide) 0 (a5 := 0) (by decide)) cw_X12_spelled cl_RX12_145 rfl hl.1 rfl (show _ ≤ _ from by simp [Value.category]) (by decide) dX12_isIce_10) hS0 (fun v21 locs21 hr21 hS21 => ?_)
  refine q_goIp (q_runV (As := [.long v21]) (rest := []) E hC0 hS21 (m_X12_isWord l X Γ H0 hC0 h0 g0 v21 (a1 := v21.toInt) rfl ca gca uc) cw_X12_isWord cl_RX12_149 g0 ⟨rfl, rfl⟩ rfl hl.1 rfl (Nat.zero_le _) (by decide) dX12_isIce_13) hS21 (fun v22 locs22 hr22 hS22 => ?_)
  rcases hr22 with rfl | rfl
  · exact ret 0 H0 locs22 _ _ dX12_isIce_16 (Or.inl rfl) ⟨rfl, Or.inl rfl⟩ hC0 hS22
  · exact ret 1 H0 locs22 _ _ dX12_isIce_16 (Or.inr rfl) ⟨rfl, Or.inr rfl⟩ hC0 hS22
set_option maxRecDepth 100000 in
set_option maxHeartbeats 4000000 in
theorem m_X12_isSteal (l : Launch) (X : xW) (Γ : Nat → Option Nat) (H0 : Heap) (hC0 : Conf X Γ H0) (h0 : Nat) (g0 : Γ h0 = some 11) (ca : Nat) (gca : Γ ca = some 64) (uc : ∀ a, Γ a = some 64 → a = ca) : Ctr l X Γ yX12_isSteal cX12_isSteal 1 (some .boolean) 1 [.ref h0] H0 (QI X Γ (fun v H1 => H1 = H0 ∧ (v = 0 ∨ v = 1))) := by
  refine q_enterZ (own := "SnowFortsModel") (by decide) rfl (Nat.le_of_ble_eq_true rfl) ?_
  intro p e s m args below meth c ls Qz E hl ret hS0
  have hx := E.1; have hb := E.2.1
  have hl : lv_has ls 1 [(0, .ref h0)] := hl
  refine lv_aload_n hx hb dX12_isSteal_0 rfl (lv_at hl 0 rfl) ?_
  refine lv_bipush (v := 115) hx hb dX12_isSteal_1 rfl ?_
  refine lv_bipush (v := 116) hx hb dX12_isSteal_3 rfl ?_
  refine lv_bipush (v := 101) hx hb dX12_isSteal_5 rfl ?_
  refine lv_bipush (v := 97) hx hb dX12_isSteal_7 rfl ?_
  refine lv_bipush (v := 108) hx hb dX12_isSteal_9 rfl ?_
  refine lv_iconst (v := 0) hx hb dX12_isSteal_11 rfl ?_
  refine q_goJp (q_runS (As := [.int 115, .int 116, .int 101, .int 97, .int 108, .int 0]) (rest := [.ref h0]) E hS0 (m_X12_spelled l X Γ H0 hC0 115 (a0 := 115) (by decide) 116 (a1 := 116) (by decide) 101 (a2 := 101) (by decide) 97 (a3 := 97) (by decide) 108 (a4 := 108) (by decide) 0 (a5 := 0) (by decide)) cw_X12_spelled cl_RX12_145 rfl hl.1 rfl (show _ ≤ _ from by simp [Value.category]) (by decide) dX12_isSteal_12) hS0 (fun v21 locs21 hr21 hS21 => ?_)
  refine q_goIp (q_runV (As := [.long v21]) (rest := []) E hC0 hS21 (m_X12_isWord l X Γ H0 hC0 h0 g0 v21 (a1 := v21.toInt) rfl ca gca uc) cw_X12_isWord cl_RX12_149 g0 ⟨rfl, rfl⟩ rfl hl.1 rfl (Nat.zero_le _) (by decide) dX12_isSteal_15) hS21 (fun v22 locs22 hr22 hS22 => ?_)
  rcases hr22 with rfl | rfl
  · exact ret 0 H0 locs22 _ _ dX12_isSteal_18 (Or.inl rfl) ⟨rfl, Or.inl rfl⟩ hC0 hS22
  · exact ret 1 H0 locs22 _ _ dX12_isSteal_18 (Or.inr rfl) ⟨rfl, Or.inr rfl⟩ hC0 hS22
set_option maxRecDepth 100000 in
set_option maxHeartbeats 4000000 in
theorem m_X12_stepWord (l : Launch) (X : xW) (Γ : Nat → Option Nat) (H0 : Heap) (hC0 : Conf X Γ H0) (h0 : Nat) (g0 : Γ h0 = some 11) (ca : Nat) (gca : Γ ca = some 64) (uc : ∀ a, Γ a = some 64 → a = ca) : Ctr l X Γ yX12_stepWord cX12_stepWord 1 (some .int) 2 [.ref h0] H0 (QI X Γ (fun v H1 => H1 = H0 ∧ ((-1 ≤ v.toInt) ∧ (v.toInt ≤ 9)))) := by
  refine q_enterI (own := "SnowFortsModel") (by decide) rfl (Nat.le_of_ble_eq_true rfl) ?_
  intro p e s m args below meth c ls Qz E hl ret hS0
  have hx := E.1; have hb := E.2.1
  have hl : lv_has ls 1 [(0, .ref h0)] := hl
  refine lv_aload_n hx hb dX12_stepWord_0 rfl (lv_at hl 0 rfl) ?_
  refine lv_bipush (v := 102) hx hb dX12_stepWord_1 rfl ?_
  refine lv_bipush (v := 97) hx hb dX12_stepWord_3 rfl ?_
  refine lv_bipush (v := 108) hx hb dX12_stepWord_5 rfl ?_
  refine lv_bipush (v := 108) hx hb dX12_stepWord_7 rfl ?_
  refine lv_iconst (v := 0) hx hb dX12_stepWord_9 rfl ?_
  refine lv_iconst (v := 0) hx hb dX12_stepWord_10 rfl ?_
  refine q_goJp (q_runS (As := [.int 102, .int 97, .int 108, .int 108, .int 0, .int 0]) (rest := [.ref h0]) E hS0 (m_X12_spelled l X Γ H0 hC0 102 (a0 := 102) (by decide) 97 (a1 := 97) (by decide) 108 (a2 := 108) (by decide) 108 (a3 := 108) (by decide) 0 (a4 := 0) (by decide) 0 (a5 := 0) (by decide)) cw_X12_spelled cl_RX12_145 rfl hl.1 rfl (show _ ≤ _ from by simp [Value.category]) (by decide) dX12_stepWord_11) hS0 (fun v21 locs21 hr21 hS21 => ?_)
  refine q_goIp (q_runV (As := [.long v21]) (rest := []) E hC0 hS21 (m_X12_isWord l X Γ H0 hC0 h0 g0 v21 (a1 := v21.toInt) rfl ca gca uc) cw_X12_isWord cl_RX12_149 g0 ⟨rfl, rfl⟩ rfl hl.1 rfl (Nat.zero_le _) (by decide) dX12_stepWord_14) hS21 (fun v22 locs22 hr22 hS22 => ?_)
  rcases hr22 with rfl | rfl
  · refine q_if_eq hx hb (a := 0) (by decide) (tgt := 22) dX12_stepWord_17 rfl (fun c23 => ?_) (fun c23 => absurd c23 (by omega))
    refine lv_aload_n hx hb dX12_stepWord_22 rfl (lv_at hl 0 rfl) ?_
    refine lv_bipush (v := 116) hx hb dX12_stepWord_23 rfl ?_
    refine lv_bipush (v := 104) hx hb dX12_stepWord_25 rfl ?_
    refine lv_bipush (v := 97) hx hb dX12_stepWord_27 rfl ?_
    refine lv_bipush (v := 119) hx hb dX12_stepWord_29 rfl ?_
    refine lv_iconst (v := 0) hx hb dX12_stepWord_31 rfl ?_
    refine lv_iconst (v := 0) hx hb dX12_stepWord_32 rfl ?_
    refine q_goJp (q_runS (As := [.int 116, .int 104, .int 97, .int 119, .int 0, .int 0]) (rest := [.ref h0]) E hS22 (m_X12_spelled l X Γ H0 hC0 116 (a0 := 116) (by decide) 104 (a1 := 104) (by decide) 97 (a2 := 97) (by decide) 119 (a3 := 119) (by decide) 0 (a4 := 0) (by decide) 0 (a5 := 0) (by decide)) cw_X12_spelled cl_RX12_145 rfl hl.1 rfl (show _ ≤ _ from by simp [Value.category]) (by decide) dX12_stepWord_33) hS22 (fun v24 locs24 hr24 hS24 => ?_)
    refine q_goIp (q_runV (As := [.long v24]) (rest := []) E hC0 hS24 (m_X12_isWord l X Γ H0 hC0 h0 g0 v24 (a1 := v24.toInt) rfl ca gca uc) cw_X12_isWord cl_RX12_149 g0 ⟨rfl, rfl⟩ rfl hl.1 rfl (Nat.zero_le _) (by decide) dX12_stepWord_36) hS24 (fun v25 locs25 hr25 hS25 => ?_)
    rcases hr25 with rfl | rfl
    · refine q_if_eq hx hb (a := 0) (by decide) (tgt := 44) dX12_stepWord_39 rfl (fun c26 => ?_) (fun c26 => absurd c26 (by omega))
      refine lv_aload_n hx hb dX12_stepWord_44 rfl (lv_at hl 0 rfl) ?_
      refine lv_bipush (v := 115) hx hb dX12_stepWord_45 rfl ?_
      refine lv_bipush (v := 116) hx hb dX12_stepWord_47 rfl ?_
      refine lv_bipush (v := 111) hx hb dX12_stepWord_49 rfl ?_
      refine lv_bipush (v := 114) hx hb dX12_stepWord_51 rfl ?_
      refine lv_bipush (v := 109) hx hb dX12_stepWord_53 rfl ?_
      refine lv_iconst (v := 0) hx hb dX12_stepWord_55 rfl ?_
      refine q_goJp (q_runS (As := [.int 115, .int 116, .int 111, .int 114, .int 109, .int 0]) (rest := [.ref h0]) E hS25 (m_X12_spelled l X Γ H0 hC0 115 (a0 := 115) (by decide) 116 (a1 := 116) (by decide) 111 (a2 := 111) (by decide) 114 (a3 := 114) (by decide) 109 (a4 := 109) (by decide) 0 (a5 := 0) (by decide)) cw_X12_spelled cl_RX12_145 rfl hl.1 rfl (show _ ≤ _ from by simp [Value.category]) (by decide) dX12_stepWord_56) hS25 (fun v27 locs27 hr27 hS27 => ?_)
      refine q_goIp (q_runV (As := [.long v27]) (rest := []) E hC0 hS27 (m_X12_isWord l X Γ H0 hC0 h0 g0 v27 (a1 := v27.toInt) rfl ca gca uc) cw_X12_isWord cl_RX12_149 g0 ⟨rfl, rfl⟩ rfl hl.1 rfl (Nat.zero_le _) (by decide) dX12_stepWord_59) hS27 (fun v28 locs28 hr28 hS28 => ?_)
      rcases hr28 with rfl | rfl
      · refine q_if_eq hx hb (a := 0) (by decide) (tgt := 67) dX12_stepWord_62 rfl (fun c29 => ?_) (fun c29 => absurd c29 (by omega))
        refine lv_aload_n hx hb dX12_stepWord_67 rfl (lv_at hl 0 rfl) ?_
        refine q_goIp (q_runV (As := []) (rest := []) E hC0 hS28 (m_X12_isBuild l X Γ H0 hC0 h0 g0 ca gca uc) cw_X12_isBuild cl_RX12_153 g0 ⟨rfl, rfl⟩ rfl hl.1 rfl (Nat.zero_le _) (by decide) dX12_stepWord_68) hS28 (fun v30 locs30 hr30 hS30 => ?_)
        rcases hr30 with rfl | rfl
        · refine q_if_eq hx hb (a := 0) (by decide) (tgt := 76) dX12_stepWord_71 rfl (fun c31 => ?_) (fun c31 => absurd c31 (by omega))
          refine lv_aload_n hx hb dX12_stepWord_76 rfl (lv_at hl 0 rfl) ?_
          refine q_goIp (q_runV (As := []) (rest := []) E hC0 hS30 (m_X12_isIce l X Γ H0 hC0 h0 g0 ca gca uc) cw_X12_isIce cl_RX12_157 g0 ⟨rfl, rfl⟩ rfl hl.1 rfl (Nat.zero_le _) (by decide) dX12_stepWord_77) hS30 (fun v32 locs32 hr32 hS32 => ?_)
          rcases hr32 with rfl | rfl
          · refine q_if_eq hx hb (a := 0) (by decide) (tgt := 85) dX12_stepWord_80 rfl (fun c33 => ?_) (fun c33 => absurd c33 (by omega))
            refine lv_aload_n hx hb dX12_stepWord_85 rfl (lv_at hl 0 rfl) ?_
            refine q_goIp (q_runV (As := []) (rest := []) E hC0 hS32 (m_X12_isSteal l X Γ H0 hC0 h0 g0 ca gca uc) cw_X12_isSteal cl_RX12_160 g0 ⟨rfl, rfl⟩ rfl hl.1 rfl (Nat.zero_le _) (by decide) dX12_stepWord_86) hS32 (fun v34 locs34 hr34 hS34 => ?_)
            rcases hr34 with rfl | rfl
            · refine q_if_eq hx hb (a := 0) (by decide) (tgt := 94) dX12_stepWord_89 rfl (fun c35 => ?_) (fun c35 => absurd c35 (by omega))
              refine lv_aload_n hx hb dX12_stepWord_94 rfl (lv_at hl 0 rfl) ?_
              refine lv_bipush (v := 110) hx hb dX12_stepWord_95 rfl ?_
              refine lv_bipush (v := 105) hx hb dX12_stepWord_97 rfl ?_
              refine lv_bipush (v := 103) hx hb dX12_stepWord_99 rfl ?_
              refine lv_bipush (v := 104) hx hb dX12_stepWord_101 rfl ?_
              refine lv_bipush (v := 116) hx hb dX12_stepWord_103 rfl ?_
              refine lv_iconst (v := 0) hx hb dX12_stepWord_105 rfl ?_
              refine q_goJp (q_runS (As := [.int 110, .int 105, .int 103, .int 104, .int 116, .int 0]) (rest := [.ref h0]) E hS34 (m_X12_spelled l X Γ H0 hC0 110 (a0 := 110) (by decide) 105 (a1 := 105) (by decide) 103 (a2 := 103) (by decide) 104 (a3 := 104) (by decide) 116 (a4 := 116) (by decide) 0 (a5 := 0) (by decide)) cw_X12_spelled cl_RX12_145 rfl hl.1 rfl (show _ ≤ _ from by simp [Value.category]) (by decide) dX12_stepWord_106) hS34 (fun v36 locs36 hr36 hS36 => ?_)
              refine q_goIp (q_runV (As := [.long v36]) (rest := []) E hC0 hS36 (m_X12_isWord l X Γ H0 hC0 h0 g0 v36 (a1 := v36.toInt) rfl ca gca uc) cw_X12_isWord cl_RX12_149 g0 ⟨rfl, rfl⟩ rfl hl.1 rfl (Nat.zero_le _) (by decide) dX12_stepWord_109) hS36 (fun v37 locs37 hr37 hS37 => ?_)
              rcases hr37 with rfl | rfl
              · refine q_if_eq hx hb (a := 0) (by decide) (tgt := 118) dX12_stepWord_112 rfl (fun c38 => ?_) (fun c38 => absurd c38 (by omega))
                refine lv_aload_n hx hb dX12_stepWord_118 rfl (lv_at hl 0 rfl) ?_
                refine lv_bipush (v := 119) hx hb dX12_stepWord_119 rfl ?_
                refine lv_bipush (v := 104) hx hb dX12_stepWord_121 rfl ?_
                refine lv_bipush (v := 101) hx hb dX12_stepWord_123 rfl ?_
                refine lv_bipush (v := 110) hx hb dX12_stepWord_125 rfl ?_
                refine lv_iconst (v := 0) hx hb dX12_stepWord_127 rfl ?_
                refine lv_iconst (v := 0) hx hb dX12_stepWord_128 rfl ?_
                refine q_goJp (q_runS (As := [.int 119, .int 104, .int 101, .int 110, .int 0, .int 0]) (rest := [.ref h0]) E hS37 (m_X12_spelled l X Γ H0 hC0 119 (a0 := 119) (by decide) 104 (a1 := 104) (by decide) 101 (a2 := 101) (by decide) 110 (a3 := 110) (by decide) 0 (a4 := 0) (by decide) 0 (a5 := 0) (by decide)) cw_X12_spelled cl_RX12_145 rfl hl.1 rfl (show _ ≤ _ from by simp [Value.category]) (by decide) dX12_stepWord_129) hS37 (fun v39 locs39 hr39 hS39 => ?_)
                refine q_goIp (q_runV (As := [.long v39]) (rest := []) E hC0 hS39 (m_X12_isWord l X Γ H0 hC0 h0 g0 v39 (a1 := v39.toInt) rfl ca gca uc) cw_X12_isWord cl_RX12_149 g0 ⟨rfl, rfl⟩ rfl hl.1 rfl (Nat.zero_le _) (by decide) dX12_stepWord_132) hS39 (fun v40 locs40 hr40 hS40 => ?_)
                rcases hr40 with rfl | rfl
                · refine q_if_eq hx hb (a := 0) (by decide) (tgt := 141) dX12_stepWord_135 rfl (fun c41 => ?_) (fun c41 => absurd c41 (by omega))
                  refine lv_aload_n hx hb dX12_stepWord_141 rfl (lv_at hl 0 rfl) ?_
                  refine lv_bipush (v := 108) hx hb dX12_stepWord_142 rfl ?_
                  refine lv_bipush (v := 111) hx hb dX12_stepWord_144 rfl ?_
                  refine lv_bipush (v := 111) hx hb dX12_stepWord_146 rfl ?_
                  refine lv_bipush (v := 112) hx hb dX12_stepWord_148 rfl ?_
                  refine lv_iconst (v := 0) hx hb dX12_stepWord_150 rfl ?_
                  refine lv_iconst (v := 0) hx hb dX12_stepWord_151 rfl ?_
                  refine q_goJp (q_runS (As := [.int 108, .int 111, .int 111, .int 112, .int 0, .int 0]) (rest := [.ref h0]) E hS40 (m_X12_spelled l X Γ H0 hC0 108 (a0 := 108) (by decide) 111 (a1 := 111) (by decide) 111 (a2 := 111) (by decide) 112 (a3 := 112) (by decide) 0 (a4 := 0) (by decide) 0 (a5 := 0) (by decide)) cw_X12_spelled cl_RX12_145 rfl hl.1 rfl (show _ ≤ _ from by simp [Value.category]) (by decide) dX12_stepWord_152) hS40 (fun v42 locs42 hr42 hS42 => ?_)
                  refine q_goIp (q_runV (As := [.long v42]) (rest := []) E hC0 hS42 (m_X12_isWord l X Γ H0 hC0 h0 g0 v42 (a1 := v42.toInt) rfl ca gca uc) cw_X12_isWord cl_RX12_149 g0 ⟨rfl, rfl⟩ rfl hl.1 rfl (Nat.zero_le _) (by decide) dX12_stepWord_155) hS42 (fun v43 locs43 hr43 hS43 => ?_)
                  rcases hr43 with rfl | rfl
                  · refine q_if_eq hx hb (a := 0) (by decide) (tgt := 164) dX12_stepWord_158 rfl (fun c44 => ?_) (fun c44 => absurd c44 (by omega))
                    refine lv_aload_n hx hb dX12_stepWord_164 rfl (lv_at hl 0 rfl) ?_
                    refine lv_bipush (v := 115) hx hb dX12_stepWord_165 rfl ?_
                    refine lv_bipush (v := 116) hx hb dX12_stepWord_167 rfl ?_
                    refine lv_bipush (v := 111) hx hb dX12_stepWord_169 rfl ?_
                    refine lv_bipush (v := 112) hx hb dX12_stepWord_171 rfl ?_
                    refine lv_iconst (v := 0) hx hb dX12_stepWord_173 rfl ?_
                    refine lv_iconst (v := 0) hx hb dX12_stepWord_174 rfl ?_
                    refine q_goJp (q_runS (As := [.int 115, .int 116, .int 111, .int 112, .int 0, .int 0]) (rest := [.ref h0]) E hS43 (m_X12_spelled l X Γ H0 hC0 115 (a0 := 115) (by decide) 116 (a1 := 116) (by decide) 111 (a2 := 111) (by decide) 112 (a3 := 112) (by decide) 0 (a4 := 0) (by decide) 0 (a5 := 0) (by decide)) cw_X12_spelled cl_RX12_145 rfl hl.1 rfl (show _ ≤ _ from by simp [Value.category]) (by decide) dX12_stepWord_175) hS43 (fun v45 locs45 hr45 hS45 => ?_)
                    refine q_goIp (q_runV (As := [.long v45]) (rest := []) E hC0 hS45 (m_X12_isWord l X Γ H0 hC0 h0 g0 v45 (a1 := v45.toInt) rfl ca gca uc) cw_X12_isWord cl_RX12_149 g0 ⟨rfl, rfl⟩ rfl hl.1 rfl (Nat.zero_le _) (by decide) dX12_stepWord_178) hS45 (fun v46 locs46 hr46 hS46 => ?_)
                    rcases hr46 with rfl | rfl
                    · refine q_if_eq hx hb (a := 0) (by decide) (tgt := 189) dX12_stepWord_181 rfl (fun c47 => ?_) (fun c47 => absurd c47 (by omega))
                      refine lv_iconst (v := (-1)) hx hb dX12_stepWord_189 rfl ?_
                      have c48 : ((-1) : Int32).toInt = (-1) := (by decide)
                      exact ret (-1) H0 locs46 _ _ dX12_stepWord_190 ⟨rfl, ⟨by omega, by omega⟩⟩ hC0 hS46
                    · refine q_if_eq hx hb (a := 1) (by decide) (tgt := 189) dX12_stepWord_181 rfl (fun c49 => absurd c49 (by omega)) (fun c49 => ?_)
                      refine lv_bipush (v := 9) hx hb dX12_stepWord_184 rfl ?_
                      refine lv_goto (tgt := 190) hx hb dX12_stepWord_186 rfl ?_
                      have c50 : (9 : Int32).toInt = 9 := (by decide)
                      exact ret 9 H0 locs46 _ _ dX12_stepWord_190 ⟨rfl, ⟨by omega, by omega⟩⟩ hC0 hS46
                  · refine q_if_eq hx hb (a := 1) (by decide) (tgt := 164) dX12_stepWord_158 rfl (fun c51 => absurd c51 (by omega)) (fun c51 => ?_)
                    refine lv_bipush (v := 8) hx hb dX12_stepWord_161 rfl ?_
                    have c52 : (8 : Int32).toInt = 8 := (by decide)
                    exact ret 8 H0 locs43 _ _ dX12_stepWord_163 ⟨rfl, ⟨by omega, by omega⟩⟩ hC0 hS43
                · refine q_if_eq hx hb (a := 1) (by decide) (tgt := 141) dX12_stepWord_135 rfl (fun c53 => absurd c53 (by omega)) (fun c53 => ?_)
                  refine lv_bipush (v := 7) hx hb dX12_stepWord_138 rfl ?_
                  have c54 : (7 : Int32).toInt = 7 := (by decide)
                  exact ret 7 H0 locs40 _ _ dX12_stepWord_140 ⟨rfl, ⟨by omega, by omega⟩⟩ hC0 hS40
              · refine q_if_eq hx hb (a := 1) (by decide) (tgt := 118) dX12_stepWord_112 rfl (fun c55 => absurd c55 (by omega)) (fun c55 => ?_)
                refine lv_bipush (v := 6) hx hb dX12_stepWord_115 rfl ?_
                have c56 : (6 : Int32).toInt = 6 := (by decide)
                exact ret 6 H0 locs37 _ _ dX12_stepWord_117 ⟨rfl, ⟨by omega, by omega⟩⟩ hC0 hS37
            · refine q_if_eq hx hb (a := 1) (by decide) (tgt := 94) dX12_stepWord_89 rfl (fun c57 => absurd c57 (by omega)) (fun c57 => ?_)
              refine lv_iconst (v := 5) hx hb dX12_stepWord_92 rfl ?_
              have c58 : (5 : Int32).toInt = 5 := (by decide)
              exact ret 5 H0 locs34 _ _ dX12_stepWord_93 ⟨rfl, ⟨by omega, by omega⟩⟩ hC0 hS34
          · refine q_if_eq hx hb (a := 1) (by decide) (tgt := 85) dX12_stepWord_80 rfl (fun c59 => absurd c59 (by omega)) (fun c59 => ?_)
            refine lv_iconst (v := 4) hx hb dX12_stepWord_83 rfl ?_
            have c60 : (4 : Int32).toInt = 4 := (by decide)
            exact ret 4 H0 locs32 _ _ dX12_stepWord_84 ⟨rfl, ⟨by omega, by omega⟩⟩ hC0 hS32
        · refine q_if_eq hx hb (a := 1) (by decide) (tgt := 76) dX12_stepWord_71 rfl (fun c61 => absurd c61 (by omega)) (fun c61 => ?_)
          refine lv_iconst (v := 3) hx hb dX12_stepWord_74 rfl ?_
          have c62 : (3 : Int32).toInt = 3 := (by decide)
          exact ret 3 H0 locs30 _ _ dX12_stepWord_75 ⟨rfl, ⟨by omega, by omega⟩⟩ hC0 hS30
      · refine q_if_eq hx hb (a := 1) (by decide) (tgt := 67) dX12_stepWord_62 rfl (fun c63 => absurd c63 (by omega)) (fun c63 => ?_)
        refine lv_iconst (v := 2) hx hb dX12_stepWord_65 rfl ?_
        have c64 : (2 : Int32).toInt = 2 := (by decide)
        exact ret 2 H0 locs28 _ _ dX12_stepWord_66 ⟨rfl, ⟨by omega, by omega⟩⟩ hC0 hS28
    · refine q_if_eq hx hb (a := 1) (by decide) (tgt := 44) dX12_stepWord_39 rfl (fun c65 => absurd c65 (by omega)) (fun c65 => ?_)
      refine lv_iconst (v := 1) hx hb dX12_stepWord_42 rfl ?_
      have c66 : (1 : Int32).toInt = 1 := (by decide)
      exact ret 1 H0 locs25 _ _ dX12_stepWord_43 ⟨rfl, ⟨by omega, by omega⟩⟩ hC0 hS25
  · refine q_if_eq hx hb (a := 1) (by decide) (tgt := 22) dX12_stepWord_17 rfl (fun c67 => absurd c67 (by omega)) (fun c67 => ?_)
    refine lv_iconst (v := 0) hx hb dX12_stepWord_20 rfl ?_
    have c68 : (0 : Int32).toInt = 0 := (by decide)
    exact ret 0 H0 locs22 _ _ dX12_stepWord_21 ⟨rfl, ⟨by omega, by omega⟩⟩ hC0 hS22
set_option maxRecDepth 100000 in
set_option maxHeartbeats 4000000 in
theorem m_X12_isWall (l : Launch) (X : xW) (Γ : Nat → Option Nat) (H0 : Heap) (hC0 : Conf X Γ H0) (h0 : Nat) (g0 : Γ h0 = some 11) (ca : Nat) (gca : Γ ca = some 64) (uc : ∀ a, Γ a = some 64 → a = ca) : Ctr l X Γ yX12_isWall cX12_isWall 1 (some .boolean) 1 [.ref h0] H0 (QI X Γ (fun v H1 => H1 = H0 ∧ (v = 0 ∨ v = 1))) := by
  refine q_enterZ (own := "SnowFortsModel") (by decide) rfl (Nat.le_of_ble_eq_true rfl) ?_
  intro p e s m args below meth c ls Qz E hl ret hS0
  have hx := E.1; have hb := E.2.1
  have hl : lv_has ls 1 [(0, .ref h0)] := hl
  refine lv_aload_n hx hb dX12_isWall_0 rfl (lv_at hl 0 rfl) ?_
  refine lv_bipush (v := 119) hx hb dX12_isWall_1 rfl ?_
  refine lv_bipush (v := 97) hx hb dX12_isWall_3 rfl ?_
  refine lv_bipush (v := 108) hx hb dX12_isWall_5 rfl ?_
  refine lv_bipush (v := 108) hx hb dX12_isWall_7 rfl ?_
  refine lv_iconst (v := 0) hx hb dX12_isWall_9 rfl ?_
  refine lv_iconst (v := 0) hx hb dX12_isWall_10 rfl ?_
  refine q_goJp (q_runS (As := [.int 119, .int 97, .int 108, .int 108, .int 0, .int 0]) (rest := [.ref h0]) E hS0 (m_X12_spelled l X Γ H0 hC0 119 (a0 := 119) (by decide) 97 (a1 := 97) (by decide) 108 (a2 := 108) (by decide) 108 (a3 := 108) (by decide) 0 (a4 := 0) (by decide) 0 (a5 := 0) (by decide)) cw_X12_spelled cl_RX12_145 rfl hl.1 rfl (show _ ≤ _ from by simp [Value.category]) (by decide) dX12_isWall_11) hS0 (fun v21 locs21 hr21 hS21 => ?_)
  refine q_goIp (q_runV (As := [.long v21]) (rest := []) E hC0 hS21 (m_X12_isWord l X Γ H0 hC0 h0 g0 v21 (a1 := v21.toInt) rfl ca gca uc) cw_X12_isWord cl_RX12_149 g0 ⟨rfl, rfl⟩ rfl hl.1 rfl (Nat.zero_le _) (by decide) dX12_isWall_14) hS21 (fun v22 locs22 hr22 hS22 => ?_)
  rcases hr22 with rfl | rfl
  · exact ret 0 H0 locs22 _ _ dX12_isWall_17 (Or.inl rfl) ⟨rfl, Or.inl rfl⟩ hC0 hS22
  · exact ret 1 H0 locs22 _ _ dX12_isWall_17 (Or.inr rfl) ⟨rfl, Or.inr rfl⟩ hC0 hS22
set_option maxRecDepth 100000 in
set_option maxHeartbeats 4000000 in
theorem m_X12_testWord (l : Launch) (X : xW) (Γ : Nat → Option Nat) (H0 : Heap) (hC0 : Conf X Γ H0) (h0 : Nat) (g0 : Γ h0 = some 11) (ca : Nat) (gca : Γ ca = some 64) (uc : ∀ a, Γ a = some 64 → a = ca) : Ctr l X Γ yX12_testWord cX12_testWord 1 (some .int) 2 [.ref h0] H0 (QI X Γ (fun v H1 => H1 = H0 ∧ ((-1 ≤ v.toInt) ∧ (v.toInt ≤ 3)))) := by
  refine q_enterI (own := "SnowFortsModel") (by decide) rfl (Nat.le_of_ble_eq_true rfl) ?_
  intro p e s m args below meth c ls Qz E hl ret hS0
  have hx := E.1; have hb := E.2.1
  have hl : lv_has ls 1 [(0, .ref h0)] := hl
  refine lv_aload_n hx hb dX12_testWord_0 rfl (lv_at hl 0 rfl) ?_
  refine lv_bipush (v := 100) hx hb dX12_testWord_1 rfl ?_
  refine lv_bipush (v := 97) hx hb dX12_testWord_3 rfl ?_
  refine lv_bipush (v := 121) hx hb dX12_testWord_5 rfl ?_
  refine lv_iconst (v := 0) hx hb dX12_testWord_7 rfl ?_
  refine lv_iconst (v := 0) hx hb dX12_testWord_8 rfl ?_
  refine lv_iconst (v := 0) hx hb dX12_testWord_9 rfl ?_
  refine q_goJp (q_runS (As := [.int 100, .int 97, .int 121, .int 0, .int 0, .int 0]) (rest := [.ref h0]) E hS0 (m_X12_spelled l X Γ H0 hC0 100 (a0 := 100) (by decide) 97 (a1 := 97) (by decide) 121 (a2 := 121) (by decide) 0 (a3 := 0) (by decide) 0 (a4 := 0) (by decide) 0 (a5 := 0) (by decide)) cw_X12_spelled cl_RX12_145 rfl hl.1 rfl (show _ ≤ _ from by simp [Value.category]) (by decide) dX12_testWord_10) hS0 (fun v21 locs21 hr21 hS21 => ?_)
  refine q_goIp (q_runV (As := [.long v21]) (rest := []) E hC0 hS21 (m_X12_isWord l X Γ H0 hC0 h0 g0 v21 (a1 := v21.toInt) rfl ca gca uc) cw_X12_isWord cl_RX12_149 g0 ⟨rfl, rfl⟩ rfl hl.1 rfl (Nat.zero_le _) (by decide) dX12_testWord_13) hS21 (fun v22 locs22 hr22 hS22 => ?_)
  rcases hr22 with rfl | rfl
  · refine q_if_eq hx hb (a := 0) (by decide) (tgt := 21) dX12_testWord_16 rfl (fun c23 => ?_) (fun c23 => absurd c23 (by omega))
    refine lv_aload_n hx hb dX12_testWord_21 rfl (lv_at hl 0 rfl) ?_
    refine q_goIp (q_runV (As := []) (rest := []) E hC0 hS22 (m_X12_isWall l X Γ H0 hC0 h0 g0 ca gca uc) cw_X12_isWall cl_RX12_163 g0 ⟨rfl, rfl⟩ rfl hl.1 rfl (Nat.zero_le _) (by decide) dX12_testWord_22) hS22 (fun v24 locs24 hr24 hS24 => ?_)
    rcases hr24 with rfl | rfl
    · refine q_if_eq hx hb (a := 0) (by decide) (tgt := 30) dX12_testWord_25 rfl (fun c25 => ?_) (fun c25 => absurd c25 (by omega))
      refine lv_aload_n hx hb dX12_testWord_30 rfl (lv_at hl 0 rfl) ?_
      refine lv_bipush (v := 98) hx hb dX12_testWord_31 rfl ?_
      refine lv_bipush (v := 114) hx hb dX12_testWord_33 rfl ?_
      refine lv_bipush (v := 101) hx hb dX12_testWord_35 rfl ?_
      refine lv_bipush (v := 97) hx hb dX12_testWord_37 rfl ?_
      refine lv_bipush (v := 99) hx hb dX12_testWord_39 rfl ?_
      refine lv_bipush (v := 104) hx hb dX12_testWord_41 rfl ?_
      refine q_goJp (q_runS (As := [.int 98, .int 114, .int 101, .int 97, .int 99, .int 104]) (rest := [.ref h0]) E hS24 (m_X12_spelled l X Γ H0 hC0 98 (a0 := 98) (by decide) 114 (a1 := 114) (by decide) 101 (a2 := 101) (by decide) 97 (a3 := 97) (by decide) 99 (a4 := 99) (by decide) 104 (a5 := 104) (by decide)) cw_X12_spelled cl_RX12_145 rfl hl.1 rfl (show _ ≤ _ from by simp [Value.category]) (by decide) dX12_testWord_43) hS24 (fun v26 locs26 hr26 hS26 => ?_)
      refine q_goIp (q_runV (As := [.long v26]) (rest := []) E hC0 hS26 (m_X12_isWord l X Γ H0 hC0 h0 g0 v26 (a1 := v26.toInt) rfl ca gca uc) cw_X12_isWord cl_RX12_149 g0 ⟨rfl, rfl⟩ rfl hl.1 rfl (Nat.zero_le _) (by decide) dX12_testWord_46) hS26 (fun v27 locs27 hr27 hS27 => ?_)
      rcases hr27 with rfl | rfl
      · refine q_if_eq hx hb (a := 0) (by decide) (tgt := 54) dX12_testWord_49 rfl (fun c28 => ?_) (fun c28 => absurd c28 (by omega))
        refine lv_aload_n hx hb dX12_testWord_54 rfl (lv_at hl 0 rfl) ?_
        refine lv_bipush (v := 119) hx hb dX12_testWord_55 rfl ?_
        refine lv_bipush (v := 97) hx hb dX12_testWord_57 rfl ?_
        refine lv_bipush (v := 121) hx hb dX12_testWord_59 rfl ?_
        refine lv_iconst (v := 0) hx hb dX12_testWord_61 rfl ?_
        refine lv_iconst (v := 0) hx hb dX12_testWord_62 rfl ?_
        refine lv_iconst (v := 0) hx hb dX12_testWord_63 rfl ?_
        refine q_goJp (q_runS (As := [.int 119, .int 97, .int 121, .int 0, .int 0, .int 0]) (rest := [.ref h0]) E hS27 (m_X12_spelled l X Γ H0 hC0 119 (a0 := 119) (by decide) 97 (a1 := 97) (by decide) 121 (a2 := 121) (by decide) 0 (a3 := 0) (by decide) 0 (a4 := 0) (by decide) 0 (a5 := 0) (by decide)) cw_X12_spelled cl_RX12_145 rfl hl.1 rfl (show _ ≤ _ from by simp [Value.category]) (by decide) dX12_testWord_64) hS27 (fun v29 locs29 hr29 hS29 => ?_)
        refine q_goIp (q_runV (As := [.long v29]) (rest := []) E hC0 hS29 (m_X12_isWord l X Γ H0 hC0 h0 g0 v29 (a1 := v29.toInt) rfl ca gca uc) cw_X12_isWord cl_RX12_149 g0 ⟨rfl, rfl⟩ rfl hl.1 rfl (Nat.zero_le _) (by decide) dX12_testWord_67) hS29 (fun v30 locs30 hr30 hS30 => ?_)
        rcases hr30 with rfl | rfl
        · refine q_if_eq hx hb (a := 0) (by decide) (tgt := 77) dX12_testWord_70 rfl (fun c31 => ?_) (fun c31 => absurd c31 (by omega))
          refine lv_iconst (v := (-1)) hx hb dX12_testWord_77 rfl ?_
          have c32 : ((-1) : Int32).toInt = (-1) := (by decide)
          exact ret (-1) H0 locs30 _ _ dX12_testWord_78 ⟨rfl, ⟨by omega, by omega⟩⟩ hC0 hS30
        · refine q_if_eq hx hb (a := 1) (by decide) (tgt := 77) dX12_testWord_70 rfl (fun c33 => absurd c33 (by omega)) (fun c33 => ?_)
          refine lv_iconst (v := 3) hx hb dX12_testWord_73 rfl ?_
          refine lv_goto (tgt := 78) hx hb dX12_testWord_74 rfl ?_
          have c34 : (3 : Int32).toInt = 3 := (by decide)
          exact ret 3 H0 locs30 _ _ dX12_testWord_78 ⟨rfl, ⟨by omega, by omega⟩⟩ hC0 hS30
      · refine q_if_eq hx hb (a := 1) (by decide) (tgt := 54) dX12_testWord_49 rfl (fun c35 => absurd c35 (by omega)) (fun c35 => ?_)
        refine lv_iconst (v := 2) hx hb dX12_testWord_52 rfl ?_
        have c36 : (2 : Int32).toInt = 2 := (by decide)
        exact ret 2 H0 locs27 _ _ dX12_testWord_53 ⟨rfl, ⟨by omega, by omega⟩⟩ hC0 hS27
    · refine q_if_eq hx hb (a := 1) (by decide) (tgt := 30) dX12_testWord_25 rfl (fun c37 => absurd c37 (by omega)) (fun c37 => ?_)
      refine lv_iconst (v := 1) hx hb dX12_testWord_28 rfl ?_
      have c38 : (1 : Int32).toInt = 1 := (by decide)
      exact ret 1 H0 locs24 _ _ dX12_testWord_29 ⟨rfl, ⟨by omega, by omega⟩⟩ hC0 hS24
  · refine q_if_eq hx hb (a := 1) (by decide) (tgt := 21) dX12_testWord_16 rfl (fun c39 => absurd c39 (by omega)) (fun c39 => ?_)
    refine lv_iconst (v := 0) hx hb dX12_testWord_19 rfl ?_
    have c40 : (0 : Int32).toInt = 0 := (by decide)
    exact ret 0 H0 locs22 _ _ dX12_testWord_20 ⟨rfl, ⟨by omega, by omega⟩⟩ hC0 hS22
set_option maxRecDepth 100000 in
set_option maxHeartbeats 4000000 in
theorem m_X12_isEnd (l : Launch) (X : xW) (Γ : Nat → Option Nat) (H0 : Heap) (hC0 : Conf X Γ H0) (h0 : Nat) (g0 : Γ h0 = some 11) (ca : Nat) (gca : Γ ca = some 64) (uc : ∀ a, Γ a = some 64 → a = ca) : Ctr l X Γ yX12_isEnd cX12_isEnd 1 (some .boolean) 1 [.ref h0] H0 (QI X Γ (fun v H1 => H1 = H0 ∧ (v = 0 ∨ v = 1))) := by
  refine q_enterZ (own := "SnowFortsModel") (by decide) rfl (Nat.le_of_ble_eq_true rfl) ?_
  intro p e s m args below meth c ls Qz E hl ret hS0
  have hx := E.1; have hb := E.2.1
  have hl : lv_has ls 1 [(0, .ref h0)] := hl
  refine lv_aload_n hx hb dX12_isEnd_0 rfl (lv_at hl 0 rfl) ?_
  refine lv_bipush (v := 101) hx hb dX12_isEnd_1 rfl ?_
  refine lv_bipush (v := 110) hx hb dX12_isEnd_3 rfl ?_
  refine lv_bipush (v := 100) hx hb dX12_isEnd_5 rfl ?_
  refine lv_iconst (v := 0) hx hb dX12_isEnd_7 rfl ?_
  refine lv_iconst (v := 0) hx hb dX12_isEnd_8 rfl ?_
  refine lv_iconst (v := 0) hx hb dX12_isEnd_9 rfl ?_
  refine q_goJp (q_runS (As := [.int 101, .int 110, .int 100, .int 0, .int 0, .int 0]) (rest := [.ref h0]) E hS0 (m_X12_spelled l X Γ H0 hC0 101 (a0 := 101) (by decide) 110 (a1 := 110) (by decide) 100 (a2 := 100) (by decide) 0 (a3 := 0) (by decide) 0 (a4 := 0) (by decide) 0 (a5 := 0) (by decide)) cw_X12_spelled cl_RX12_145 rfl hl.1 rfl (show _ ≤ _ from by simp [Value.category]) (by decide) dX12_isEnd_10) hS0 (fun v21 locs21 hr21 hS21 => ?_)
  refine q_goIp (q_runV (As := [.long v21]) (rest := []) E hC0 hS21 (m_X12_isWord l X Γ H0 hC0 h0 g0 v21 (a1 := v21.toInt) rfl ca gca uc) cw_X12_isWord cl_RX12_149 g0 ⟨rfl, rfl⟩ rfl hl.1 rfl (Nat.zero_le _) (by decide) dX12_isEnd_13) hS21 (fun v22 locs22 hr22 hS22 => ?_)
  rcases hr22 with rfl | rfl
  · exact ret 0 H0 locs22 _ _ dX12_isEnd_16 (Or.inl rfl) ⟨rfl, Or.inl rfl⟩ hC0 hS22
  · exact ret 1 H0 locs22 _ _ dX12_isEnd_16 (Or.inr rfl) ⟨rfl, Or.inr rfl⟩ hC0 hS22
set_option maxRecDepth 100000 in
set_option maxHeartbeats 4000000 in
theorem m_X12_isKept (l : Launch) (X : xW) (Γ : Nat → Option Nat) (H0 : Heap) (hC0 : Conf X Γ H0) (h0 : Nat) (g0 : Γ h0 = some 11) (ca : Nat) (gca : Γ ca = some 64) (uc : ∀ a, Γ a = some 64 → a = ca) : Ctr l X Γ yX12_isKept cX12_isKept 1 (some .boolean) 3 [.ref h0] H0 (QI X Γ (fun v H1 => H1 = H0 ∧ (v = 0 ∨ v = 1))) := by
  refine q_enterZ (own := "SnowFortsModel") (by decide) rfl (Nat.le_of_ble_eq_true rfl) ?_
  intro p e s m args below meth c ls Qz E hl ret hS0
  have hx := E.1; have hb := E.2.1
  have hl : lv_has ls 1 [(0, .ref h0)] := hl
  refine lv_aload_n hx hb dX12_isKept_0 rfl (lv_at hl 0 rfl) ?_
  refine q_goIp (q_runV (As := []) (rest := []) E hC0 hS0 (m_X12_isWide l X Γ H0 hC0 h0 g0 ca gca uc) cw_X12_isWide cl_RX12_166 g0 ⟨rfl, rfl⟩ rfl hl.1 rfl (Nat.zero_le _) (by decide) dX12_isKept_1) hS0 (fun v21 locs21 hr21 hS21 => ?_)
  rcases hr21 with rfl | rfl
  · refine q_if_ne hx hb (a := 0) (by decide) (tgt := 84) dX12_isKept_4 rfl (fun c22 => absurd c22 (by omega)) (fun c22 => ?_)
    refine lv_aload_n hx hb dX12_isKept_7 rfl (lv_at hl 0 rfl) ?_
    refine q_goIp (q_runV (As := []) (rest := []) E hC0 hS21 (m_X12_isHigh l X Γ H0 hC0 h0 g0 ca gca uc) cw_X12_isHigh cl_RX12_169 g0 ⟨rfl, rfl⟩ rfl hl.1 rfl (Nat.zero_le _) (by decide) dX12_isKept_8) hS21 (fun v23 locs23 hr23 hS23 => ?_)
    rcases hr23 with rfl | rfl
    · refine q_if_ne hx hb (a := 0) (by decide) (tgt := 84) dX12_isKept_11 rfl (fun c24 => absurd c24 (by omega)) (fun c24 => ?_)
      refine lv_aload_n hx hb dX12_isKept_14 rfl (lv_at hl 0 rfl) ?_
      refine q_goIp (q_runV (As := []) (rest := []) E hC0 hS23 (m_X12_isSchool l X Γ H0 hC0 h0 g0 ca gca uc) cw_X12_isSchool cl_RX12_172 g0 ⟨rfl, rfl⟩ rfl hl.1 rfl (Nat.zero_le _) (by decide) dX12_isKept_15) hS23 (fun v25 locs25 hr25 hS25 => ?_)
      rcases hr25 with rfl | rfl
      · refine q_if_ne hx hb (a := 0) (by decide) (tgt := 84) dX12_isKept_18 rfl (fun c26 => absurd c26 (by omega)) (fun c26 => ?_)
        refine lv_aload_n hx hb dX12_isKept_21 rfl (lv_at hl 0 rfl) ?_
        refine q_goIp (q_runV (As := []) (rest := []) E hC0 hS25 (m_X12_isHands l X Γ H0 hC0 h0 g0 ca gca uc) cw_X12_isHands cl_RX12_175 g0 ⟨rfl, rfl⟩ rfl hl.1 rfl (Nat.zero_le _) (by decide) dX12_isKept_22) hS25 (fun v27 locs27 hr27 hS27 => ?_)
        rcases hr27 with rfl | rfl
        · refine q_if_ne hx hb (a := 0) (by decide) (tgt := 84) dX12_isKept_25 rfl (fun c28 => absurd c28 (by omega)) (fun c28 => ?_)
          refine lv_aload_n hx hb dX12_isKept_28 rfl (lv_at hl 0 rfl) ?_
          refine q_goIp (q_runV (As := []) (rest := []) E hC0 hS27 (m_X12_isSnow l X Γ H0 hC0 h0 g0 ca gca uc) cw_X12_isSnow cl_RX12_178 g0 ⟨rfl, rfl⟩ rfl hl.1 rfl (Nat.zero_le _) (by decide) dX12_isKept_29) hS27 (fun v29 locs29 hr29 hS29 => ?_)
          rcases hr29 with rfl | rfl
          · refine q_if_ne hx hb (a := 0) (by decide) (tgt := 84) dX12_isKept_32 rfl (fun c30 => absurd c30 (by omega)) (fun c30 => ?_)
            refine lv_aload_n hx hb dX12_isKept_35 rfl (lv_at hl 0 rfl) ?_
            refine q_goIp (q_runV (As := []) (rest := []) E hC0 hS29 (m_X12_isDeep l X Γ H0 hC0 h0 g0 ca gca uc) cw_X12_isDeep cl_RX12_181 g0 ⟨rfl, rfl⟩ rfl hl.1 rfl (Nat.zero_le _) (by decide) dX12_isKept_36) hS29 (fun v31 locs31 hr31 hS31 => ?_)
            rcases hr31 with rfl | rfl
            · refine q_if_ne hx hb (a := 0) (by decide) (tgt := 84) dX12_isKept_39 rfl (fun c32 => absurd c32 (by omega)) (fun c32 => ?_)
              refine lv_aload_n hx hb dX12_isKept_42 rfl (lv_at hl 0 rfl) ?_
              refine q_goIp (q_runV (As := []) (rest := []) E hC0 hS31 (m_X12_isTall l X Γ H0 hC0 h0 g0 ca gca uc) cw_X12_isTall cl_RX12_184 g0 ⟨rfl, rfl⟩ rfl hl.1 rfl (Nat.zero_le _) (by decide) dX12_isKept_43) hS31 (fun v33 locs33 hr33 hS33 => ?_)
              rcases hr33 with rfl | rfl
              · refine q_if_ne hx hb (a := 0) (by decide) (tgt := 84) dX12_isKept_46 rfl (fun c34 => absurd c34 (by omega)) (fun c34 => ?_)
                refine lv_aload_n hx hb dX12_isKept_49 rfl (lv_at hl 0 rfl) ?_
                refine q_goIp (q_runV (As := []) (rest := []) E hC0 hS33 (m_X12_isSun l X Γ H0 hC0 h0 g0 ca gca uc) cw_X12_isSun cl_RX12_187 g0 ⟨rfl, rfl⟩ rfl hl.1 rfl (Nat.zero_le _) (by decide) dX12_isKept_50) hS33 (fun v35 locs35 hr35 hS35 => ?_)
                rcases hr35 with rfl | rfl
                · refine q_if_ne hx hb (a := 0) (by decide) (tgt := 84) dX12_isKept_53 rfl (fun c36 => absurd c36 (by omega)) (fun c36 => ?_)
                  refine lv_aload_n hx hb dX12_isKept_56 rfl (lv_at hl 0 rfl) ?_
                  refine q_goIp (q_runV (As := []) (rest := []) E hC0 hS35 (m_X12_isBy l X Γ H0 hC0 h0 g0 ca gca uc) cw_X12_isBy cl_RX12_190 g0 ⟨rfl, rfl⟩ rfl hl.1 rfl (Nat.zero_le _) (by decide) dX12_isKept_57) hS35 (fun v37 locs37 hr37 hS37 => ?_)
                  rcases hr37 with rfl | rfl
                  · refine q_if_ne hx hb (a := 0) (by decide) (tgt := 84) dX12_isKept_60 rfl (fun c38 => absurd c38 (by omega)) (fun c38 => ?_)
                    refine lv_aload_n hx hb dX12_isKept_63 rfl (lv_at hl 0 rfl) ?_
                    refine q_goIp (q_runV (As := []) (rest := []) E hC0 hS37 (m_X12_isNo l X Γ H0 hC0 h0 g0 ca gca uc) cw_X12_isNo cl_RX12_193 g0 ⟨rfl, rfl⟩ rfl hl.1 rfl (Nat.zero_le _) (by decide) dX12_isKept_64) hS37 (fun v39 locs39 hr39 hS39 => ?_)
                    rcases hr39 with rfl | rfl
                    · refine q_if_ne hx hb (a := 0) (by decide) (tgt := 84) dX12_isKept_67 rfl (fun c40 => absurd c40 (by omega)) (fun c40 => ?_)
                      refine lv_aload_n hx hb dX12_isKept_70 rfl (lv_at hl 0 rfl) ?_
                      refine q_goIp (q_runV (As := []) (rest := []) E hC0 hS39 (m_X12_isAbove l X Γ H0 hC0 h0 g0 ca gca uc) cw_X12_isAbove cl_RX12_196 g0 ⟨rfl, rfl⟩ rfl hl.1 rfl (Nat.zero_le _) (by decide) dX12_isKept_71) hS39 (fun v41 locs41 hr41 hS41 => ?_)
                      rcases hr41 with rfl | rfl
                      · refine q_if_ne hx hb (a := 0) (by decide) (tgt := 84) dX12_isKept_74 rfl (fun c42 => absurd c42 (by omega)) (fun c42 => ?_)
                        refine lv_aload_n hx hb dX12_isKept_77 rfl (lv_at hl 0 rfl) ?_
                        refine q_goIp (q_runV (As := []) (rest := []) E hC0 hS41 (m_X12_isBehind l X Γ H0 hC0 h0 g0 ca gca uc) cw_X12_isBehind cl_RX12_199 g0 ⟨rfl, rfl⟩ rfl hl.1 rfl (Nat.zero_le _) (by decide) dX12_isKept_78) hS41 (fun v43 locs43 hr43 hS43 => ?_)
                        rcases hr43 with rfl | rfl
                        · refine q_if_eq hx hb (a := 0) (by decide) (tgt := 86) dX12_isKept_81 rfl (fun c44 => ?_) (fun c44 => absurd c44 (by omega))
                          refine lv_aload_n hx hb dX12_isKept_86 rfl (lv_at hl 0 rfl) ?_
                          refine q_goIp (q_runV (As := []) (rest := []) E hC0 hS43 (m_X12_isTo l X Γ H0 hC0 h0 g0 ca gca uc) cw_X12_isTo cl_RX12_202 g0 ⟨rfl, rfl⟩ rfl hl.1 rfl (Nat.zero_le _) (by decide) dX12_isKept_87) hS43 (fun v45 locs45 hr45 hS45 => ?_)
                          rcases hr45 with rfl | rfl
                          · refine q_if_ne hx hb (a := 0) (by decide) (tgt := 121) dX12_isKept_90 rfl (fun c46 => absurd c46 (by omega)) (fun c46 => ?_)
                            refine lv_aload_n hx hb dX12_isKept_93 rfl (lv_at hl 0 rfl) ?_
                            refine q_goIp (q_runV (As := []) (rest := []) E hC0 hS45 (m_X12_isFrom l X Γ H0 hC0 h0 g0 ca gca uc) cw_X12_isFrom cl_RX12_205 g0 ⟨rfl, rfl⟩ rfl hl.1 rfl (Nat.zero_le _) (by decide) dX12_isKept_94) hS45 (fun v47 locs47 hr47 hS47 => ?_)
                            rcases hr47 with rfl | rfl
                            · refine q_if_ne hx hb (a := 0) (by decide) (tgt := 121) dX12_isKept_97 rfl (fun c48 => absurd c48 (by omega)) (fun c48 => ?_)
                              refine lv_aload_n hx hb dX12_isKept_100 rfl (lv_at hl 0 rfl) ?_
                              refine q_goIp (q_runV (As := []) (rest := []) E hC0 hS47 (m_X12_stepWord l X Γ H0 hC0 h0 g0 ca gca uc) cw_X12_stepWord cl_RX12_208 g0 ⟨rfl, rfl⟩ rfl hl.1 rfl (Nat.zero_le _) (by decide) dX12_isKept_101) hS47 (fun v49 locs49 hr49 hS49 => ?_)
                              obtain ⟨f49_0, f49_1⟩ := hr49
                              refine q_if_ge hx hb (a := v49.toInt) rfl (tgt := 121) dX12_isKept_104 rfl (fun c50 => ?_) (fun c50 => ?_)
                              · refine lv_iconst (v := 1) hx hb dX12_isKept_121 rfl ?_
                                refine lv_goto (tgt := 126) hx hb dX12_isKept_122 rfl ?_
                                exact ret 1 H0 locs49 _ _ dX12_isKept_126 (Or.inr rfl) ⟨rfl, Or.inr rfl⟩ hC0 hS49
                              · refine lv_aload_n hx hb dX12_isKept_107 rfl (lv_at hl 0 rfl) ?_
                                refine q_goIp (q_runV (As := []) (rest := []) E hC0 hS49 (m_X12_testWord l X Γ H0 hC0 h0 g0 ca gca uc) cw_X12_testWord cl_RX12_212 g0 ⟨rfl, rfl⟩ rfl hl.1 rfl (Nat.zero_le _) (by decide) dX12_isKept_108) hS49 (fun v51 locs51 hr51 hS51 => ?_)
                                obtain ⟨f51_0, f51_1⟩ := hr51
                                refine q_if_ge hx hb (a := v51.toInt) rfl (tgt := 121) dX12_isKept_111 rfl (fun c52 => ?_) (fun c52 => ?_)
                                · refine lv_iconst (v := 1) hx hb dX12_isKept_121 rfl ?_
                                  refine lv_goto (tgt := 126) hx hb dX12_isKept_122 rfl ?_
                                  exact ret 1 H0 locs51 _ _ dX12_isKept_126 (Or.inr rfl) ⟨rfl, Or.inr rfl⟩ hC0 hS51
                                · refine lv_aload_n hx hb dX12_isKept_114 rfl (lv_at hl 0 rfl) ?_
                                  refine q_goIp (q_runV (As := []) (rest := []) E hC0 hS51 (m_X12_isEnd l X Γ H0 hC0 h0 g0 ca gca uc) cw_X12_isEnd cl_RX12_215 g0 ⟨rfl, rfl⟩ rfl hl.1 rfl (Nat.zero_le _) (by decide) dX12_isKept_115) hS51 (fun v53 locs53 hr53 hS53 => ?_)
                                  rcases hr53 with rfl | rfl
                                  · refine q_if_eq hx hb (a := 0) (by decide) (tgt := 125) dX12_isKept_118 rfl (fun c54 => ?_) (fun c54 => absurd c54 (by omega))
                                    refine lv_iconst (v := 0) hx hb dX12_isKept_125 rfl ?_
                                    exact ret 0 H0 locs53 _ _ dX12_isKept_126 (Or.inl rfl) ⟨rfl, Or.inl rfl⟩ hC0 hS53
                                  · refine q_if_eq hx hb (a := 1) (by decide) (tgt := 125) dX12_isKept_118 rfl (fun c55 => absurd c55 (by omega)) (fun c55 => ?_)
                                    refine lv_iconst (v := 1) hx hb dX12_isKept_121 rfl ?_
                                    refine lv_goto (tgt := 126) hx hb dX12_isKept_122 rfl ?_
                                    exact ret 1 H0 locs53 _ _ dX12_isKept_126 (Or.inr rfl) ⟨rfl, Or.inr rfl⟩ hC0 hS53
                            · refine q_if_ne hx hb (a := 1) (by decide) (tgt := 121) dX12_isKept_97 rfl (fun c56 => ?_) (fun c56 => absurd c56 (by omega))
                              refine lv_iconst (v := 1) hx hb dX12_isKept_121 rfl ?_
                              refine lv_goto (tgt := 126) hx hb dX12_isKept_122 rfl ?_
                              exact ret 1 H0 locs47 _ _ dX12_isKept_126 (Or.inr rfl) ⟨rfl, Or.inr rfl⟩ hC0 hS47
                          · refine q_if_ne hx hb (a := 1) (by decide) (tgt := 121) dX12_isKept_90 rfl (fun c57 => ?_) (fun c57 => absurd c57 (by omega))
                            refine lv_iconst (v := 1) hx hb dX12_isKept_121 rfl ?_
                            refine lv_goto (tgt := 126) hx hb dX12_isKept_122 rfl ?_
                            exact ret 1 H0 locs45 _ _ dX12_isKept_126 (Or.inr rfl) ⟨rfl, Or.inr rfl⟩ hC0 hS45
                        · refine q_if_eq hx hb (a := 1) (by decide) (tgt := 86) dX12_isKept_81 rfl (fun c58 => absurd c58 (by omega)) (fun c58 => ?_)
                          refine lv_iconst (v := 1) hx hb dX12_isKept_84 rfl ?_
                          exact ret 1 H0 locs43 _ _ dX12_isKept_85 (Or.inr rfl) ⟨rfl, Or.inr rfl⟩ hC0 hS43
                      · refine q_if_ne hx hb (a := 1) (by decide) (tgt := 84) dX12_isKept_74 rfl (fun c59 => ?_) (fun c59 => absurd c59 (by omega))
                        refine lv_iconst (v := 1) hx hb dX12_isKept_84 rfl ?_
                        exact ret 1 H0 locs41 _ _ dX12_isKept_85 (Or.inr rfl) ⟨rfl, Or.inr rfl⟩ hC0 hS41
                    · refine q_if_ne hx hb (a := 1) (by decide) (tgt := 84) dX12_isKept_67 rfl (fun c60 => ?_) (fun c60 => absurd c60 (by omega))
                      refine lv_iconst (v := 1) hx hb dX12_isKept_84 rfl ?_
                      exact ret 1 H0 locs39 _ _ dX12_isKept_85 (Or.inr rfl) ⟨rfl, Or.inr rfl⟩ hC0 hS39
                  · refine q_if_ne hx hb (a := 1) (by decide) (tgt := 84) dX12_isKept_60 rfl (fun c61 => ?_) (fun c61 => absurd c61 (by omega))
                    refine lv_iconst (v := 1) hx hb dX12_isKept_84 rfl ?_
                    exact ret 1 H0 locs37 _ _ dX12_isKept_85 (Or.inr rfl) ⟨rfl, Or.inr rfl⟩ hC0 hS37
                · refine q_if_ne hx hb (a := 1) (by decide) (tgt := 84) dX12_isKept_53 rfl (fun c62 => ?_) (fun c62 => absurd c62 (by omega))
                  refine lv_iconst (v := 1) hx hb dX12_isKept_84 rfl ?_
                  exact ret 1 H0 locs35 _ _ dX12_isKept_85 (Or.inr rfl) ⟨rfl, Or.inr rfl⟩ hC0 hS35
              · refine q_if_ne hx hb (a := 1) (by decide) (tgt := 84) dX12_isKept_46 rfl (fun c63 => ?_) (fun c63 => absurd c63 (by omega))
                refine lv_iconst (v := 1) hx hb dX12_isKept_84 rfl ?_
                exact ret 1 H0 locs33 _ _ dX12_isKept_85 (Or.inr rfl) ⟨rfl, Or.inr rfl⟩ hC0 hS33
            · refine q_if_ne hx hb (a := 1) (by decide) (tgt := 84) dX12_isKept_39 rfl (fun c64 => ?_) (fun c64 => absurd c64 (by omega))
              refine lv_iconst (v := 1) hx hb dX12_isKept_84 rfl ?_
              exact ret 1 H0 locs31 _ _ dX12_isKept_85 (Or.inr rfl) ⟨rfl, Or.inr rfl⟩ hC0 hS31
          · refine q_if_ne hx hb (a := 1) (by decide) (tgt := 84) dX12_isKept_32 rfl (fun c65 => ?_) (fun c65 => absurd c65 (by omega))
            refine lv_iconst (v := 1) hx hb dX12_isKept_84 rfl ?_
            exact ret 1 H0 locs29 _ _ dX12_isKept_85 (Or.inr rfl) ⟨rfl, Or.inr rfl⟩ hC0 hS29
        · refine q_if_ne hx hb (a := 1) (by decide) (tgt := 84) dX12_isKept_25 rfl (fun c66 => ?_) (fun c66 => absurd c66 (by omega))
          refine lv_iconst (v := 1) hx hb dX12_isKept_84 rfl ?_
          exact ret 1 H0 locs27 _ _ dX12_isKept_85 (Or.inr rfl) ⟨rfl, Or.inr rfl⟩ hC0 hS27
      · refine q_if_ne hx hb (a := 1) (by decide) (tgt := 84) dX12_isKept_18 rfl (fun c67 => ?_) (fun c67 => absurd c67 (by omega))
        refine lv_iconst (v := 1) hx hb dX12_isKept_84 rfl ?_
        exact ret 1 H0 locs25 _ _ dX12_isKept_85 (Or.inr rfl) ⟨rfl, Or.inr rfl⟩ hC0 hS25
    · refine q_if_ne hx hb (a := 1) (by decide) (tgt := 84) dX12_isKept_11 rfl (fun c68 => ?_) (fun c68 => absurd c68 (by omega))
      refine lv_iconst (v := 1) hx hb dX12_isKept_84 rfl ?_
      exact ret 1 H0 locs23 _ _ dX12_isKept_85 (Or.inr rfl) ⟨rfl, Or.inr rfl⟩ hC0 hS23
  · refine q_if_ne hx hb (a := 1) (by decide) (tgt := 84) dX12_isKept_4 rfl (fun c69 => ?_) (fun c69 => absurd c69 (by omega))
    refine lv_iconst (v := 1) hx hb dX12_isKept_84 rfl ?_
    exact ret 1 H0 locs21 _ _ dX12_isKept_85 (Or.inr rfl) ⟨rfl, Or.inr rfl⟩ hC0 hS21
set_option maxRecDepth 100000 in
set_option maxHeartbeats 4000000 in
theorem m_X12_readSchool (l : Launch) (X : xW) (Γ : Nat → Option Nat) (H0 : Heap) (hC0 : Conf X Γ H0) (h0 : Nat) (g0 : Γ h0 = some 11) (ca : Nat) (gca : Γ ca = some 64) (uc : ∀ a, Γ a = some 64 → a = ca) : Ctr l X Γ yX12_readSchool cX12_readSchool 2 none 4 [.ref h0] H0 (QV X Γ (fun H1 => Kp X Γ [1, 6, 7, 8, 9, 10, 11, 12, 14, 16, 17] H0 H1 ∧ (((sI H0 h0 (X.1.2 11 16)).toInt ≤ (sI H1 h0 (X.1.2 11 16)).toInt) ∧ ((sI H0 h0 (X.1.2 11 16)).toInt < (sI H1 h0 (X.1.2 11 16)).toInt + tk (sI H1 h0 (X.1.2 11 14)).toInt + 2000 * (sI H1 h0 (X.1.2 11 12)).toInt) ∧ ((sI H0 h0 (X.1.2 11 12)).toInt ≤ 7 * (sI H1 h0 (X.1.2 11 12)).toInt) ∧ (0 ≤ (sI H1 h0 (X.1.2 11 12)).toInt)))) := by
  refine q_enterV (own := "SnowFortsModel") (by decide) rfl (Nat.le_of_ble_eq_true rfl) ?_
  intro p e s m args below meth c ls Qz E hl ret hS0
  have hx := E.1; have hb := E.2.1
  have hKp0 : Kp X Γ [1, 6, 7, 8, 9, 10, 11, 12, 14, 16, 17] H0 H0 := Kp.rf
  have hl : lv_has ls 2 [(0, .ref h0)] := hl
  have hz1 := f_bd hC0 g0 (ci := 11) (k := 16) rfl rfl
  have hz2 := f_bd hC0 g0 (ci := 11) (k := 12) rfl rfl
  refine lv_aload_n hx hb dX12_readSchool_0 rfl (lv_at hl 0 rfl) ?_
  refine q_getC E hC0 g0 fa_RX12_35 uc dX12_readSchool_1 ?_
  refine lv_sipush (v := 2082) hx hb dX12_readSchool_4 rfl ?_
  refine q_cald E hC0 (lo := 0) (hi := 2) gca (a := 2082) (show (2082 : Int32).toInt = 2082 from by decide) (by omega) (by omega) (cr_n2 (by omega) (by omega)) dX12_readSchool_7 (fun v21 ev21 lv21 uv21 => ?_)
  refine lv_istore_n hx hb dX12_readSchool_8 rfl hl (by decide) rfl (fun ls hl => ?_)
  have hl : lv_has ls 2 [(1, .int v21), (0, .ref h0)] := hl
  refine lv_iload_n hx hb dX12_readSchool_9 rfl (lv_at hl 0 rfl) ?_
  refine lv_iconst (v := 2) hx hb dX12_readSchool_10 rfl ?_
  refine q_icmp_ne hx hb (a := v21.toInt) (b := 2) rfl (by decide) (tgt := 24) dX12_readSchool_11 rfl (fun c22 => ?_) (fun c22 => ?_)
  · refine lv_aload_n hx hb dX12_readSchool_24 rfl (lv_at hl 1 rfl) ?_
    refine q_getI E hC0 g0 fa_RX12_218 dX12_readSchool_25 (fun v23 ev23 lv23 uv23 => ?_)
    have m24 : (sI H0 h0 (X.1.2 11 12)).toInt = v23.toInt := (congrArg Int32.toInt ev23).trans rfl
    refine q_if_le hx hb (a := v23.toInt) rfl (tgt := 32) dX12_readSchool_28 rfl (fun c25 => ?_) (fun c25 => ?_)
    · refine lv_aload_n hx hb dX12_readSchool_32 rfl (lv_at hl 1 rfl) ?_
      refine q_goV (q_runV (As := []) (rest := []) E hC0 hS0 (m_X12_next l X Γ H0 hC0 h0 g0 ca gca uc) cw_X12_next cl_RX12_228 g0 ⟨rfl, rfl⟩ rfl hl.1 rfl (Nat.zero_le _) (by decide) dX12_readSchool_33) hS0 (fun H26 locs26 hr26 hC26 hS26 => ?_)
      obtain ⟨hp26, hr26⟩ := hr26
      have hKp26 := hKp0.tr (hp26.mono rfl)
      obtain ⟨f26_0, f26_1, f26_2⟩ := hr26
      refine lv_aload_n hx hb dX12_readSchool_36 rfl (lv_at hl 1 rfl) ?_
      refine q_getI E hC26 g0 fa_RX12_120 dX12_readSchool_37 (fun v27 ev27 _ _ => ?_)
      have m28 : (sI H26 h0 (X.1.2 11 14)).toInt = v27.toInt := (congrArg Int32.toInt ev27).trans rfl
      refine lv_iconst (v := 1) hx hb dX12_readSchool_40 rfl ?_
      refine q_icmp_ne hx hb (a := v27.toInt) (b := 1) rfl (by decide) (tgt := 60) dX12_readSchool_41 rfl (fun c29 => ?_) (fun c29 => ?_)
      · refine lv_aload_n hx hb dX12_readSchool_60 rfl (lv_at hl 1 rfl) ?_
        refine q_goV (q_runV (As := []) (rest := []) E hC26 hS26 (m_X12_wrong l X Γ H26 hC26 h0 g0 ca gca uc) cw_X12_wrong cl_RX12_231 g0 ⟨rfl, rfl⟩ rfl hl.1 rfl (Nat.zero_le _) (by decide) dX12_readSchool_61) hS26 (fun H30 locs30 hr30 hC30 hS30 => ?_)
        obtain ⟨hp30, hr30⟩ := hr30
        have hKp30 := hKp26.tr (hp30.mono rfl)
        obtain ⟨f30_0, f30_1, f30_2, f30_3⟩ := hr30
        refine lv_aload_n hx hb dX12_readSchool_64 rfl (lv_at hl 1 rfl) ?_
        refine q_getI E hC30 g0 fa_RX12_218 dX12_readSchool_65 (fun v31 ev31 lv31 uv31 => ?_)
        have m32 : (sI H30 h0 (X.1.2 11 12)).toInt = v31.toInt := (congrArg Int32.toInt ev31).trans rfl
        refine q_if_ne hx hb (a := v31.toInt) rfl (tgt := 99) dX12_readSchool_68 rfl (fun c33 => ?_) (fun c33 => ?_)
        · refine lv_aload_n hx hb dX12_readSchool_99 rfl (lv_at hl 1 rfl) ?_
          refine q_getI E hC30 g0 fa_RX12_218 dX12_readSchool_100 (fun v34 ev34 lv34 uv34 => ?_)
          have qv34 := ev31.symm.trans ev34; subst qv34
          refine q_if_le hx hb (a := v31.toInt) rfl (tgt := 107) dX12_readSchool_103 rfl (fun c35 => absurd c35 (by omega)) (fun c35 => ?_)
          have hz8 := tk_nn (sI H30 h0 (X.1.2 11 14)).toInt
          exact ret H30 locs30 _ _ dX12_readSchool_106 ⟨hKp30, ⟨by omega, by omega, by omega, by omega⟩⟩ hC30 hS30
        · refine lv_iload_n hx hb dX12_readSchool_71 rfl (lv_at hl 0 rfl) ?_
          refine lv_iconst (v := 1) hx hb dX12_readSchool_72 rfl ?_
          refine q_icmp_ne hx hb (a := v21.toInt) (b := 1) rfl (by decide) (tgt := 99) dX12_readSchool_73 rfl (fun c36 => ?_) (fun c36 => ?_)
          · refine lv_aload_n hx hb dX12_readSchool_99 rfl (lv_at hl 1 rfl) ?_
            refine q_getI E hC30 g0 fa_RX12_218 dX12_readSchool_100 (fun v37 ev37 lv37 uv37 => ?_)
            have qv37 := ev31.symm.trans ev37; subst qv37
            refine q_if_le hx hb (a := v31.toInt) rfl (tgt := 107) dX12_readSchool_103 rfl (fun c38 => ?_) (fun c38 => absurd c38 (by omega))
            refine lv_aload_n hx hb dX12_readSchool_107 rfl (lv_at hl 1 rfl) ?_
            refine q_getR E hC30 g0 fa_RX12_44 dX12_readSchool_108 (fun q39 eq39 gq39 => ?_)
            refine lv_iload_n hx hb dX12_readSchool_111 rfl (lv_at hl 0 rfl) ?_
            refine lv_aload_n hx hb dX12_readSchool_112 rfl (lv_at hl 1 rfl) ?_
            refine q_getJ E hC30 g0 fa_RX12_126 dX12_readSchool_113 (fun v40 ev40 => ?_)
            refine q_last E hC30 hS30 gq39 (by decide) rfl rfl (fun _ => rfl) (i_in (a := v21.toInt) rfl (by omega) (by omega)) dX12_readSchool_116 (fun H41 locs41 hC41 hS41 U41 => ?_)
            have hKp41 := Kp.upA gq39 rfl (by decide) rfl U41 hKp30
            have m42 : (sI H41 h0 (X.1.2 11 12)).toInt = (sI H30 h0 (X.1.2 11 12)).toInt := congrArg Int32.toInt (up_nI U41 (ne_k g0 gq39 (by decide)))
            have m43 : (sI H41 h0 (X.1.2 11 14)).toInt = (sI H30 h0 (X.1.2 11 14)).toInt := congrArg Int32.toInt (up_nI U41 (ne_k g0 gq39 (by decide)))
            have m44 := congrArg tk m43
            have m45 : (sI H41 h0 (X.1.2 11 16)).toInt = (sI H30 h0 (X.1.2 11 16)).toInt := congrArg Int32.toInt (up_nI U41 (ne_k g0 gq39 (by decide)))
            refine lv_aload_n hx hb dX12_readSchool_117 rfl (lv_at hl 1 rfl) ?_
            refine q_goV (q_runV (As := []) (rest := []) E hC41 hS41 (m_X12_next l X Γ H41 hC41 h0 g0 ca gca uc) cw_X12_next cl_RX12_228 g0 ⟨rfl, rfl⟩ rfl hl.1 rfl (Nat.zero_le _) (by decide) dX12_readSchool_118) hS41 (fun H46 locs46 hr46 hC46 hS46 => ?_)
            obtain ⟨hp46, hr46⟩ := hr46
            have hKp46 := hKp41.tr (hp46.mono rfl)
            obtain ⟨f46_0, f46_1, f46_2⟩ := hr46
            refine lv_aload_n hx hb dX12_readSchool_121 rfl (lv_at hl 1 rfl) ?_
            refine lv_aload_n hx hb dX12_readSchool_122 rfl (lv_at hl 1 rfl) ?_
            refine q_goIp (q_runV (As := []) (rest := [.ref h0]) E hC46 hS46 (m_X12_isHands l X Γ H46 hC46 h0 g0 ca gca uc) cw_X12_isHands cl_RX12_175 g0 ⟨rfl, rfl⟩ rfl hl.1 rfl (show _ ≤ _ from by simp [Value.category]) (by decide) dX12_readSchool_123) hS46 (fun v47 locs47 hr47 hS47 => ?_)
            have b47 : v47.toInt = 0 ∨ v47.toInt = 1 := hr47.imp (fun h => by rw [h]; decide) (fun h => by rw [h]; decide)
            refine q_goV (q_runV (As := [.int v47]) (rest := []) E hC46 hS47 (m_X12_must l X Γ H46 hC46 h0 g0 v47 (a1 := v47.toInt) rfl ca gca uc (by omega) (by omega)) cw_X12_must cl_RX12_244 g0 ⟨rfl, rfl⟩ rfl hl.1 rfl (Nat.zero_le _) (by decide) dX12_readSchool_126) hS47 (fun H48 locs48 hr48 hC48 hS48 => ?_)
            obtain ⟨hp48, hr48⟩ := hr48
            have hKp48 := hKp46.tr (hp48.mono rfl)
            obtain ⟨f48_0, f48_1, f48_2, f48_3, f48_4⟩ := hr48
            refine lv_aload_n hx hb dX12_readSchool_129 rfl (lv_at hl 1 rfl) ?_
            refine q_getC E hC48 g0 fa_RX12_35 uc dX12_readSchool_130 ?_
            refine lv_sipush (v := 2092) hx hb dX12_readSchool_133 rfl ?_
            refine lv_iload_n hx hb dX12_readSchool_136 rfl (lv_at hl 0 rfl) ?_
            refine lv_iadd hx hb dX12_readSchool_137 (lv_topi (fun v49 ev49 => ?_))
            have ev49i : v49.toInt = (2092 + v21.toInt) := i_add ev49 (by decide) rfl (by omega) (by omega)
            refine lv_aload_n hx hb dX12_readSchool_138 rfl (lv_at hl 1 rfl) ?_
            refine lv_iconst (v := 0) hx hb dX12_readSchool_139 rfl ?_
            refine lv_bipush (v := 40) hx hb dX12_readSchool_140 rfl ?_
            refine q_goI (q_runV (As := [.int 0, .int 40]) (rest := [.int v49, .ref ca]) E hC48 hS48 (m_X12_count l X Γ H48 hC48 h0 g0 0 (a1 := 0) (by decide) 40 (a2 := 40) (by decide) ca gca uc (by omega) (by omega) (by omega) (by omega)) cw_X12_count cl_RX12_248 g0 ⟨rfl, rfl⟩ rfl hl.1 rfl (show _ ≤ _ from by simp [Value.category]) (by decide) dX12_readSchool_142) hS48 (fun v50 H50 locs50 hr50 hC50 hS50 => ?_)
            obtain ⟨hp50, hr50⟩ := hr50
            have hKp50 := hKp48.tr (hp50.mono rfl)
            obtain ⟨f50_0, f50_1, f50_2, f50_3, f50_4, f50_5, f50_6, f50_7⟩ := hr50
            refine q_cast E hC50 hS50 gca (a := (2092 + v21.toInt)) ev49i (by omega) (by omega) (cs_n12 (a := (2092 + v21.toInt)) (b := v50.toInt) (by omega) (by omega) rfl (by omega) (by omega)) dX12_readSchool_145 (fun H51 locs51 hC51 hS51 U51 => ?_)
            have hKp51 := Kp.upD gca rfl rfl (fun _ => ⟨fun _ => nd4 (by omega) (by omega), fun _ => by unfold dpu; omega, fun _ => by unfold dpn; omega⟩) U51 hKp50
            have m52 : (sI H51 h0 (X.1.2 11 12)).toInt = (sI H50 h0 (X.1.2 11 12)).toInt := congrArg Int32.toInt (up_nI U51 (ne_k g0 gca (by decide)))
            have m53 : (sI H51 h0 (X.1.2 11 14)).toInt = (sI H50 h0 (X.1.2 11 14)).toInt := congrArg Int32.toInt (up_nI U51 (ne_k g0 gca (by decide)))
            have m54 := congrArg tk m53
            have m55 : (sI H51 h0 (X.1.2 11 16)).toInt = (sI H50 h0 (X.1.2 11 16)).toInt := congrArg Int32.toInt (up_nI U51 (ne_k g0 gca (by decide)))
            have e56 := up_I U51
            refine lv_aload_n hx hb dX12_readSchool_146 rfl (lv_at hl 1 rfl) ?_
            have e58 := (up_nI U41 (ne_k g0 gq39 (by decide))).trans ev31
            refine q_getI E hC51 g0 fa_RX12_218 dX12_readSchool_147 (fun v57 ev57 lv57 uv57 => ?_)
            have m59 : (sI H51 h0 (X.1.2 11 12)).toInt = v57.toInt := (congrArg Int32.toInt ev57).trans rfl
            refine q_if_ne hx hb (a := v57.toInt) rfl (tgt := 165) dX12_readSchool_150 rfl (fun c60 => ?_) (fun c60 => ?_)
            · have hz8 := tk_nn (sI H51 h0 (X.1.2 11 14)).toInt
              exact ret H51 locs51 _ _ dX12_readSchool_165 ⟨hKp51, ⟨by omega, by omega, by omega, by omega⟩⟩ hC51 hS51
            · refine lv_aload_n hx hb dX12_readSchool_153 rfl (lv_at hl 1 rfl) ?_
              refine q_getC E hC51 g0 fa_RX12_35 uc dX12_readSchool_154 ?_
              refine lv_sipush (v := 2082) hx hb dX12_readSchool_157 rfl ?_
              refine lv_dup2_11 hx hb dX12_readSchool_160 rfl rfl ?_
              have e62 := (kp_c (j := (2082 : Int).toNat) hp26 gca rfl).trans ev21
              have e63 := (kp_c (j := (2082 : Int).toNat) hp30 gca rfl).trans e62
              have e64 := (up_nI (a' := ca) (j' := (2082 : Int).toNat) U41 (ne_k gca gq39 (by decide))).trans e63
              have e65 := (kp_c (j := (2082 : Int).toNat) hp46 gca rfl).trans e64
              have e66 := (kp_c (j := (2082 : Int).toNat) hp48 gca rfl).trans e65
              have e67 := (kp_c (j := (2082 : Int).toNat) hp50 gca rfl).trans e66
              have e68 := (up_nI (a' := ca) (j' := (2082 : Int).toNat) U51 (fun h => by have h2 := h.2; omega)).trans e67
              refine q_cald E hC51 (lo := 0) (hi := 2) gca (a := 2082) (show (2082 : Int32).toInt = 2082 from by decide) (by omega) (by omega) (cr_n2 (by omega) (by omega)) dX12_readSchool_161 (fun v61 ev61 lv61 uv61 => ?_)
              have qv61 := e68.symm.trans ev61; subst qv61
              refine lv_iconst (v := 1) hx hb dX12_readSchool_162 rfl ?_
              refine lv_iadd hx hb dX12_readSchool_163 (lv_topi (fun v69 ev69 => ?_))
              have ev69i : v69.toInt = (v21.toInt + 1) := i_add ev69 rfl (by decide) (by omega) (by omega)
              refine q_cast E hC51 hS51 gca (a := 2082) (show (2082 : Int32).toInt = 2082 from by decide) (by omega) (by omega) (cs_n2 (a := 2082) (b := (v21.toInt + 1)) (by omega) (by omega) ev69i (by omega) (by omega)) dX12_readSchool_164 (fun H70 locs70 hC70 hS70 U70 => ?_)
              have hKp70 := Kp.upD gca rfl rfl (fun _ => ⟨fun _ => nd4 (by omega) (by omega), fun _ => by unfold dpu; omega, fun _ => by unfold dpn; omega⟩) U70 hKp51
              have m71 : (sI H70 h0 (X.1.2 11 12)).toInt = (sI H51 h0 (X.1.2 11 12)).toInt := congrArg Int32.toInt (up_nI U70 (ne_k g0 gca (by decide)))
              have m72 : (sI H70 h0 (X.1.2 11 14)).toInt = (sI H51 h0 (X.1.2 11 14)).toInt := congrArg Int32.toInt (up_nI U70 (ne_k g0 gca (by decide)))
              have m73 := congrArg tk m72
              have m74 : (sI H70 h0 (X.1.2 11 16)).toInt = (sI H51 h0 (X.1.2 11 16)).toInt := congrArg Int32.toInt (up_nI U70 (ne_k g0 gca (by decide)))
              have e75 := up_I U70
              have hz8 := tk_nn (sI H70 h0 (X.1.2 11 14)).toInt
              exact ret H70 locs70 _ _ dX12_readSchool_165 ⟨hKp70, ⟨by omega, by omega, by omega, by omega⟩⟩ hC70 hS70
          · refine lv_aload_n hx hb dX12_readSchool_76 rfl (lv_at hl 1 rfl) ?_
            refine q_getR E hC30 g0 fa_RX12_44 dX12_readSchool_77 (fun q76 eq76 gq76 => ?_)
            refine lv_iconst (v := 0) hx hb dX12_readSchool_80 rfl ?_
            refine q_lald E hC30 gq76 rfl rfl (fun _ => rfl) (i_in (a := 0) (show (0 : Int32).toInt = 0 from by decide) (by omega) (by omega)) dX12_readSchool_81 (fun v77 ev77 => ?_)
            refine lv_aload_n hx hb dX12_readSchool_82 rfl (lv_at hl 1 rfl) ?_
            refine q_getJ E hC30 g0 fa_RX12_126 dX12_readSchool_83 (fun v78 ev78 => ?_)
            refine q_lcmp_ne hx hb (a := v77.toInt) (b := v78.toInt) rfl rfl (tgt := 99) dX12_readSchool_86 dX12_readSchool_87 rfl (fun c79 => ?_) (fun c79 => ?_)
            · refine lv_aload_n hx hb dX12_readSchool_99 rfl (lv_at hl 1 rfl) ?_
              refine q_getI E hC30 g0 fa_RX12_218 dX12_readSchool_100 (fun v80 ev80 lv80 uv80 => ?_)
              have qv80 := ev31.symm.trans ev80; subst qv80
              refine q_if_le hx hb (a := v31.toInt) rfl (tgt := 107) dX12_readSchool_103 rfl (fun c81 => ?_) (fun c81 => absurd c81 (by omega))
              refine lv_aload_n hx hb dX12_readSchool_107 rfl (lv_at hl 1 rfl) ?_
              refine q_getR E hC30 g0 fa_RX12_44 dX12_readSchool_108 (fun q82 eq82 gq82 => ?_)
              refine lv_iload_n hx hb dX12_readSchool_111 rfl (lv_at hl 0 rfl) ?_
              refine lv_aload_n hx hb dX12_readSchool_112 rfl (lv_at hl 1 rfl) ?_
              refine q_getJ E hC30 g0 fa_RX12_126 dX12_readSchool_113 (fun v83 ev83 => ?_)
              refine q_last E hC30 hS30 gq82 (by decide) rfl rfl (fun _ => rfl) (i_in (a := v21.toInt) rfl (by omega) (by omega)) dX12_readSchool_116 (fun H84 locs84 hC84 hS84 U84 => ?_)
              have hKp84 := Kp.upA gq82 rfl (by decide) rfl U84 hKp30
              have m85 : (sI H84 h0 (X.1.2 11 12)).toInt = (sI H30 h0 (X.1.2 11 12)).toInt := congrArg Int32.toInt (up_nI U84 (ne_k g0 gq82 (by decide)))
              have m86 : (sI H84 h0 (X.1.2 11 14)).toInt = (sI H30 h0 (X.1.2 11 14)).toInt := congrArg Int32.toInt (up_nI U84 (ne_k g0 gq82 (by decide)))
              have m87 := congrArg tk m86
              have m88 : (sI H84 h0 (X.1.2 11 16)).toInt = (sI H30 h0 (X.1.2 11 16)).toInt := congrArg Int32.toInt (up_nI U84 (ne_k g0 gq82 (by decide)))
              refine lv_aload_n hx hb dX12_readSchool_117 rfl (lv_at hl 1 rfl) ?_
              refine q_goV (q_runV (As := []) (rest := []) E hC84 hS84 (m_X12_next l X Γ H84 hC84 h0 g0 ca gca uc) cw_X12_next cl_RX12_228 g0 ⟨rfl, rfl⟩ rfl hl.1 rfl (Nat.zero_le _) (by decide) dX12_readSchool_118) hS84 (fun H89 locs89 hr89 hC89 hS89 => ?_)
              obtain ⟨hp89, hr89⟩ := hr89
              have hKp89 := hKp84.tr (hp89.mono rfl)
              obtain ⟨f89_0, f89_1, f89_2⟩ := hr89
              refine lv_aload_n hx hb dX12_readSchool_121 rfl (lv_at hl 1 rfl) ?_
              refine lv_aload_n hx hb dX12_readSchool_122 rfl (lv_at hl 1 rfl) ?_
              refine q_goIp (q_runV (As := []) (rest := [.ref h0]) E hC89 hS89 (m_X12_isHands l X Γ H89 hC89 h0 g0 ca gca uc) cw_X12_isHands cl_RX12_175 g0 ⟨rfl, rfl⟩ rfl hl.1 rfl (show _ ≤ _ from by simp [Value.category]) (by decide) dX12_readSchool_123) hS89 (fun v90 locs90 hr90 hS90 => ?_)
              have b90 : v90.toInt = 0 ∨ v90.toInt = 1 := hr90.imp (fun h => by rw [h]; decide) (fun h => by rw [h]; decide)
              refine q_goV (q_runV (As := [.int v90]) (rest := []) E hC89 hS90 (m_X12_must l X Γ H89 hC89 h0 g0 v90 (a1 := v90.toInt) rfl ca gca uc (by omega) (by omega)) cw_X12_must cl_RX12_244 g0 ⟨rfl, rfl⟩ rfl hl.1 rfl (Nat.zero_le _) (by decide) dX12_readSchool_126) hS90 (fun H91 locs91 hr91 hC91 hS91 => ?_)
              obtain ⟨hp91, hr91⟩ := hr91
              have hKp91 := hKp89.tr (hp91.mono rfl)
              obtain ⟨f91_0, f91_1, f91_2, f91_3, f91_4⟩ := hr91
              refine lv_aload_n hx hb dX12_readSchool_129 rfl (lv_at hl 1 rfl) ?_
              refine q_getC E hC91 g0 fa_RX12_35 uc dX12_readSchool_130 ?_
              refine lv_sipush (v := 2092) hx hb dX12_readSchool_133 rfl ?_
              refine lv_iload_n hx hb dX12_readSchool_136 rfl (lv_at hl 0 rfl) ?_
              refine lv_iadd hx hb dX12_readSchool_137 (lv_topi (fun v92 ev92 => ?_))
              have ev92i : v92.toInt = (2092 + v21.toInt) := i_add ev92 (by decide) rfl (by omega) (by omega)
              refine lv_aload_n hx hb dX12_readSchool_138 rfl (lv_at hl 1 rfl) ?_
              refine lv_iconst (v := 0) hx hb dX12_readSchool_139 rfl ?_
              refine lv_bipush (v := 40) hx hb dX12_readSchool_140 rfl ?_
              refine q_goI (q_runV (As := [.int 0, .int 40]) (rest := [.int v92, .ref ca]) E hC91 hS91 (m_X12_count l X Γ H91 hC91 h0 g0 0 (a1 := 0) (by decide) 40 (a2 := 40) (by decide) ca gca uc (by omega) (by omega) (by omega) (by omega)) cw_X12_count cl_RX12_248 g0 ⟨rfl, rfl⟩ rfl hl.1 rfl (show _ ≤ _ from by simp [Value.category]) (by decide) dX12_readSchool_142) hS91 (fun v93 H93 locs93 hr93 hC93 hS93 => ?_)
              obtain ⟨hp93, hr93⟩ := hr93
              have hKp93 := hKp91.tr (hp93.mono rfl)
              obtain ⟨f93_0, f93_1, f93_2, f93_3, f93_4, f93_5, f93_6, f93_7⟩ := hr93
              refine q_cast E hC93 hS93 gca (a := (2092 + v21.toInt)) ev92i (by omega) (by omega) (cs_n12 (a := (2092 + v21.toInt)) (b := v93.toInt) (by omega) (by omega) rfl (by omega) (by omega)) dX12_readSchool_145 (fun H94 locs94 hC94 hS94 U94 => ?_)
              have hKp94 := Kp.upD gca rfl rfl (fun _ => ⟨fun _ => nd4 (by omega) (by omega), fun _ => by unfold dpu; omega, fun _ => by unfold dpn; omega⟩) U94 hKp93
              have m95 : (sI H94 h0 (X.1.2 11 12)).toInt = (sI H93 h0 (X.1.2 11 12)).toInt := congrArg Int32.toInt (up_nI U94 (ne_k g0 gca (by decide)))
              have m96 : (sI H94 h0 (X.1.2 11 14)).toInt = (sI H93 h0 (X.1.2 11 14)).toInt := congrArg Int32.toInt (up_nI U94 (ne_k g0 gca (by decide)))
              have m97 := congrArg tk m96
              have m98 : (sI H94 h0 (X.1.2 11 16)).toInt = (sI H93 h0 (X.1.2 11 16)).toInt := congrArg Int32.toInt (up_nI U94 (ne_k g0 gca (by decide)))
              have e99 := up_I U94
              refine lv_aload_n hx hb dX12_readSchool_146 rfl (lv_at hl 1 rfl) ?_
              have e101 := (up_nI U84 (ne_k g0 gq82 (by decide))).trans ev31
              refine q_getI E hC94 g0 fa_RX12_218 dX12_readSchool_147 (fun v100 ev100 lv100 uv100 => ?_)
              have m102 : (sI H94 h0 (X.1.2 11 12)).toInt = v100.toInt := (congrArg Int32.toInt ev100).trans rfl
              refine q_if_ne hx hb (a := v100.toInt) rfl (tgt := 165) dX12_readSchool_150 rfl (fun c103 => ?_) (fun c103 => ?_)
              · have hz8 := tk_nn (sI H94 h0 (X.1.2 11 14)).toInt
                exact ret H94 locs94 _ _ dX12_readSchool_165 ⟨hKp94, ⟨by omega, by omega, by omega, by omega⟩⟩ hC94 hS94
              · refine lv_aload_n hx hb dX12_readSchool_153 rfl (lv_at hl 1 rfl) ?_
                refine q_getC E hC94 g0 fa_RX12_35 uc dX12_readSchool_154 ?_
                refine lv_sipush (v := 2082) hx hb dX12_readSchool_157 rfl ?_
                refine lv_dup2_11 hx hb dX12_readSchool_160 rfl rfl ?_
                have e105 := (kp_c (j := (2082 : Int).toNat) hp26 gca rfl).trans ev21
                have e106 := (kp_c (j := (2082 : Int).toNat) hp30 gca rfl).trans e105
                have e107 := (up_nI (a' := ca) (j' := (2082 : Int).toNat) U84 (ne_k gca gq82 (by decide))).trans e106
                have e108 := (kp_c (j := (2082 : Int).toNat) hp89 gca rfl).trans e107
                have e109 := (kp_c (j := (2082 : Int).toNat) hp91 gca rfl).trans e108
                have e110 := (kp_c (j := (2082 : Int).toNat) hp93 gca rfl).trans e109
                have e111 := (up_nI (a' := ca) (j' := (2082 : Int).toNat) U94 (fun h => by have h2 := h.2; omega)).trans e110
                refine q_cald E hC94 (lo := 0) (hi := 2) gca (a := 2082) (show (2082 : Int32).toInt = 2082 from by decide) (by omega) (by omega) (cr_n2 (by omega) (by omega)) dX12_readSchool_161 (fun v104 ev104 lv104 uv104 => ?_)
                have qv104 := e111.symm.trans ev104; subst qv104
                refine lv_iconst (v := 1) hx hb dX12_readSchool_162 rfl ?_
                refine lv_iadd hx hb dX12_readSchool_163 (lv_topi (fun v112 ev112 => ?_))
                have ev112i : v112.toInt = (v21.toInt + 1) := i_add ev112 rfl (by decide) (by omega) (by omega)
                refine q_cast E hC94 hS94 gca (a := 2082) (show (2082 : Int32).toInt = 2082 from by decide) (by omega) (by omega) (cs_n2 (a := 2082) (b := (v21.toInt + 1)) (by omega) (by omega) ev112i (by omega) (by omega)) dX12_readSchool_164 (fun H113 locs113 hC113 hS113 U113 => ?_)
                have hKp113 := Kp.upD gca rfl rfl (fun _ => ⟨fun _ => nd4 (by omega) (by omega), fun _ => by unfold dpu; omega, fun _ => by unfold dpn; omega⟩) U113 hKp94
                have m114 : (sI H113 h0 (X.1.2 11 12)).toInt = (sI H94 h0 (X.1.2 11 12)).toInt := congrArg Int32.toInt (up_nI U113 (ne_k g0 gca (by decide)))
                have m115 : (sI H113 h0 (X.1.2 11 14)).toInt = (sI H94 h0 (X.1.2 11 14)).toInt := congrArg Int32.toInt (up_nI U113 (ne_k g0 gca (by decide)))
                have m116 := congrArg tk m115
                have m117 : (sI H113 h0 (X.1.2 11 16)).toInt = (sI H94 h0 (X.1.2 11 16)).toInt := congrArg Int32.toInt (up_nI U113 (ne_k g0 gca (by decide)))
                have e118 := up_I U113
                have hz8 := tk_nn (sI H113 h0 (X.1.2 11 14)).toInt
                exact ret H113 locs113 _ _ dX12_readSchool_165 ⟨hKp113, ⟨by omega, by omega, by omega, by omega⟩⟩ hC113 hS113
            · refine lv_aload_n hx hb dX12_readSchool_90 rfl (lv_at hl 1 rfl) ?_
              refine lv_iconst (v := 3) hx hb dX12_readSchool_91 rfl ?_
              refine lv_aload_n hx hb dX12_readSchool_92 rfl (lv_at hl 1 rfl) ?_
              refine q_getI E hC30 g0 fa_RX12_114 dX12_readSchool_93 (fun v119 ev119 lv119 uv119 => ?_)
              refine q_goV (q_runV (As := [.int 3, .int v119]) (rest := []) E hC30 hS30 (m_X12_fail l X Γ H30 hC30 h0 g0 3 (a1 := 3) (by decide) v119 (a2 := v119.toInt) rfl ca gca uc (by omega) (by omega)) cw_X12_fail cl_RX12_224 g0 ⟨rfl, rfl⟩ rfl hl.1 rfl (Nat.zero_le _) (by decide) dX12_readSchool_96) hS30 (fun H120 locs120 hr120 hC120 hS120 => ?_)
              obtain ⟨hp120, hr120⟩ := hr120
              have hKp120 := hKp30.tr (hp120.mono rfl)
              obtain ⟨f120_0, f120_1, f120_2, f120_3⟩ := hr120
              refine lv_aload_n hx hb dX12_readSchool_99 rfl (lv_at hl 1 rfl) ?_
              refine q_getI E hC120 g0 fa_RX12_218 dX12_readSchool_100 (fun v121 ev121 lv121 uv121 => ?_)
              have m122 : (sI H120 h0 (X.1.2 11 12)).toInt = v121.toInt := (congrArg Int32.toInt ev121).trans rfl
              refine q_if_le hx hb (a := v121.toInt) rfl (tgt := 107) dX12_readSchool_103 rfl (fun c123 => ?_) (fun c123 => ?_)
              · refine lv_aload_n hx hb dX12_readSchool_107 rfl (lv_at hl 1 rfl) ?_
                refine q_getR E hC120 g0 fa_RX12_44 dX12_readSchool_108 (fun q124 eq124 gq124 => ?_)
                refine lv_iload_n hx hb dX12_readSchool_111 rfl (lv_at hl 0 rfl) ?_
                refine lv_aload_n hx hb dX12_readSchool_112 rfl (lv_at hl 1 rfl) ?_
                refine q_getJ E hC120 g0 fa_RX12_126 dX12_readSchool_113 (fun v125 ev125 => ?_)
                refine q_last E hC120 hS120 gq124 (by decide) rfl rfl (fun _ => rfl) (i_in (a := v21.toInt) rfl (by omega) (by omega)) dX12_readSchool_116 (fun H126 locs126 hC126 hS126 U126 => ?_)
                have hKp126 := Kp.upA gq124 rfl (by decide) rfl U126 hKp120
                have m127 : (sI H126 h0 (X.1.2 11 12)).toInt = (sI H120 h0 (X.1.2 11 12)).toInt := congrArg Int32.toInt (up_nI U126 (ne_k g0 gq124 (by decide)))
                have m128 : (sI H126 h0 (X.1.2 11 14)).toInt = (sI H120 h0 (X.1.2 11 14)).toInt := congrArg Int32.toInt (up_nI U126 (ne_k g0 gq124 (by decide)))
                have m129 := congrArg tk m128
                have m130 : (sI H126 h0 (X.1.2 11 16)).toInt = (sI H120 h0 (X.1.2 11 16)).toInt := congrArg Int32.toInt (up_nI U126 (ne_k g0 gq124 (by decide)))
                refine lv_aload_n hx hb dX12_readSchool_117 rfl (lv_at hl 1 rfl) ?_
                refine q_goV (q_runV (As := []) (rest := []) E hC126 hS126 (m_X12_next l X Γ H126 hC126 h0 g0 ca gca uc) cw_X12_next cl_RX12_228 g0 ⟨rfl, rfl⟩ rfl hl.1 rfl (Nat.zero_le _) (by decide) dX12_readSchool_118) hS126 (fun H131 locs131 hr131 hC131 hS131 => ?_)
                obtain ⟨hp131, hr131⟩ := hr131
                have hKp131 := hKp126.tr (hp131.mono rfl)
                obtain ⟨f131_0, f131_1, f131_2⟩ := hr131
                refine lv_aload_n hx hb dX12_readSchool_121 rfl (lv_at hl 1 rfl) ?_
                refine lv_aload_n hx hb dX12_readSchool_122 rfl (lv_at hl 1 rfl) ?_
                refine q_goIp (q_runV (As := []) (rest := [.ref h0]) E hC131 hS131 (m_X12_isHands l X Γ H131 hC131 h0 g0 ca gca uc) cw_X12_isHands cl_RX12_175 g0 ⟨rfl, rfl⟩ rfl hl.1 rfl (show _ ≤ _ from by simp [Value.category]) (by decide) dX12_readSchool_123) hS131 (fun v132 locs132 hr132 hS132 => ?_)
                have b132 : v132.toInt = 0 ∨ v132.toInt = 1 := hr132.imp (fun h => by rw [h]; decide) (fun h => by rw [h]; decide)
                refine q_goV (q_runV (As := [.int v132]) (rest := []) E hC131 hS132 (m_X12_must l X Γ H131 hC131 h0 g0 v132 (a1 := v132.toInt) rfl ca gca uc (by omega) (by omega)) cw_X12_must cl_RX12_244 g0 ⟨rfl, rfl⟩ rfl hl.1 rfl (Nat.zero_le _) (by decide) dX12_readSchool_126) hS132 (fun H133 locs133 hr133 hC133 hS133 => ?_)
                obtain ⟨hp133, hr133⟩ := hr133
                have hKp133 := hKp131.tr (hp133.mono rfl)
                obtain ⟨f133_0, f133_1, f133_2, f133_3, f133_4⟩ := hr133
                refine lv_aload_n hx hb dX12_readSchool_129 rfl (lv_at hl 1 rfl) ?_
                refine q_getC E hC133 g0 fa_RX12_35 uc dX12_readSchool_130 ?_
                refine lv_sipush (v := 2092) hx hb dX12_readSchool_133 rfl ?_
                refine lv_iload_n hx hb dX12_readSchool_136 rfl (lv_at hl 0 rfl) ?_
                refine lv_iadd hx hb dX12_readSchool_137 (lv_topi (fun v134 ev134 => ?_))
                have ev134i : v134.toInt = (2092 + v21.toInt) := i_add ev134 (by decide) rfl (by omega) (by omega)
                refine lv_aload_n hx hb dX12_readSchool_138 rfl (lv_at hl 1 rfl) ?_
                refine lv_iconst (v := 0) hx hb dX12_readSchool_139 rfl ?_
                refine lv_bipush (v := 40) hx hb dX12_readSchool_140 rfl ?_
                refine q_goI (q_runV (As := [.int 0, .int 40]) (rest := [.int v134, .ref ca]) E hC133 hS133 (m_X12_count l X Γ H133 hC133 h0 g0 0 (a1 := 0) (by decide) 40 (a2 := 40) (by decide) ca gca uc (by omega) (by omega) (by omega) (by omega)) cw_X12_count cl_RX12_248 g0 ⟨rfl, rfl⟩ rfl hl.1 rfl (show _ ≤ _ from by simp [Value.category]) (by decide) dX12_readSchool_142) hS133 (fun v135 H135 locs135 hr135 hC135 hS135 => ?_)
                obtain ⟨hp135, hr135⟩ := hr135
                have hKp135 := hKp133.tr (hp135.mono rfl)
                obtain ⟨f135_0, f135_1, f135_2, f135_3, f135_4, f135_5, f135_6, f135_7⟩ := hr135
                refine q_cast E hC135 hS135 gca (a := (2092 + v21.toInt)) ev134i (by omega) (by omega) (cs_n12 (a := (2092 + v21.toInt)) (b := v135.toInt) (by omega) (by omega) rfl (by omega) (by omega)) dX12_readSchool_145 (fun H136 locs136 hC136 hS136 U136 => ?_)
                have hKp136 := Kp.upD gca rfl rfl (fun _ => ⟨fun _ => nd4 (by omega) (by omega), fun _ => by unfold dpu; omega, fun _ => by unfold dpn; omega⟩) U136 hKp135
                have m137 : (sI H136 h0 (X.1.2 11 12)).toInt = (sI H135 h0 (X.1.2 11 12)).toInt := congrArg Int32.toInt (up_nI U136 (ne_k g0 gca (by decide)))
                have m138 : (sI H136 h0 (X.1.2 11 14)).toInt = (sI H135 h0 (X.1.2 11 14)).toInt := congrArg Int32.toInt (up_nI U136 (ne_k g0 gca (by decide)))
                have m139 := congrArg tk m138
                have m140 : (sI H136 h0 (X.1.2 11 16)).toInt = (sI H135 h0 (X.1.2 11 16)).toInt := congrArg Int32.toInt (up_nI U136 (ne_k g0 gca (by decide)))
                have e141 := up_I U136
                refine lv_aload_n hx hb dX12_readSchool_146 rfl (lv_at hl 1 rfl) ?_
                have e143 := (up_nI U126 (ne_k g0 gq124 (by decide))).trans ev121
                refine q_getI E hC136 g0 fa_RX12_218 dX12_readSchool_147 (fun v142 ev142 lv142 uv142 => ?_)
                have m144 : (sI H136 h0 (X.1.2 11 12)).toInt = v142.toInt := (congrArg Int32.toInt ev142).trans rfl
                refine q_if_ne hx hb (a := v142.toInt) rfl (tgt := 165) dX12_readSchool_150 rfl (fun c145 => ?_) (fun c145 => ?_)
                · have hz8 := tk_nn (sI H136 h0 (X.1.2 11 14)).toInt
                  exact ret H136 locs136 _ _ dX12_readSchool_165 ⟨hKp136, ⟨by omega, by omega, by omega, by omega⟩⟩ hC136 hS136
                · refine lv_aload_n hx hb dX12_readSchool_153 rfl (lv_at hl 1 rfl) ?_
                  refine q_getC E hC136 g0 fa_RX12_35 uc dX12_readSchool_154 ?_
                  refine lv_sipush (v := 2082) hx hb dX12_readSchool_157 rfl ?_
                  refine lv_dup2_11 hx hb dX12_readSchool_160 rfl rfl ?_
                  have e147 := (kp_c (j := (2082 : Int).toNat) hp26 gca rfl).trans ev21
                  have e148 := (kp_c (j := (2082 : Int).toNat) hp30 gca rfl).trans e147
                  have e149 := (kp_c (j := (2082 : Int).toNat) hp120 gca rfl).trans e148
                  have e150 := (up_nI (a' := ca) (j' := (2082 : Int).toNat) U126 (ne_k gca gq124 (by decide))).trans e149
                  have e151 := (kp_c (j := (2082 : Int).toNat) hp131 gca rfl).trans e150
                  have e152 := (kp_c (j := (2082 : Int).toNat) hp133 gca rfl).trans e151
                  have e153 := (kp_c (j := (2082 : Int).toNat) hp135 gca rfl).trans e152
                  have e154 := (up_nI (a' := ca) (j' := (2082 : Int).toNat) U136 (fun h => by have h2 := h.2; omega)).trans e153
                  refine q_cald E hC136 (lo := 0) (hi := 2) gca (a := 2082) (show (2082 : Int32).toInt = 2082 from by decide) (by omega) (by omega) (cr_n2 (by omega) (by omega)) dX12_readSchool_161 (fun v146 ev146 lv146 uv146 => ?_)
                  have qv146 := e154.symm.trans ev146; subst qv146
                  refine lv_iconst (v := 1) hx hb dX12_readSchool_162 rfl ?_
                  refine lv_iadd hx hb dX12_readSchool_163 (lv_topi (fun v155 ev155 => ?_))
                  have ev155i : v155.toInt = (v21.toInt + 1) := i_add ev155 rfl (by decide) (by omega) (by omega)
                  refine q_cast E hC136 hS136 gca (a := 2082) (show (2082 : Int32).toInt = 2082 from by decide) (by omega) (by omega) (cs_n2 (a := 2082) (b := (v21.toInt + 1)) (by omega) (by omega) ev155i (by omega) (by omega)) dX12_readSchool_164 (fun H156 locs156 hC156 hS156 U156 => ?_)
                  have hKp156 := Kp.upD gca rfl rfl (fun _ => ⟨fun _ => nd4 (by omega) (by omega), fun _ => by unfold dpu; omega, fun _ => by unfold dpn; omega⟩) U156 hKp136
                  have m157 : (sI H156 h0 (X.1.2 11 12)).toInt = (sI H136 h0 (X.1.2 11 12)).toInt := congrArg Int32.toInt (up_nI U156 (ne_k g0 gca (by decide)))
                  have m158 : (sI H156 h0 (X.1.2 11 14)).toInt = (sI H136 h0 (X.1.2 11 14)).toInt := congrArg Int32.toInt (up_nI U156 (ne_k g0 gca (by decide)))
                  have m159 := congrArg tk m158
                  have m160 : (sI H156 h0 (X.1.2 11 16)).toInt = (sI H136 h0 (X.1.2 11 16)).toInt := congrArg Int32.toInt (up_nI U156 (ne_k g0 gca (by decide)))
                  have e161 := up_I U156
                  have hz8 := tk_nn (sI H156 h0 (X.1.2 11 14)).toInt
                  exact ret H156 locs156 _ _ dX12_readSchool_165 ⟨hKp156, ⟨by omega, by omega, by omega, by omega⟩⟩ hC156 hS156
              · have hz8 := tk_nn (sI H120 h0 (X.1.2 11 14)).toInt
                exact ret H120 locs120 _ _ dX12_readSchool_106 ⟨hKp120, ⟨by omega, by omega, by omega, by omega⟩⟩ hC120 hS120
      · refine lv_aload_n hx hb dX12_readSchool_44 rfl (lv_at hl 1 rfl) ?_
        refine q_getI E hC26 g0 fa_RX12_133 dX12_readSchool_45 (fun v162 ev162 _ _ => ?_)
        refine lv_bipush (v := 8) hx hb dX12_readSchool_48 rfl ?_
        refine q_icmp_gt hx hb (a := v162.toInt) (b := 8) rfl (by decide) (tgt := 60) dX12_readSchool_50 rfl (fun c163 => ?_) (fun c163 => ?_)
        · refine lv_aload_n hx hb dX12_readSchool_60 rfl (lv_at hl 1 rfl) ?_
          refine q_goV (q_runV (As := []) (rest := []) E hC26 hS26 (m_X12_wrong l X Γ H26 hC26 h0 g0 ca gca uc) cw_X12_wrong cl_RX12_231 g0 ⟨rfl, rfl⟩ rfl hl.1 rfl (Nat.zero_le _) (by decide) dX12_readSchool_61) hS26 (fun H164 locs164 hr164 hC164 hS164 => ?_)
          obtain ⟨hp164, hr164⟩ := hr164
          have hKp164 := hKp26.tr (hp164.mono rfl)
          obtain ⟨f164_0, f164_1, f164_2, f164_3⟩ := hr164
          refine lv_aload_n hx hb dX12_readSchool_64 rfl (lv_at hl 1 rfl) ?_
          refine q_getI E hC164 g0 fa_RX12_218 dX12_readSchool_65 (fun v165 ev165 lv165 uv165 => ?_)
          have m166 : (sI H164 h0 (X.1.2 11 12)).toInt = v165.toInt := (congrArg Int32.toInt ev165).trans rfl
          refine q_if_ne hx hb (a := v165.toInt) rfl (tgt := 99) dX12_readSchool_68 rfl (fun c167 => ?_) (fun c167 => ?_)
          · refine lv_aload_n hx hb dX12_readSchool_99 rfl (lv_at hl 1 rfl) ?_
            refine q_getI E hC164 g0 fa_RX12_218 dX12_readSchool_100 (fun v168 ev168 lv168 uv168 => ?_)
            have qv168 := ev165.symm.trans ev168; subst qv168
            refine q_if_le hx hb (a := v165.toInt) rfl (tgt := 107) dX12_readSchool_103 rfl (fun c169 => absurd c169 (by omega)) (fun c169 => ?_)
            have hz8 := tk_nn (sI H164 h0 (X.1.2 11 14)).toInt
            exact ret H164 locs164 _ _ dX12_readSchool_106 ⟨hKp164, ⟨by omega, by omega, by omega, by omega⟩⟩ hC164 hS164
          · refine lv_iload_n hx hb dX12_readSchool_71 rfl (lv_at hl 0 rfl) ?_
            refine lv_iconst (v := 1) hx hb dX12_readSchool_72 rfl ?_
            refine q_icmp_ne hx hb (a := v21.toInt) (b := 1) rfl (by decide) (tgt := 99) dX12_readSchool_73 rfl (fun c170 => ?_) (fun c170 => ?_)
            · refine lv_aload_n hx hb dX12_readSchool_99 rfl (lv_at hl 1 rfl) ?_
              refine q_getI E hC164 g0 fa_RX12_218 dX12_readSchool_100 (fun v171 ev171 lv171 uv171 => ?_)
              have qv171 := ev165.symm.trans ev171; subst qv171
              refine q_if_le hx hb (a := v165.toInt) rfl (tgt := 107) dX12_readSchool_103 rfl (fun c172 => ?_) (fun c172 => absurd c172 (by omega))
              refine lv_aload_n hx hb dX12_readSchool_107 rfl (lv_at hl 1 rfl) ?_
              refine q_getR E hC164 g0 fa_RX12_44 dX12_readSchool_108 (fun q173 eq173 gq173 => ?_)
              refine lv_iload_n hx hb dX12_readSchool_111 rfl (lv_at hl 0 rfl) ?_
              refine lv_aload_n hx hb dX12_readSchool_112 rfl (lv_at hl 1 rfl) ?_
              refine q_getJ E hC164 g0 fa_RX12_126 dX12_readSchool_113 (fun v174 ev174 => ?_)
              refine q_last E hC164 hS164 gq173 (by decide) rfl rfl (fun _ => rfl) (i_in (a := v21.toInt) rfl (by omega) (by omega)) dX12_readSchool_116 (fun H175 locs175 hC175 hS175 U175 => ?_)
              have hKp175 := Kp.upA gq173 rfl (by decide) rfl U175 hKp164
              have m176 : (sI H175 h0 (X.1.2 11 12)).toInt = (sI H164 h0 (X.1.2 11 12)).toInt := congrArg Int32.toInt (up_nI U175 (ne_k g0 gq173 (by decide)))
              have m177 : (sI H175 h0 (X.1.2 11 14)).toInt = (sI H164 h0 (X.1.2 11 14)).toInt := congrArg Int32.toInt (up_nI U175 (ne_k g0 gq173 (by decide)))
              have m178 := congrArg tk m177
              have m179 : (sI H175 h0 (X.1.2 11 16)).toInt = (sI H164 h0 (X.1.2 11 16)).toInt := congrArg Int32.toInt (up_nI U175 (ne_k g0 gq173 (by decide)))
              refine lv_aload_n hx hb dX12_readSchool_117 rfl (lv_at hl 1 rfl) ?_
              refine q_goV (q_runV (As := []) (rest := []) E hC175 hS175 (m_X12_next l X Γ H175 hC175 h0 g0 ca gca uc) cw_X12_next cl_RX12_228 g0 ⟨rfl, rfl⟩ rfl hl.1 rfl (Nat.zero_le _) (by decide) dX12_readSchool_118) hS175 (fun H180 locs180 hr180 hC180 hS180 => ?_)
              obtain ⟨hp180, hr180⟩ := hr180
              have hKp180 := hKp175.tr (hp180.mono rfl)
              obtain ⟨f180_0, f180_1, f180_2⟩ := hr180
              refine lv_aload_n hx hb dX12_readSchool_121 rfl (lv_at hl 1 rfl) ?_
              refine lv_aload_n hx hb dX12_readSchool_122 rfl (lv_at hl 1 rfl) ?_
              refine q_goIp (q_runV (As := []) (rest := [.ref h0]) E hC180 hS180 (m_X12_isHands l X Γ H180 hC180 h0 g0 ca gca uc) cw_X12_isHands cl_RX12_175 g0 ⟨rfl, rfl⟩ rfl hl.1 rfl (show _ ≤ _ from by simp [Value.category]) (by decide) dX12_readSchool_123) hS180 (fun v181 locs181 hr181 hS181 => ?_)
              have b181 : v181.toInt = 0 ∨ v181.toInt = 1 := hr181.imp (fun h => by rw [h]; decide) (fun h => by rw [h]; decide)
              refine q_goV (q_runV (As := [.int v181]) (rest := []) E hC180 hS181 (m_X12_must l X Γ H180 hC180 h0 g0 v181 (a1 := v181.toInt) rfl ca gca uc (by omega) (by omega)) cw_X12_must cl_RX12_244 g0 ⟨rfl, rfl⟩ rfl hl.1 rfl (Nat.zero_le _) (by decide) dX12_readSchool_126) hS181 (fun H182 locs182 hr182 hC182 hS182 => ?_)
              obtain ⟨hp182, hr182⟩ := hr182
              have hKp182 := hKp180.tr (hp182.mono rfl)
              obtain ⟨f182_0, f182_1, f182_2, f182_3, f182_4⟩ := hr182
              refine lv_aload_n hx hb dX12_readSchool_129 rfl (lv_at hl 1 rfl) ?_
              refine q_getC E hC182 g0 fa_RX12_35 uc dX12_readSchool_130 ?_
              refine lv_sipush (v := 2092) hx hb dX12_readSchool_133 rfl ?_
              refine lv_iload_n hx hb dX12_readSchool_136 rfl (lv_at hl 0 rfl) ?_
              refine lv_iadd hx hb dX12_readSchool_137 (lv_topi (fun v183 ev183 => ?_))
              have ev183i : v183.toInt = (2092 + v21.toInt) := i_add ev183 (by decide) rfl (by omega) (by omega)
              refine lv_aload_n hx hb dX12_readSchool_138 rfl (lv_at hl 1 rfl) ?_
              refine lv_iconst (v := 0) hx hb dX12_readSchool_139 rfl ?_
              refine lv_bipush (v := 40) hx hb dX12_readSchool_140 rfl ?_
              refine q_goI (q_runV (As := [.int 0, .int 40]) (rest := [.int v183, .ref ca]) E hC182 hS182 (m_X12_count l X Γ H182 hC182 h0 g0 0 (a1 := 0) (by decide) 40 (a2 := 40) (by decide) ca gca uc (by omega) (by omega) (by omega) (by omega)) cw_X12_count cl_RX12_248 g0 ⟨rfl, rfl⟩ rfl hl.1 rfl (show _ ≤ _ from by simp [Value.category]) (by decide) dX12_readSchool_142) hS182 (fun v184 H184 locs184 hr184 hC184 hS184 => ?_)
              obtain ⟨hp184, hr184⟩ := hr184
              have hKp184 := hKp182.tr (hp184.mono rfl)
              obtain ⟨f184_0, f184_1, f184_2, f184_3, f184_4, f184_5, f184_6, f184_7⟩ := hr184
              refine q_cast E hC184 hS184 gca (a := (2092 + v21.toInt)) ev183i (by omega) (by omega) (cs_n12 (a := (2092 + v21.toInt)) (b := v184.toInt) (by omega) (by omega) rfl (by omega) (by omega)) dX12_readSchool_145 (fun H185 locs185 hC185 hS185 U185 => ?_)
              have hKp185 := Kp.upD gca rfl rfl (fun _ => ⟨fun _ => nd4 (by omega) (by omega), fun _ => by unfold dpu; omega, fun _ => by unfold dpn; omega⟩) U185 hKp184
              have m186 : (sI H185 h0 (X.1.2 11 12)).toInt = (sI H184 h0 (X.1.2 11 12)).toInt := congrArg Int32.toInt (up_nI U185 (ne_k g0 gca (by decide)))
              have m187 : (sI H185 h0 (X.1.2 11 14)).toInt = (sI H184 h0 (X.1.2 11 14)).toInt := congrArg Int32.toInt (up_nI U185 (ne_k g0 gca (by decide)))
              have m188 := congrArg tk m187
              have m189 : (sI H185 h0 (X.1.2 11 16)).toInt = (sI H184 h0 (X.1.2 11 16)).toInt := congrArg Int32.toInt (up_nI U185 (ne_k g0 gca (by decide)))
              have e190 := up_I U185
              refine lv_aload_n hx hb dX12_readSchool_146 rfl (lv_at hl 1 rfl) ?_
              have e192 := (up_nI U175 (ne_k g0 gq173 (by decide))).trans ev165
              refine q_getI E hC185 g0 fa_RX12_218 dX12_readSchool_147 (fun v191 ev191 lv191 uv191 => ?_)
              have m193 : (sI H185 h0 (X.1.2 11 12)).toInt = v191.toInt := (congrArg Int32.toInt ev191).trans rfl
              refine q_if_ne hx hb (a := v191.toInt) rfl (tgt := 165) dX12_readSchool_150 rfl (fun c194 => ?_) (fun c194 => ?_)
              · have hz8 := tk_nn (sI H185 h0 (X.1.2 11 14)).toInt
                exact ret H185 locs185 _ _ dX12_readSchool_165 ⟨hKp185, ⟨by omega, by omega, by omega, by omega⟩⟩ hC185 hS185
              · refine lv_aload_n hx hb dX12_readSchool_153 rfl (lv_at hl 1 rfl) ?_
                refine q_getC E hC185 g0 fa_RX12_35 uc dX12_readSchool_154 ?_
                refine lv_sipush (v := 2082) hx hb dX12_readSchool_157 rfl ?_
                refine lv_dup2_11 hx hb dX12_readSchool_160 rfl rfl ?_
                have e196 := (kp_c (j := (2082 : Int).toNat) hp26 gca rfl).trans ev21
                have e197 := (kp_c (j := (2082 : Int).toNat) hp164 gca rfl).trans e196
                have e198 := (up_nI (a' := ca) (j' := (2082 : Int).toNat) U175 (ne_k gca gq173 (by decide))).trans e197
                have e199 := (kp_c (j := (2082 : Int).toNat) hp180 gca rfl).trans e198
                have e200 := (kp_c (j := (2082 : Int).toNat) hp182 gca rfl).trans e199
                have e201 := (kp_c (j := (2082 : Int).toNat) hp184 gca rfl).trans e200
                have e202 := (up_nI (a' := ca) (j' := (2082 : Int).toNat) U185 (fun h => by have h2 := h.2; omega)).trans e201
                refine q_cald E hC185 (lo := 0) (hi := 2) gca (a := 2082) (show (2082 : Int32).toInt = 2082 from by decide) (by omega) (by omega) (cr_n2 (by omega) (by omega)) dX12_readSchool_161 (fun v195 ev195 lv195 uv195 => ?_)
                have qv195 := e202.symm.trans ev195; subst qv195
                refine lv_iconst (v := 1) hx hb dX12_readSchool_162 rfl ?_
                refine lv_iadd hx hb dX12_readSchool_163 (lv_topi (fun v203 ev203 => ?_))
                have ev203i : v203.toInt = (v21.toInt + 1) := i_add ev203 rfl (by decide) (by omega) (by omega)
                refine q_cast E hC185 hS185 gca (a := 2082) (show (2082 : Int32).toInt = 2082 from by decide) (by omega) (by omega) (cs_n2 (a := 2082) (b := (v21.toInt + 1)) (by omega) (by omega) ev203i (by omega) (by omega)) dX12_readSchool_164 (fun H204 locs204 hC204 hS204 U204 => ?_)
                have hKp204 := Kp.upD gca rfl rfl (fun _ => ⟨fun _ => nd4 (by omega) (by omega), fun _ => by unfold dpu; omega, fun _ => by unfold dpn; omega⟩) U204 hKp185
                have m205 : (sI H204 h0 (X.1.2 11 12)).toInt = (sI H185 h0 (X.1.2 11 12)).toInt := congrArg Int32.toInt (up_nI U204 (ne_k g0 gca (by decide)))
                have m206 : (sI H204 h0 (X.1.2 11 14)).toInt = (sI H185 h0 (X.1.2 11 14)).toInt := congrArg Int32.toInt (up_nI U204 (ne_k g0 gca (by decide)))
                have m207 := congrArg tk m206
                have m208 : (sI H204 h0 (X.1.2 11 16)).toInt = (sI H185 h0 (X.1.2 11 16)).toInt := congrArg Int32.toInt (up_nI U204 (ne_k g0 gca (by decide)))
                have e209 := up_I U204
                have hz8 := tk_nn (sI H204 h0 (X.1.2 11 14)).toInt
                exact ret H204 locs204 _ _ dX12_readSchool_165 ⟨hKp204, ⟨by omega, by omega, by omega, by omega⟩⟩ hC204 hS204
            · refine lv_aload_n hx hb dX12_readSchool_76 rfl (lv_at hl 1 rfl) ?_
              refine q_getR E hC164 g0 fa_RX12_44 dX12_readSchool_77 (fun q210 eq210 gq210 => ?_)
              refine lv_iconst (v := 0) hx hb dX12_readSchool_80 rfl ?_
              refine q_lald E hC164 gq210 rfl rfl (fun _ => rfl) (i_in (a := 0) (show (0 : Int32).toInt = 0 from by decide) (by omega) (by omega)) dX12_readSchool_81 (fun v211 ev211 => ?_)
              refine lv_aload_n hx hb dX12_readSchool_82 rfl (lv_at hl 1 rfl) ?_
              refine q_getJ E hC164 g0 fa_RX12_126 dX12_readSchool_83 (fun v212 ev212 => ?_)
              refine q_lcmp_ne hx hb (a := v211.toInt) (b := v212.toInt) rfl rfl (tgt := 99) dX12_readSchool_86 dX12_readSchool_87 rfl (fun c213 => ?_) (fun c213 => ?_)
              · refine lv_aload_n hx hb dX12_readSchool_99 rfl (lv_at hl 1 rfl) ?_
                refine q_getI E hC164 g0 fa_RX12_218 dX12_readSchool_100 (fun v214 ev214 lv214 uv214 => ?_)
                have qv214 := ev165.symm.trans ev214; subst qv214
                refine q_if_le hx hb (a := v165.toInt) rfl (tgt := 107) dX12_readSchool_103 rfl (fun c215 => ?_) (fun c215 => absurd c215 (by omega))
                refine lv_aload_n hx hb dX12_readSchool_107 rfl (lv_at hl 1 rfl) ?_
                refine q_getR E hC164 g0 fa_RX12_44 dX12_readSchool_108 (fun q216 eq216 gq216 => ?_)
                refine lv_iload_n hx hb dX12_readSchool_111 rfl (lv_at hl 0 rfl) ?_
                refine lv_aload_n hx hb dX12_readSchool_112 rfl (lv_at hl 1 rfl) ?_
                refine q_getJ E hC164 g0 fa_RX12_126 dX12_readSchool_113 (fun v217 ev217 => ?_)
                refine q_last E hC164 hS164 gq216 (by decide) rfl rfl (fun _ => rfl) (i_in (a := v21.toInt) rfl (by omega) (by omega)) dX12_readSchool_116 (fun H218 locs218 hC218 hS218 U218 => ?_)
                have hKp218 := Kp.upA gq216 rfl (by decide) rfl U218 hKp164
                have m219 : (sI H218 h0 (X.1.2 11 12)).toInt = (sI H164 h0 (X.1.2 11 12)).toInt := congrArg Int32.toInt (up_nI U218 (ne_k g0 gq216 (by decide)))
                have m220 : (sI H218 h0 (X.1.2 11 14)).toInt = (sI H164 h0 (X.1.2 11 14)).toInt := congrArg Int32.toInt (up_nI U218 (ne_k g0 gq216 (by decide)))
                have m221 := congrArg tk m220
                have m222 : (sI H218 h0 (X.1.2 11 16)).toInt = (sI H164 h0 (X.1.2 11 16)).toInt := congrArg Int32.toInt (up_nI U218 (ne_k g0 gq216 (by decide)))
                refine lv_aload_n hx hb dX12_readSchool_117 rfl (lv_at hl 1 rfl) ?_
                refine q_goV (q_runV (As := []) (rest := []) E hC218 hS218 (m_X12_next l X Γ H218 hC218 h0 g0 ca gca uc) cw_X12_next cl_RX12_228 g0 ⟨rfl, rfl⟩ rfl hl.1 rfl (Nat.zero_le _) (by decide) dX12_readSchool_118) hS218 (fun H223 locs223 hr223 hC223 hS223 => ?_)
                obtain ⟨hp223, hr223⟩ := hr223
                have hKp223 := hKp218.tr (hp223.mono rfl)
                obtain ⟨f223_0, f223_1, f223_2⟩ := hr223
                refine lv_aload_n hx hb dX12_readSchool_121 rfl (lv_at hl 1 rfl) ?_
                refine lv_aload_n hx hb dX12_readSchool_122 rfl (lv_at hl 1 rfl) ?_
                refine q_goIp (q_runV (As := []) (rest := [.ref h0]) E hC223 hS223 (m_X12_isHands l X Γ H223 hC223 h0 g0 ca gca uc) cw_X12_isHands cl_RX12_175 g0 ⟨rfl, rfl⟩ rfl hl.1 rfl (show _ ≤ _ from by simp [Value.category]) (by decide) dX12_readSchool_123) hS223 (fun v224 locs224 hr224 hS224 => ?_)
                have b224 : v224.toInt = 0 ∨ v224.toInt = 1 := hr224.imp (fun h => by rw [h]; decide) (fun h => by rw [h]; decide)
                refine q_goV (q_runV (As := [.int v224]) (rest := []) E hC223 hS224 (m_X12_must l X Γ H223 hC223 h0 g0 v224 (a1 := v224.toInt) rfl ca gca uc (by omega) (by omega)) cw_X12_must cl_RX12_244 g0 ⟨rfl, rfl⟩ rfl hl.1 rfl (Nat.zero_le _) (by decide) dX12_readSchool_126) hS224 (fun H225 locs225 hr225 hC225 hS225 => ?_)
                obtain ⟨hp225, hr225⟩ := hr225
                have hKp225 := hKp223.tr (hp225.mono rfl)
                obtain ⟨f225_0, f225_1, f225_2, f225_3, f225_4⟩ := hr225
                refine lv_aload_n hx hb dX12_readSchool_129 rfl (lv_at hl 1 rfl) ?_
                refine q_getC E hC225 g0 fa_RX12_35 uc dX12_readSchool_130 ?_
                refine lv_sipush (v := 2092) hx hb dX12_readSchool_133 rfl ?_
                refine lv_iload_n hx hb dX12_readSchool_136 rfl (lv_at hl 0 rfl) ?_
                refine lv_iadd hx hb dX12_readSchool_137 (lv_topi (fun v226 ev226 => ?_))
                have ev226i : v226.toInt = (2092 + v21.toInt) := i_add ev226 (by decide) rfl (by omega) (by omega)
                refine lv_aload_n hx hb dX12_readSchool_138 rfl (lv_at hl 1 rfl) ?_
                refine lv_iconst (v := 0) hx hb dX12_readSchool_139 rfl ?_
                refine lv_bipush (v := 40) hx hb dX12_readSchool_140 rfl ?_
                refine q_goI (q_runV (As := [.int 0, .int 40]) (rest := [.int v226, .ref ca]) E hC225 hS225 (m_X12_count l X Γ H225 hC225 h0 g0 0 (a1 := 0) (by decide) 40 (a2 := 40) (by decide) ca gca uc (by omega) (by omega) (by omega) (by omega)) cw_X12_count cl_RX12_248 g0 ⟨rfl, rfl⟩ rfl hl.1 rfl (show _ ≤ _ from by simp [Value.category]) (by decide) dX12_readSchool_142) hS225 (fun v227 H227 locs227 hr227 hC227 hS227 => ?_)
                obtain ⟨hp227, hr227⟩ := hr227
                have hKp227 := hKp225.tr (hp227.mono rfl)
                obtain ⟨f227_0, f227_1, f227_2, f227_3, f227_4, f227_5, f227_6, f227_7⟩ := hr227
                refine q_cast E hC227 hS227 gca (a := (2092 + v21.toInt)) ev226i (by omega) (by omega) (cs_n12 (a := (2092 + v21.toInt)) (b := v227.toInt) (by omega) (by omega) rfl (by omega) (by omega)) dX12_readSchool_145 (fun H228 locs228 hC228 hS228 U228 => ?_)
                have hKp228 := Kp.upD gca rfl rfl (fun _ => ⟨fun _ => nd4 (by omega) (by omega), fun _ => by unfold dpu; omega, fun _ => by unfold dpn; omega⟩) U228 hKp227
                have m229 : (sI H228 h0 (X.1.2 11 12)).toInt = (sI H227 h0 (X.1.2 11 12)).toInt := congrArg Int32.toInt (up_nI U228 (ne_k g0 gca (by decide)))
                have m230 : (sI H228 h0 (X.1.2 11 14)).toInt = (sI H227 h0 (X.1.2 11 14)).toInt := congrArg Int32.toInt (up_nI U228 (ne_k g0 gca (by decide)))
                have m231 := congrArg tk m230
                have m232 : (sI H228 h0 (X.1.2 11 16)).toInt = (sI H227 h0 (X.1.2 11 16)).toInt := congrArg Int32.toInt (up_nI U228 (ne_k g0 gca (by decide)))
                have e233 := up_I U228
                refine lv_aload_n hx hb dX12_readSchool_146 rfl (lv_at hl 1 rfl) ?_
                have e235 := (up_nI U218 (ne_k g0 gq216 (by decide))).trans ev165
                refine q_getI E hC228 g0 fa_RX12_218 dX12_readSchool_147 (fun v234 ev234 lv234 uv234 => ?_)
                have m236 : (sI H228 h0 (X.1.2 11 12)).toInt = v234.toInt := (congrArg Int32.toInt ev234).trans rfl
                refine q_if_ne hx hb (a := v234.toInt) rfl (tgt := 165) dX12_readSchool_150 rfl (fun c237 => ?_) (fun c237 => ?_)
                · have hz8 := tk_nn (sI H228 h0 (X.1.2 11 14)).toInt
                  exact ret H228 locs228 _ _ dX12_readSchool_165 ⟨hKp228, ⟨by omega, by omega, by omega, by omega⟩⟩ hC228 hS228
                · refine lv_aload_n hx hb dX12_readSchool_153 rfl (lv_at hl 1 rfl) ?_
                  refine q_getC E hC228 g0 fa_RX12_35 uc dX12_readSchool_154 ?_
                  refine lv_sipush (v := 2082) hx hb dX12_readSchool_157 rfl ?_
                  refine lv_dup2_11 hx hb dX12_readSchool_160 rfl rfl ?_
                  have e239 := (kp_c (j := (2082 : Int).toNat) hp26 gca rfl).trans ev21
                  have e240 := (kp_c (j := (2082 : Int).toNat) hp164 gca rfl).trans e239
                  have e241 := (up_nI (a' := ca) (j' := (2082 : Int).toNat) U218 (ne_k gca gq216 (by decide))).trans e240
                  have e242 := (kp_c (j := (2082 : Int).toNat) hp223 gca rfl).trans e241
                  have e243 := (kp_c (j := (2082 : Int).toNat) hp225 gca rfl).trans e242
                  have e244 := (kp_c (j := (2082 : Int).toNat) hp227 gca rfl).trans e243
                  have e245 := (up_nI (a' := ca) (j' := (2082 : Int).toNat) U228 (fun h => by have h2 := h.2; omega)).trans e244
                  refine q_cald E hC228 (lo := 0) (hi := 2) gca (a := 2082) (show (2082 : Int32).toInt = 2082 from by decide) (by omega) (by omega) (cr_n2 (by omega) (by omega)) dX12_readSchool_161 (fun v238 ev238 lv238 uv238 => ?_)
                  have qv238 := e245.symm.trans ev238; subst qv238
                  refine lv_iconst (v := 1) hx hb dX12_readSchool_162 rfl ?_
                  refine lv_iadd hx hb dX12_readSchool_163 (lv_topi (fun v246 ev246 => ?_))
                  have ev246i : v246.toInt = (v21.toInt + 1) := i_add ev246 rfl (by decide) (by omega) (by omega)
                  refine q_cast E hC228 hS228 gca (a := 2082) (show (2082 : Int32).toInt = 2082 from by decide) (by omega) (by omega) (cs_n2 (a := 2082) (b := (v21.toInt + 1)) (by omega) (by omega) ev246i (by omega) (by omega)) dX12_readSchool_164 (fun H247 locs247 hC247 hS247 U247 => ?_)
                  have hKp247 := Kp.upD gca rfl rfl (fun _ => ⟨fun _ => nd4 (by omega) (by omega), fun _ => by unfold dpu; omega, fun _ => by unfold dpn; omega⟩) U247 hKp228
                  have m248 : (sI H247 h0 (X.1.2 11 12)).toInt = (sI H228 h0 (X.1.2 11 12)).toInt := congrArg Int32.toInt (up_nI U247 (ne_k g0 gca (by decide)))
                  have m249 : (sI H247 h0 (X.1.2 11 14)).toInt = (sI H228 h0 (X.1.2 11 14)).toInt := congrArg Int32.toInt (up_nI U247 (ne_k g0 gca (by decide)))
                  have m250 := congrArg tk m249
                  have m251 : (sI H247 h0 (X.1.2 11 16)).toInt = (sI H228 h0 (X.1.2 11 16)).toInt := congrArg Int32.toInt (up_nI U247 (ne_k g0 gca (by decide)))
                  have e252 := up_I U247
                  have hz8 := tk_nn (sI H247 h0 (X.1.2 11 14)).toInt
                  exact ret H247 locs247 _ _ dX12_readSchool_165 ⟨hKp247, ⟨by omega, by omega, by omega, by omega⟩⟩ hC247 hS247
              · refine lv_aload_n hx hb dX12_readSchool_90 rfl (lv_at hl 1 rfl) ?_
                refine lv_iconst (v := 3) hx hb dX12_readSchool_91 rfl ?_
                refine lv_aload_n hx hb dX12_readSchool_92 rfl (lv_at hl 1 rfl) ?_
                refine q_getI E hC164 g0 fa_RX12_114 dX12_readSchool_93 (fun v253 ev253 lv253 uv253 => ?_)
                refine q_goV (q_runV (As := [.int 3, .int v253]) (rest := []) E hC164 hS164 (m_X12_fail l X Γ H164 hC164 h0 g0 3 (a1 := 3) (by decide) v253 (a2 := v253.toInt) rfl ca gca uc (by omega) (by omega)) cw_X12_fail cl_RX12_224 g0 ⟨rfl, rfl⟩ rfl hl.1 rfl (Nat.zero_le _) (by decide) dX12_readSchool_96) hS164 (fun H254 locs254 hr254 hC254 hS254 => ?_)
                obtain ⟨hp254, hr254⟩ := hr254
                have hKp254 := hKp164.tr (hp254.mono rfl)
                obtain ⟨f254_0, f254_1, f254_2, f254_3⟩ := hr254
                refine lv_aload_n hx hb dX12_readSchool_99 rfl (lv_at hl 1 rfl) ?_
                refine q_getI E hC254 g0 fa_RX12_218 dX12_readSchool_100 (fun v255 ev255 lv255 uv255 => ?_)
                have m256 : (sI H254 h0 (X.1.2 11 12)).toInt = v255.toInt := (congrArg Int32.toInt ev255).trans rfl
                refine q_if_le hx hb (a := v255.toInt) rfl (tgt := 107) dX12_readSchool_103 rfl (fun c257 => ?_) (fun c257 => ?_)
                · refine lv_aload_n hx hb dX12_readSchool_107 rfl (lv_at hl 1 rfl) ?_
                  refine q_getR E hC254 g0 fa_RX12_44 dX12_readSchool_108 (fun q258 eq258 gq258 => ?_)
                  refine lv_iload_n hx hb dX12_readSchool_111 rfl (lv_at hl 0 rfl) ?_
                  refine lv_aload_n hx hb dX12_readSchool_112 rfl (lv_at hl 1 rfl) ?_
                  refine q_getJ E hC254 g0 fa_RX12_126 dX12_readSchool_113 (fun v259 ev259 => ?_)
                  refine q_last E hC254 hS254 gq258 (by decide) rfl rfl (fun _ => rfl) (i_in (a := v21.toInt) rfl (by omega) (by omega)) dX12_readSchool_116 (fun H260 locs260 hC260 hS260 U260 => ?_)
                  have hKp260 := Kp.upA gq258 rfl (by decide) rfl U260 hKp254
                  have m261 : (sI H260 h0 (X.1.2 11 12)).toInt = (sI H254 h0 (X.1.2 11 12)).toInt := congrArg Int32.toInt (up_nI U260 (ne_k g0 gq258 (by decide)))
                  have m262 : (sI H260 h0 (X.1.2 11 14)).toInt = (sI H254 h0 (X.1.2 11 14)).toInt := congrArg Int32.toInt (up_nI U260 (ne_k g0 gq258 (by decide)))
                  have m263 := congrArg tk m262
                  have m264 : (sI H260 h0 (X.1.2 11 16)).toInt = (sI H254 h0 (X.1.2 11 16)).toInt := congrArg Int32.toInt (up_nI U260 (ne_k g0 gq258 (by decide)))
                  refine lv_aload_n hx hb dX12_readSchool_117 rfl (lv_at hl 1 rfl) ?_
                  refine q_goV (q_runV (As := []) (rest := []) E hC260 hS260 (m_X12_next l X Γ H260 hC260 h0 g0 ca gca uc) cw_X12_next cl_RX12_228 g0 ⟨rfl, rfl⟩ rfl hl.1 rfl (Nat.zero_le _) (by decide) dX12_readSchool_118) hS260 (fun H265 locs265 hr265 hC265 hS265 => ?_)
                  obtain ⟨hp265, hr265⟩ := hr265
                  have hKp265 := hKp260.tr (hp265.mono rfl)
                  obtain ⟨f265_0, f265_1, f265_2⟩ := hr265
                  refine lv_aload_n hx hb dX12_readSchool_121 rfl (lv_at hl 1 rfl) ?_
                  refine lv_aload_n hx hb dX12_readSchool_122 rfl (lv_at hl 1 rfl) ?_
                  refine q_goIp (q_runV (As := []) (rest := [.ref h0]) E hC265 hS265 (m_X12_isHands l X Γ H265 hC265 h0 g0 ca gca uc) cw_X12_isHands cl_RX12_175 g0 ⟨rfl, rfl⟩ rfl hl.1 rfl (show _ ≤ _ from by simp [Value.category]) (by decide) dX12_readSchool_123) hS265 (fun v266 locs266 hr266 hS266 => ?_)
                  have b266 : v266.toInt = 0 ∨ v266.toInt = 1 := hr266.imp (fun h => by rw [h]; decide) (fun h => by rw [h]; decide)
                  refine q_goV (q_runV (As := [.int v266]) (rest := []) E hC265 hS266 (m_X12_must l X Γ H265 hC265 h0 g0 v266 (a1 := v266.toInt) rfl ca gca uc (by omega) (by omega)) cw_X12_must cl_RX12_244 g0 ⟨rfl, rfl⟩ rfl hl.1 rfl (Nat.zero_le _) (by decide) dX12_readSchool_126) hS266 (fun H267 locs267 hr267 hC267 hS267 => ?_)
                  obtain ⟨hp267, hr267⟩ := hr267
                  have hKp267 := hKp265.tr (hp267.mono rfl)
                  obtain ⟨f267_0, f267_1, f267_2, f267_3, f267_4⟩ := hr267
                  refine lv_aload_n hx hb dX12_readSchool_129 rfl (lv_at hl 1 rfl) ?_
                  refine q_getC E hC267 g0 fa_RX12_35 uc dX12_readSchool_130 ?_
                  refine lv_sipush (v := 2092) hx hb dX12_readSchool_133 rfl ?_
                  refine lv_iload_n hx hb dX12_readSchool_136 rfl (lv_at hl 0 rfl) ?_
                  refine lv_iadd hx hb dX12_readSchool_137 (lv_topi (fun v268 ev268 => ?_))
                  have ev268i : v268.toInt = (2092 + v21.toInt) := i_add ev268 (by decide) rfl (by omega) (by omega)
                  refine lv_aload_n hx hb dX12_readSchool_138 rfl (lv_at hl 1 rfl) ?_
                  refine lv_iconst (v := 0) hx hb dX12_readSchool_139 rfl ?_
                  refine lv_bipush (v := 40) hx hb dX12_readSchool_140 rfl ?_
                  refine q_goI (q_runV (As := [.int 0, .int 40]) (rest := [.int v268, .ref ca]) E hC267 hS267 (m_X12_count l X Γ H267 hC267 h0 g0 0 (a1 := 0) (by decide) 40 (a2 := 40) (by decide) ca gca uc (by omega) (by omega) (by omega) (by omega)) cw_X12_count cl_RX12_248 g0 ⟨rfl, rfl⟩ rfl hl.1 rfl (show _ ≤ _ from by simp [Value.category]) (by decide) dX12_readSchool_142) hS267 (fun v269 H269 locs269 hr269 hC269 hS269 => ?_)
                  obtain ⟨hp269, hr269⟩ := hr269
                  have hKp269 := hKp267.tr (hp269.mono rfl)
                  obtain ⟨f269_0, f269_1, f269_2, f269_3, f269_4, f269_5, f269_6, f269_7⟩ := hr269
                  refine q_cast E hC269 hS269 gca (a := (2092 + v21.toInt)) ev268i (by omega) (by omega) (cs_n12 (a := (2092 + v21.toInt)) (b := v269.toInt) (by omega) (by omega) rfl (by omega) (by omega)) dX12_readSchool_145 (fun H270 locs270 hC270 hS270 U270 => ?_)
                  have hKp270 := Kp.upD gca rfl rfl (fun _ => ⟨fun _ => nd4 (by omega) (by omega), fun _ => by unfold dpu; omega, fun _ => by unfold dpn; omega⟩) U270 hKp269
                  have m271 : (sI H270 h0 (X.1.2 11 12)).toInt = (sI H269 h0 (X.1.2 11 12)).toInt := congrArg Int32.toInt (up_nI U270 (ne_k g0 gca (by decide)))
                  have m272 : (sI H270 h0 (X.1.2 11 14)).toInt = (sI H269 h0 (X.1.2 11 14)).toInt := congrArg Int32.toInt (up_nI U270 (ne_k g0 gca (by decide)))
                  have m273 := congrArg tk m272
                  have m274 : (sI H270 h0 (X.1.2 11 16)).toInt = (sI H269 h0 (X.1.2 11 16)).toInt := congrArg Int32.toInt (up_nI U270 (ne_k g0 gca (by decide)))
                  have e275 := up_I U270
                  refine lv_aload_n hx hb dX12_readSchool_146 rfl (lv_at hl 1 rfl) ?_
                  have e277 := (up_nI U260 (ne_k g0 gq258 (by decide))).trans ev255
                  refine q_getI E hC270 g0 fa_RX12_218 dX12_readSchool_147 (fun v276 ev276 lv276 uv276 => ?_)
                  have m278 : (sI H270 h0 (X.1.2 11 12)).toInt = v276.toInt := (congrArg Int32.toInt ev276).trans rfl
                  refine q_if_ne hx hb (a := v276.toInt) rfl (tgt := 165) dX12_readSchool_150 rfl (fun c279 => ?_) (fun c279 => ?_)
                  · have hz8 := tk_nn (sI H270 h0 (X.1.2 11 14)).toInt
                    exact ret H270 locs270 _ _ dX12_readSchool_165 ⟨hKp270, ⟨by omega, by omega, by omega, by omega⟩⟩ hC270 hS270
                  · refine lv_aload_n hx hb dX12_readSchool_153 rfl (lv_at hl 1 rfl) ?_
                    refine q_getC E hC270 g0 fa_RX12_35 uc dX12_readSchool_154 ?_
                    refine lv_sipush (v := 2082) hx hb dX12_readSchool_157 rfl ?_
                    refine lv_dup2_11 hx hb dX12_readSchool_160 rfl rfl ?_
                    have e281 := (kp_c (j := (2082 : Int).toNat) hp26 gca rfl).trans ev21
                    have e282 := (kp_c (j := (2082 : Int).toNat) hp164 gca rfl).trans e281
                    have e283 := (kp_c (j := (2082 : Int).toNat) hp254 gca rfl).trans e282
                    have e284 := (up_nI (a' := ca) (j' := (2082 : Int).toNat) U260 (ne_k gca gq258 (by decide))).trans e283
                    have e285 := (kp_c (j := (2082 : Int).toNat) hp265 gca rfl).trans e284
                    have e286 := (kp_c (j := (2082 : Int).toNat) hp267 gca rfl).trans e285
                    have e287 := (kp_c (j := (2082 : Int).toNat) hp269 gca rfl).trans e286
                    have e288 := (up_nI (a' := ca) (j' := (2082 : Int).toNat) U270 (fun h => by have h2 := h.2; omega)).trans e287
                    refine q_cald E hC270 (lo := 0) (hi := 2) gca (a := 2082) (show (2082 : Int32).toInt = 2082 from by decide) (by omega) (by omega) (cr_n2 (by omega) (by omega)) dX12_readSchool_161 (fun v280 ev280 lv280 uv280 => ?_)
                    have qv280 := e288.symm.trans ev280; subst qv280
                    refine lv_iconst (v := 1) hx hb dX12_readSchool_162 rfl ?_
                    refine lv_iadd hx hb dX12_readSchool_163 (lv_topi (fun v289 ev289 => ?_))
                    have ev289i : v289.toInt = (v21.toInt + 1) := i_add ev289 rfl (by decide) (by omega) (by omega)
                    refine q_cast E hC270 hS270 gca (a := 2082) (show (2082 : Int32).toInt = 2082 from by decide) (by omega) (by omega) (cs_n2 (a := 2082) (b := (v21.toInt + 1)) (by omega) (by omega) ev289i (by omega) (by omega)) dX12_readSchool_164 (fun H290 locs290 hC290 hS290 U290 => ?_)
                    have hKp290 := Kp.upD gca rfl rfl (fun _ => ⟨fun _ => nd4 (by omega) (by omega), fun _ => by unfold dpu; omega, fun _ => by unfold dpn; omega⟩) U290 hKp270
                    have m291 : (sI H290 h0 (X.1.2 11 12)).toInt = (sI H270 h0 (X.1.2 11 12)).toInt := congrArg Int32.toInt (up_nI U290 (ne_k g0 gca (by decide)))
                    have m292 : (sI H290 h0 (X.1.2 11 14)).toInt = (sI H270 h0 (X.1.2 11 14)).toInt := congrArg Int32.toInt (up_nI U290 (ne_k g0 gca (by decide)))
                    have m293 := congrArg tk m292
                    have m294 : (sI H290 h0 (X.1.2 11 16)).toInt = (sI H270 h0 (X.1.2 11 16)).toInt := congrArg Int32.toInt (up_nI U290 (ne_k g0 gca (by decide)))
                    have e295 := up_I U290
                    have hz8 := tk_nn (sI H290 h0 (X.1.2 11 14)).toInt
                    exact ret H290 locs290 _ _ dX12_readSchool_165 ⟨hKp290, ⟨by omega, by omega, by omega, by omega⟩⟩ hC290 hS290
                · have hz8 := tk_nn (sI H254 h0 (X.1.2 11 14)).toInt
                  exact ret H254 locs254 _ _ dX12_readSchool_106 ⟨hKp254, ⟨by omega, by omega, by omega, by omega⟩⟩ hC254 hS254
        · refine lv_aload_n hx hb dX12_readSchool_53 rfl (lv_at hl 1 rfl) ?_
          refine q_goIp (q_runV (As := []) (rest := []) E hC26 hS26 (m_X12_isKept l X Γ H26 hC26 h0 g0 ca gca uc) cw_X12_isKept cl_RX12_241 g0 ⟨rfl, rfl⟩ rfl hl.1 rfl (Nat.zero_le _) (by decide) dX12_readSchool_54) hS26 (fun v296 locs296 hr296 hS296 => ?_)
          rcases hr296 with rfl | rfl
          · refine q_if_eq hx hb (a := 0) (by decide) (tgt := 64) dX12_readSchool_57 rfl (fun c297 => ?_) (fun c297 => absurd c297 (by omega))
            refine lv_aload_n hx hb dX12_readSchool_64 rfl (lv_at hl 1 rfl) ?_
            refine q_getI E hC26 g0 fa_RX12_218 dX12_readSchool_65 (fun v298 ev298 lv298 uv298 => ?_)
            have m299 : (sI H26 h0 (X.1.2 11 12)).toInt = v298.toInt := (congrArg Int32.toInt ev298).trans rfl
            refine q_if_ne hx hb (a := v298.toInt) rfl (tgt := 99) dX12_readSchool_68 rfl (fun c300 => ?_) (fun c300 => ?_)
            · refine lv_aload_n hx hb dX12_readSchool_99 rfl (lv_at hl 1 rfl) ?_
              refine q_getI E hC26 g0 fa_RX12_218 dX12_readSchool_100 (fun v301 ev301 lv301 uv301 => ?_)
              have qv301 := ev298.symm.trans ev301; subst qv301
              refine q_if_le hx hb (a := v298.toInt) rfl (tgt := 107) dX12_readSchool_103 rfl (fun c302 => absurd c302 (by omega)) (fun c302 => ?_)
              have hz8 := tk_nn (sI H26 h0 (X.1.2 11 14)).toInt
              exact ret H26 locs296 _ _ dX12_readSchool_106 ⟨hKp26, ⟨by omega, by omega, by omega, by omega⟩⟩ hC26 hS296
            · refine lv_iload_n hx hb dX12_readSchool_71 rfl (lv_at hl 0 rfl) ?_
              refine lv_iconst (v := 1) hx hb dX12_readSchool_72 rfl ?_
              refine q_icmp_ne hx hb (a := v21.toInt) (b := 1) rfl (by decide) (tgt := 99) dX12_readSchool_73 rfl (fun c303 => ?_) (fun c303 => ?_)
              · refine lv_aload_n hx hb dX12_readSchool_99 rfl (lv_at hl 1 rfl) ?_
                refine q_getI E hC26 g0 fa_RX12_218 dX12_readSchool_100 (fun v304 ev304 lv304 uv304 => ?_)
                have qv304 := ev298.symm.trans ev304; subst qv304
                refine q_if_le hx hb (a := v298.toInt) rfl (tgt := 107) dX12_readSchool_103 rfl (fun c305 => ?_) (fun c305 => absurd c305 (by omega))
                refine lv_aload_n hx hb dX12_readSchool_107 rfl (lv_at hl 1 rfl) ?_
                refine q_getR E hC26 g0 fa_RX12_44 dX12_readSchool_108 (fun q306 eq306 gq306 => ?_)
                refine lv_iload_n hx hb dX12_readSchool_111 rfl (lv_at hl 0 rfl) ?_
                refine lv_aload_n hx hb dX12_readSchool_112 rfl (lv_at hl 1 rfl) ?_
                refine q_getJ E hC26 g0 fa_RX12_126 dX12_readSchool_113 (fun v307 ev307 => ?_)
                refine q_last E hC26 hS296 gq306 (by decide) rfl rfl (fun _ => rfl) (i_in (a := v21.toInt) rfl (by omega) (by omega)) dX12_readSchool_116 (fun H308 locs308 hC308 hS308 U308 => ?_)
                have hKp308 := Kp.upA gq306 rfl (by decide) rfl U308 hKp26
                have m309 : (sI H308 h0 (X.1.2 11 12)).toInt = (sI H26 h0 (X.1.2 11 12)).toInt := congrArg Int32.toInt (up_nI U308 (ne_k g0 gq306 (by decide)))
                have m310 : (sI H308 h0 (X.1.2 11 14)).toInt = (sI H26 h0 (X.1.2 11 14)).toInt := congrArg Int32.toInt (up_nI U308 (ne_k g0 gq306 (by decide)))
                have m311 := congrArg tk m310
                have m312 : (sI H308 h0 (X.1.2 11 16)).toInt = (sI H26 h0 (X.1.2 11 16)).toInt := congrArg Int32.toInt (up_nI U308 (ne_k g0 gq306 (by decide)))
                refine lv_aload_n hx hb dX12_readSchool_117 rfl (lv_at hl 1 rfl) ?_
                refine q_goV (q_runV (As := []) (rest := []) E hC308 hS308 (m_X12_next l X Γ H308 hC308 h0 g0 ca gca uc) cw_X12_next cl_RX12_228 g0 ⟨rfl, rfl⟩ rfl hl.1 rfl (Nat.zero_le _) (by decide) dX12_readSchool_118) hS308 (fun H313 locs313 hr313 hC313 hS313 => ?_)
                obtain ⟨hp313, hr313⟩ := hr313
                have hKp313 := hKp308.tr (hp313.mono rfl)
                obtain ⟨f313_0, f313_1, f313_2⟩ := hr313
                refine lv_aload_n hx hb dX12_readSchool_121 rfl (lv_at hl 1 rfl) ?_
                refine lv_aload_n hx hb dX12_readSchool_122 rfl (lv_at hl 1 rfl) ?_
                refine q_goIp (q_runV (As := []) (rest := [.ref h0]) E hC313 hS313 (m_X12_isHands l X Γ H313 hC313 h0 g0 ca gca uc) cw_X12_isHands cl_RX12_175 g0 ⟨rfl, rfl⟩ rfl hl.1 rfl (show _ ≤ _ from by simp [Value.category]) (by decide) dX12_readSchool_123) hS313 (fun v314 locs314 hr314 hS314 => ?_)
                have b314 : v314.toInt = 0 ∨ v314.toInt = 1 := hr314.imp (fun h => by rw [h]; decide) (fun h => by rw [h]; decide)
                refine q_goV (q_runV (As := [.int v314]) (rest := []) E hC313 hS314 (m_X12_must l X Γ H313 hC313 h0 g0 v314 (a1 := v314.toInt) rfl ca gca uc (by omega) (by omega)) cw_X12_must cl_RX12_244 g0 ⟨rfl, rfl⟩ rfl hl.1 rfl (Nat.zero_le _) (by decide) dX12_readSchool_126) hS314 (fun H315 locs315 hr315 hC315 hS315 => ?_)
                obtain ⟨hp315, hr315⟩ := hr315
                have hKp315 := hKp313.tr (hp315.mono rfl)
                obtain ⟨f315_0, f315_1, f315_2, f315_3, f315_4⟩ := hr315
                refine lv_aload_n hx hb dX12_readSchool_129 rfl (lv_at hl 1 rfl) ?_
                refine q_getC E hC315 g0 fa_RX12_35 uc dX12_readSchool_130 ?_
                refine lv_sipush (v := 2092) hx hb dX12_readSchool_133 rfl ?_
                refine lv_iload_n hx hb dX12_readSchool_136 rfl (lv_at hl 0 rfl) ?_
                refine lv_iadd hx hb dX12_readSchool_137 (lv_topi (fun v316 ev316 => ?_))
                have ev316i : v316.toInt = (2092 + v21.toInt) := i_add ev316 (by decide) rfl (by omega) (by omega)
                refine lv_aload_n hx hb dX12_readSchool_138 rfl (lv_at hl 1 rfl) ?_
                refine lv_iconst (v := 0) hx hb dX12_readSchool_139 rfl ?_
                refine lv_bipush (v := 40) hx hb dX12_readSchool_140 rfl ?_
                refine q_goI (q_runV (As := [.int 0, .int 40]) (rest := [.int v316, .ref ca]) E hC315 hS315 (m_X12_count l X Γ H315 hC315 h0 g0 0 (a1 := 0) (by decide) 40 (a2 := 40) (by decide) ca gca uc (by omega) (by omega) (by omega) (by omega)) cw_X12_count cl_RX12_248 g0 ⟨rfl, rfl⟩ rfl hl.1 rfl (show _ ≤ _ from by simp [Value.category]) (by decide) dX12_readSchool_142) hS315 (fun v317 H317 locs317 hr317 hC317 hS317 => ?_)
                obtain ⟨hp317, hr317⟩ := hr317
                have hKp317 := hKp315.tr (hp317.mono rfl)
                obtain ⟨f317_0, f317_1, f317_2, f317_3, f317_4, f317_5, f317_6, f317_7⟩ := hr317
                refine q_cast E hC317 hS317 gca (a := (2092 + v21.toInt)) ev316i (by omega) (by omega) (cs_n12 (a := (2092 + v21.toInt)) (b := v317.toInt) (by omega) (by omega) rfl (by omega) (by omega)) dX12_readSchool_145 (fun H318 locs318 hC318 hS318 U318 => ?_)
                have hKp318 := Kp.upD gca rfl rfl (fun _ => ⟨fun _ => nd4 (by omega) (by omega), fun _ => by unfold dpu; omega, fun _ => by unfold dpn; omega⟩) U318 hKp317
                have m319 : (sI H318 h0 (X.1.2 11 12)).toInt = (sI H317 h0 (X.1.2 11 12)).toInt := congrArg Int32.toInt (up_nI U318 (ne_k g0 gca (by decide)))
                have m320 : (sI H318 h0 (X.1.2 11 14)).toInt = (sI H317 h0 (X.1.2 11 14)).toInt := congrArg Int32.toInt (up_nI U318 (ne_k g0 gca (by decide)))
                have m321 := congrArg tk m320
                have m322 : (sI H318 h0 (X.1.2 11 16)).toInt = (sI H317 h0 (X.1.2 11 16)).toInt := congrArg Int32.toInt (up_nI U318 (ne_k g0 gca (by decide)))
                have e323 := up_I U318
                refine lv_aload_n hx hb dX12_readSchool_146 rfl (lv_at hl 1 rfl) ?_
                have e325 := (up_nI U308 (ne_k g0 gq306 (by decide))).trans ev298
                refine q_getI E hC318 g0 fa_RX12_218 dX12_readSchool_147 (fun v324 ev324 lv324 uv324 => ?_)
                have m326 : (sI H318 h0 (X.1.2 11 12)).toInt = v324.toInt := (congrArg Int32.toInt ev324).trans rfl
                refine q_if_ne hx hb (a := v324.toInt) rfl (tgt := 165) dX12_readSchool_150 rfl (fun c327 => ?_) (fun c327 => ?_)
                · have hz8 := tk_nn (sI H318 h0 (X.1.2 11 14)).toInt
                  exact ret H318 locs318 _ _ dX12_readSchool_165 ⟨hKp318, ⟨by omega, by omega, by omega, by omega⟩⟩ hC318 hS318
                · refine lv_aload_n hx hb dX12_readSchool_153 rfl (lv_at hl 1 rfl) ?_
                  refine q_getC E hC318 g0 fa_RX12_35 uc dX12_readSchool_154 ?_
                  refine lv_sipush (v := 2082) hx hb dX12_readSchool_157 rfl ?_
                  refine lv_dup2_11 hx hb dX12_readSchool_160 rfl rfl ?_
                  have e329 := (kp_c (j := (2082 : Int).toNat) hp26 gca rfl).trans ev21
                  have e330 := (up_nI (a' := ca) (j' := (2082 : Int).toNat) U308 (ne_k gca gq306 (by decide))).trans e329
                  have e331 := (kp_c (j := (2082 : Int).toNat) hp313 gca rfl).trans e330
                  have e332 := (kp_c (j := (2082 : Int).toNat) hp315 gca rfl).trans e331
                  have e333 := (kp_c (j := (2082 : Int).toNat) hp317 gca rfl).trans e332
                  have e334 := (up_nI (a' := ca) (j' := (2082 : Int).toNat) U318 (fun h => by have h2 := h.2; omega)).trans e333
                  refine q_cald E hC318 (lo := 0) (hi := 2) gca (a := 2082) (show (2082 : Int32).toInt = 2082 from by decide) (by omega) (by omega) (cr_n2 (by omega) (by omega)) dX12_readSchool_161 (fun v328 ev328 lv328 uv328 => ?_)
                  have qv328 := e334.symm.trans ev328; subst qv328
                  refine lv_iconst (v := 1) hx hb dX12_readSchool_162 rfl ?_
                  refine lv_iadd hx hb dX12_readSchool_163 (lv_topi (fun v335 ev335 => ?_))
                  have ev335i : v335.toInt = (v21.toInt + 1) := i_add ev335 rfl (by decide) (by omega) (by omega)
                  refine q_cast E hC318 hS318 gca (a := 2082) (show (2082 : Int32).toInt = 2082 from by decide) (by omega) (by omega) (cs_n2 (a := 2082) (b := (v21.toInt + 1)) (by omega) (by omega) ev335i (by omega) (by omega)) dX12_readSchool_164 (fun H336 locs336 hC336 hS336 U336 => ?_)
                  have hKp336 := Kp.upD gca rfl rfl (fun _ => ⟨fun _ => nd4 (by omega) (by omega), fun _ => by unfold dpu; omega, fun _ => by unfold dpn; omega⟩) U336 hKp318
                  have m337 : (sI H336 h0 (X.1.2 11 12)).toInt = (sI H318 h0 (X.1.2 11 12)).toInt := congrArg Int32.toInt (up_nI U336 (ne_k g0 gca (by decide)))
                  have m338 : (sI H336 h0 (X.1.2 11 14)).toInt = (sI H318 h0 (X.1.2 11 14)).toInt := congrArg Int32.toInt (up_nI U336 (ne_k g0 gca (by decide)))
                  have m339 := congrArg tk m338
                  have m340 : (sI H336 h0 (X.1.2 11 16)).toInt = (sI H318 h0 (X.1.2 11 16)).toInt := congrArg Int32.toInt (up_nI U336 (ne_k g0 gca (by decide)))
                  have e341 := up_I U336
                  have hz8 := tk_nn (sI H336 h0 (X.1.2 11 14)).toInt
                  exact ret H336 locs336 _ _ dX12_readSchool_165 ⟨hKp336, ⟨by omega, by omega, by omega, by omega⟩⟩ hC336 hS336
              · refine lv_aload_n hx hb dX12_readSchool_76 rfl (lv_at hl 1 rfl) ?_
                refine q_getR E hC26 g0 fa_RX12_44 dX12_readSchool_77 (fun q342 eq342 gq342 => ?_)
                refine lv_iconst (v := 0) hx hb dX12_readSchool_80 rfl ?_
                refine q_lald E hC26 gq342 rfl rfl (fun _ => rfl) (i_in (a := 0) (show (0 : Int32).toInt = 0 from by decide) (by omega) (by omega)) dX12_readSchool_81 (fun v343 ev343 => ?_)
                refine lv_aload_n hx hb dX12_readSchool_82 rfl (lv_at hl 1 rfl) ?_
                refine q_getJ E hC26 g0 fa_RX12_126 dX12_readSchool_83 (fun v344 ev344 => ?_)
                refine q_lcmp_ne hx hb (a := v343.toInt) (b := v344.toInt) rfl rfl (tgt := 99) dX12_readSchool_86 dX12_readSchool_87 rfl (fun c345 => ?_) (fun c345 => ?_)
                · refine lv_aload_n hx hb dX12_readSchool_99 rfl (lv_at hl 1 rfl) ?_
                  refine q_getI E hC26 g0 fa_RX12_218 dX12_readSchool_100 (fun v346 ev346 lv346 uv346 => ?_)
                  have qv346 := ev298.symm.trans ev346; subst qv346
                  refine q_if_le hx hb (a := v298.toInt) rfl (tgt := 107) dX12_readSchool_103 rfl (fun c347 => ?_) (fun c347 => absurd c347 (by omega))
                  refine lv_aload_n hx hb dX12_readSchool_107 rfl (lv_at hl 1 rfl) ?_
                  refine q_getR E hC26 g0 fa_RX12_44 dX12_readSchool_108 (fun q348 eq348 gq348 => ?_)
                  refine lv_iload_n hx hb dX12_readSchool_111 rfl (lv_at hl 0 rfl) ?_
                  refine lv_aload_n hx hb dX12_readSchool_112 rfl (lv_at hl 1 rfl) ?_
                  refine q_getJ E hC26 g0 fa_RX12_126 dX12_readSchool_113 (fun v349 ev349 => ?_)
                  refine q_last E hC26 hS296 gq348 (by decide) rfl rfl (fun _ => rfl) (i_in (a := v21.toInt) rfl (by omega) (by omega)) dX12_readSchool_116 (fun H350 locs350 hC350 hS350 U350 => ?_)
                  have hKp350 := Kp.upA gq348 rfl (by decide) rfl U350 hKp26
                  have m351 : (sI H350 h0 (X.1.2 11 12)).toInt = (sI H26 h0 (X.1.2 11 12)).toInt := congrArg Int32.toInt (up_nI U350 (ne_k g0 gq348 (by decide)))
                  have m352 : (sI H350 h0 (X.1.2 11 14)).toInt = (sI H26 h0 (X.1.2 11 14)).toInt := congrArg Int32.toInt (up_nI U350 (ne_k g0 gq348 (by decide)))
                  have m353 := congrArg tk m352
                  have m354 : (sI H350 h0 (X.1.2 11 16)).toInt = (sI H26 h0 (X.1.2 11 16)).toInt := congrArg Int32.toInt (up_nI U350 (ne_k g0 gq348 (by decide)))
                  refine lv_aload_n hx hb dX12_readSchool_117 rfl (lv_at hl 1 rfl) ?_
                  refine q_goV (q_runV (As := []) (rest := []) E hC350 hS350 (m_X12_next l X Γ H350 hC350 h0 g0 ca gca uc) cw_X12_next cl_RX12_228 g0 ⟨rfl, rfl⟩ rfl hl.1 rfl (Nat.zero_le _) (by decide) dX12_readSchool_118) hS350 (fun H355 locs355 hr355 hC355 hS355 => ?_)
                  obtain ⟨hp355, hr355⟩ := hr355
                  have hKp355 := hKp350.tr (hp355.mono rfl)
                  obtain ⟨f355_0, f355_1, f355_2⟩ := hr355
                  refine lv_aload_n hx hb dX12_readSchool_121 rfl (lv_at hl 1 rfl) ?_
                  refine lv_aload_n hx hb dX12_readSchool_122 rfl (lv_at hl 1 rfl) ?_
                  refine q_goIp (q_runV (As := []) (rest := [.ref h0]) E hC355 hS355 (m_X12_isHands l X Γ H355 hC355 h0 g0 ca gca uc) cw_X12_isHands cl_RX12_175 g0 ⟨rfl, rfl⟩ rfl hl.1 rfl (show _ ≤ _ from by simp [Value.category]) (by decide) dX12_readSchool_123) hS355 (fun v356 locs356 hr356 hS356 => ?_)
                  have b356 : v356.toInt = 0 ∨ v356.toInt = 1 := hr356.imp (fun h => by rw [h]; decide) (fun h => by rw [h]; decide)
                  refine q_goV (q_runV (As := [.int v356]) (rest := []) E hC355 hS356 (m_X12_must l X Γ H355 hC355 h0 g0 v356 (a1 := v356.toInt) rfl ca gca uc (by omega) (by omega)) cw_X12_must cl_RX12_244 g0 ⟨rfl, rfl⟩ rfl hl.1 rfl (Nat.zero_le _) (by decide) dX12_readSchool_126) hS356 (fun H357 locs357 hr357 hC357 hS357 => ?_)
                  obtain ⟨hp357, hr357⟩ := hr357
                  have hKp357 := hKp355.tr (hp357.mono rfl)
                  obtain ⟨f357_0, f357_1, f357_2, f357_3, f357_4⟩ := hr357
                  refine lv_aload_n hx hb dX12_readSchool_129 rfl (lv_at hl 1 rfl) ?_
                  refine q_getC E hC357 g0 fa_RX12_35 uc dX12_readSchool_130 ?_
                  refine lv_sipush (v := 2092) hx hb dX12_readSchool_133 rfl ?_
                  refine lv_iload_n hx hb dX12_readSchool_136 rfl (lv_at hl 0 rfl) ?_
                  refine lv_iadd hx hb dX12_readSchool_137 (lv_topi (fun v358 ev358 => ?_))
                  have ev358i : v358.toInt = (2092 + v21.toInt) := i_add ev358 (by decide) rfl (by omega) (by omega)
                  refine lv_aload_n hx hb dX12_readSchool_138 rfl (lv_at hl 1 rfl) ?_
                  refine lv_iconst (v := 0) hx hb dX12_readSchool_139 rfl ?_
                  refine lv_bipush (v := 40) hx hb dX12_readSchool_140 rfl ?_
                  refine q_goI (q_runV (As := [.int 0, .int 40]) (rest := [.int v358, .ref ca]) E hC357 hS357 (m_X12_count l X Γ H357 hC357 h0 g0 0 (a1 := 0) (by decide) 40 (a2 := 40) (by decide) ca gca uc (by omega) (by omega) (by omega) (by omega)) cw_X12_count cl_RX12_248 g0 ⟨rfl, rfl⟩ rfl hl.1 rfl (show _ ≤ _ from by simp [Value.category]) (by decide) dX12_readSchool_142) hS357 (fun v359 H359 locs359 hr359 hC359 hS359 => ?_)
                  obtain ⟨hp359, hr359⟩ := hr359
                  have hKp359 := hKp357.tr (hp359.mono rfl)
                  obtain ⟨f359_0, f359_1, f359_2, f359_3, f359_4, f359_5, f359_6, f359_7⟩ := hr359
                  refine q_cast E hC359 hS359 gca (a := (2092 + v21.toInt)) ev358i (by omega) (by omega) (cs_n12 (a := (2092 + v21.toInt)) (b := v359.toInt) (by omega) (by omega) rfl (by omega) (by omega)) dX12_readSchool_145 (fun H360 locs360 hC360 hS360 U360 => ?_)
                  have hKp360 := Kp.upD gca rfl rfl (fun _ => ⟨fun _ => nd4 (by omega) (by omega), fun _ => by unfold dpu; omega, fun _ => by unfold dpn; omega⟩) U360 hKp359
                  have m361 : (sI H360 h0 (X.1.2 11 12)).toInt = (sI H359 h0 (X.1.2 11 12)).toInt := congrArg Int32.toInt (up_nI U360 (ne_k g0 gca (by decide)))
                  have m362 : (sI H360 h0 (X.1.2 11 14)).toInt = (sI H359 h0 (X.1.2 11 14)).toInt := congrArg Int32.toInt (up_nI U360 (ne_k g0 gca (by decide)))
                  have m363 := congrArg tk m362
                  have m364 : (sI H360 h0 (X.1.2 11 16)).toInt = (sI H359 h0 (X.1.2 11 16)).toInt := congrArg Int32.toInt (up_nI U360 (ne_k g0 gca (by decide)))
                  have e365 := up_I U360
                  refine lv_aload_n hx hb dX12_readSchool_146 rfl (lv_at hl 1 rfl) ?_
                  have e367 := (up_nI U350 (ne_k g0 gq348 (by decide))).trans ev298
                  refine q_getI E hC360 g0 fa_RX12_218 dX12_readSchool_147 (fun v366 ev366 lv366 uv366 => ?_)
                  have m368 : (sI H360 h0 (X.1.2 11 12)).toInt = v366.toInt := (congrArg Int32.toInt ev366).trans rfl
                  refine q_if_ne hx hb (a := v366.toInt) rfl (tgt := 165) dX12_readSchool_150 rfl (fun c369 => ?_) (fun c369 => ?_)
                  · have hz8 := tk_nn (sI H360 h0 (X.1.2 11 14)).toInt
                    exact ret H360 locs360 _ _ dX12_readSchool_165 ⟨hKp360, ⟨by omega, by omega, by omega, by omega⟩⟩ hC360 hS360
                  · refine lv_aload_n hx hb dX12_readSchool_153 rfl (lv_at hl 1 rfl) ?_
                    refine q_getC E hC360 g0 fa_RX12_35 uc dX12_readSchool_154 ?_
                    refine lv_sipush (v := 2082) hx hb dX12_readSchool_157 rfl ?_
                    refine lv_dup2_11 hx hb dX12_readSchool_160 rfl rfl ?_
                    have e371 := (kp_c (j := (2082 : Int).toNat) hp26 gca rfl).trans ev21
                    have e372 := (up_nI (a' := ca) (j' := (2082 : Int).toNat) U350 (ne_k gca gq348 (by decide))).trans e371
                    have e373 := (kp_c (j := (2082 : Int).toNat) hp355 gca rfl).trans e372
                    have e374 := (kp_c (j := (2082 : Int).toNat) hp357 gca rfl).trans e373
                    have e375 := (kp_c (j := (2082 : Int).toNat) hp359 gca rfl).trans e374
                    have e376 := (up_nI (a' := ca) (j' := (2082 : Int).toNat) U360 (fun h => by have h2 := h.2; omega)).trans e375
                    refine q_cald E hC360 (lo := 0) (hi := 2) gca (a := 2082) (show (2082 : Int32).toInt = 2082 from by decide) (by omega) (by omega) (cr_n2 (by omega) (by omega)) dX12_readSchool_161 (fun v370 ev370 lv370 uv370 => ?_)
                    have qv370 := e376.symm.trans ev370; subst qv370
                    refine lv_iconst (v := 1) hx hb dX12_readSchool_162 rfl ?_
                    refine lv_iadd hx hb dX12_readSchool_163 (lv_topi (fun v377 ev377 => ?_))
                    have ev377i : v377.toInt = (v21.toInt + 1) := i_add ev377 rfl (by decide) (by omega) (by omega)
                    refine q_cast E hC360 hS360 gca (a := 2082) (show (2082 : Int32).toInt = 2082 from by decide) (by omega) (by omega) (cs_n2 (a := 2082) (b := (v21.toInt + 1)) (by omega) (by omega) ev377i (by omega) (by omega)) dX12_readSchool_164 (fun H378 locs378 hC378 hS378 U378 => ?_)
                    have hKp378 := Kp.upD gca rfl rfl (fun _ => ⟨fun _ => nd4 (by omega) (by omega), fun _ => by unfold dpu; omega, fun _ => by unfold dpn; omega⟩) U378 hKp360
                    have m379 : (sI H378 h0 (X.1.2 11 12)).toInt = (sI H360 h0 (X.1.2 11 12)).toInt := congrArg Int32.toInt (up_nI U378 (ne_k g0 gca (by decide)))
                    have m380 : (sI H378 h0 (X.1.2 11 14)).toInt = (sI H360 h0 (X.1.2 11 14)).toInt := congrArg Int32.toInt (up_nI U378 (ne_k g0 gca (by decide)))
                    have m381 := congrArg tk m380
                    have m382 : (sI H378 h0 (X.1.2 11 16)).toInt = (sI H360 h0 (X.1.2 11 16)).toInt := congrArg Int32.toInt (up_nI U378 (ne_k g0 gca (by decide)))
                    have e383 := up_I U378
                    have hz8 := tk_nn (sI H378 h0 (X.1.2 11 14)).toInt
                    exact ret H378 locs378 _ _ dX12_readSchool_165 ⟨hKp378, ⟨by omega, by omega, by omega, by omega⟩⟩ hC378 hS378
                · refine lv_aload_n hx hb dX12_readSchool_90 rfl (lv_at hl 1 rfl) ?_
                  refine lv_iconst (v := 3) hx hb dX12_readSchool_91 rfl ?_
                  refine lv_aload_n hx hb dX12_readSchool_92 rfl (lv_at hl 1 rfl) ?_
                  refine q_getI E hC26 g0 fa_RX12_114 dX12_readSchool_93 (fun v384 ev384 lv384 uv384 => ?_)
                  refine q_goV (q_runV (As := [.int 3, .int v384]) (rest := []) E hC26 hS296 (m_X12_fail l X Γ H26 hC26 h0 g0 3 (a1 := 3) (by decide) v384 (a2 := v384.toInt) rfl ca gca uc (by omega) (by omega)) cw_X12_fail cl_RX12_224 g0 ⟨rfl, rfl⟩ rfl hl.1 rfl (Nat.zero_le _) (by decide) dX12_readSchool_96) hS296 (fun H385 locs385 hr385 hC385 hS385 => ?_)
                  obtain ⟨hp385, hr385⟩ := hr385
                  have hKp385 := hKp26.tr (hp385.mono rfl)
                  obtain ⟨f385_0, f385_1, f385_2, f385_3⟩ := hr385
                  refine lv_aload_n hx hb dX12_readSchool_99 rfl (lv_at hl 1 rfl) ?_
                  refine q_getI E hC385 g0 fa_RX12_218 dX12_readSchool_100 (fun v386 ev386 lv386 uv386 => ?_)
                  have m387 : (sI H385 h0 (X.1.2 11 12)).toInt = v386.toInt := (congrArg Int32.toInt ev386).trans rfl
                  refine q_if_le hx hb (a := v386.toInt) rfl (tgt := 107) dX12_readSchool_103 rfl (fun c388 => ?_) (fun c388 => ?_)
                  · refine lv_aload_n hx hb dX12_readSchool_107 rfl (lv_at hl 1 rfl) ?_
                    refine q_getR E hC385 g0 fa_RX12_44 dX12_readSchool_108 (fun q389 eq389 gq389 => ?_)
                    refine lv_iload_n hx hb dX12_readSchool_111 rfl (lv_at hl 0 rfl) ?_
                    refine lv_aload_n hx hb dX12_readSchool_112 rfl (lv_at hl 1 rfl) ?_
                    refine q_getJ E hC385 g0 fa_RX12_126 dX12_readSchool_113 (fun v390 ev390 => ?_)
                    refine q_last E hC385 hS385 gq389 (by decide) rfl rfl (fun _ => rfl) (i_in (a := v21.toInt) rfl (by omega) (by omega)) dX12_readSchool_116 (fun H391 locs391 hC391 hS391 U391 => ?_)
                    have hKp391 := Kp.upA gq389 rfl (by decide) rfl U391 hKp385
                    have m392 : (sI H391 h0 (X.1.2 11 12)).toInt = (sI H385 h0 (X.1.2 11 12)).toInt := congrArg Int32.toInt (up_nI U391 (ne_k g0 gq389 (by decide)))
                    have m393 : (sI H391 h0 (X.1.2 11 14)).toInt = (sI H385 h0 (X.1.2 11 14)).toInt := congrArg Int32.toInt (up_nI U391 (ne_k g0 gq389 (by decide)))
                    have m394 := congrArg tk m393
                    have m395 : (sI H391 h0 (X.1.2 11 16)).toInt = (sI H385 h0 (X.1.2 11 16)).toInt := congrArg Int32.toInt (up_nI U391 (ne_k g0 gq389 (by decide)))
                    refine lv_aload_n hx hb dX12_readSchool_117 rfl (lv_at hl 1 rfl) ?_
                    refine q_goV (q_runV (As := []) (rest := []) E hC391 hS391 (m_X12_next l X Γ H391 hC391 h0 g0 ca gca uc) cw_X12_next cl_RX12_228 g0 ⟨rfl, rfl⟩ rfl hl.1 rfl (Nat.zero_le _) (by decide) dX12_readSchool_118) hS391 (fun H396 locs396 hr396 hC396 hS396 => ?_)
                    obtain ⟨hp396, hr396⟩ := hr396
                    have hKp396 := hKp391.tr (hp396.mono rfl)
                    obtain ⟨f396_0, f396_1, f396_2⟩ := hr396
                    refine lv_aload_n hx hb dX12_readSchool_121 rfl (lv_at hl 1 rfl) ?_
                    refine lv_aload_n hx hb dX12_readSchool_122 rfl (lv_at hl 1 rfl) ?_
                    refine q_goIp (q_runV (As := []) (rest := [.ref h0]) E hC396 hS396 (m_X12_isHands l X Γ H396 hC396 h0 g0 ca gca uc) cw_X12_isHands cl_RX12_175 g0 ⟨rfl, rfl⟩ rfl hl.1 rfl (show _ ≤ _ from by simp [Value.category]) (by decide) dX12_readSchool_123) hS396 (fun v397 locs397 hr397 hS397 => ?_)
                    have b397 : v397.toInt = 0 ∨ v397.toInt = 1 := hr397.imp (fun h => by rw [h]; decide) (fun h => by rw [h]; decide)
                    refine q_goV (q_runV (As := [.int v397]) (rest := []) E hC396 hS397 (m_X12_must l X Γ H396 hC396 h0 g0 v397 (a1 := v397.toInt) rfl ca gca uc (by omega) (by omega)) cw_X12_must cl_RX12_244 g0 ⟨rfl, rfl⟩ rfl hl.1 rfl (Nat.zero_le _) (by decide) dX12_readSchool_126) hS397 (fun H398 locs398 hr398 hC398 hS398 => ?_)
                    obtain ⟨hp398, hr398⟩ := hr398
                    have hKp398 := hKp396.tr (hp398.mono rfl)
                    obtain ⟨f398_0, f398_1, f398_2, f398_3, f398_4⟩ := hr398
                    refine lv_aload_n hx hb dX12_readSchool_129 rfl (lv_at hl 1 rfl) ?_
                    refine q_getC E hC398 g0 fa_RX12_35 uc dX12_readSchool_130 ?_
                    refine lv_sipush (v := 2092) hx hb dX12_readSchool_133 rfl ?_
                    refine lv_iload_n hx hb dX12_readSchool_136 rfl (lv_at hl 0 rfl) ?_
                    refine lv_iadd hx hb dX12_readSchool_137 (lv_topi (fun v399 ev399 => ?_))
                    have ev399i : v399.toInt = (2092 + v21.toInt) := i_add ev399 (by decide) rfl (by omega) (by omega)
                    refine lv_aload_n hx hb dX12_readSchool_138 rfl (lv_at hl 1 rfl) ?_
                    refine lv_iconst (v := 0) hx hb dX12_readSchool_139 rfl ?_
                    refine lv_bipush (v := 40) hx hb dX12_readSchool_140 rfl ?_
                    refine q_goI (q_runV (As := [.int 0, .int 40]) (rest := [.int v399, .ref ca]) E hC398 hS398 (m_X12_count l X Γ H398 hC398 h0 g0 0 (a1 := 0) (by decide) 40 (a2 := 40) (by decide) ca gca uc (by omega) (by omega) (by omega) (by omega)) cw_X12_count cl_RX12_248 g0 ⟨rfl, rfl⟩ rfl hl.1 rfl (show _ ≤ _ from by simp [Value.category]) (by decide) dX12_readSchool_142) hS398 (fun v400 H400 locs400 hr400 hC400 hS400 => ?_)
                    obtain ⟨hp400, hr400⟩ := hr400
                    have hKp400 := hKp398.tr (hp400.mono rfl)
                    obtain ⟨f400_0, f400_1, f400_2, f400_3, f400_4, f400_5, f400_6, f400_7⟩ := hr400
                    refine q_cast E hC400 hS400 gca (a := (2092 + v21.toInt)) ev399i (by omega) (by omega) (cs_n12 (a := (2092 + v21.toInt)) (b := v400.toInt) (by omega) (by omega) rfl (by omega) (by omega)) dX12_readSchool_145 (fun H401 locs401 hC401 hS401 U401 => ?_)
                    have hKp401 := Kp.upD gca rfl rfl (fun _ => ⟨fun _ => nd4 (by omega) (by omega), fun _ => by unfold dpu; omega, fun _ => by unfold dpn; omega⟩) U401 hKp400
                    have m402 : (sI H401 h0 (X.1.2 11 12)).toInt = (sI H400 h0 (X.1.2 11 12)).toInt := congrArg Int32.toInt (up_nI U401 (ne_k g0 gca (by decide)))
                    have m403 : (sI H401 h0 (X.1.2 11 14)).toInt = (sI H400 h0 (X.1.2 11 14)).toInt := congrArg Int32.toInt (up_nI U401 (ne_k g0 gca (by decide)))
                    have m404 := congrArg tk m403
                    have m405 : (sI H401 h0 (X.1.2 11 16)).toInt = (sI H400 h0 (X.1.2 11 16)).toInt := congrArg Int32.toInt (up_nI U401 (ne_k g0 gca (by decide)))
                    have e406 := up_I U401
                    refine lv_aload_n hx hb dX12_readSchool_146 rfl (lv_at hl 1 rfl) ?_
                    have e408 := (up_nI U391 (ne_k g0 gq389 (by decide))).trans ev386
                    refine q_getI E hC401 g0 fa_RX12_218 dX12_readSchool_147 (fun v407 ev407 lv407 uv407 => ?_)
                    have m409 : (sI H401 h0 (X.1.2 11 12)).toInt = v407.toInt := (congrArg Int32.toInt ev407).trans rfl
                    refine q_if_ne hx hb (a := v407.toInt) rfl (tgt := 165) dX12_readSchool_150 rfl (fun c410 => ?_) (fun c410 => ?_)
                    · have hz8 := tk_nn (sI H401 h0 (X.1.2 11 14)).toInt
                      exact ret H401 locs401 _ _ dX12_readSchool_165 ⟨hKp401, ⟨by omega, by omega, by omega, by omega⟩⟩ hC401 hS401
                    · refine lv_aload_n hx hb dX12_readSchool_153 rfl (lv_at hl 1 rfl) ?_
                      refine q_getC E hC401 g0 fa_RX12_35 uc dX12_readSchool_154 ?_
                      refine lv_sipush (v := 2082) hx hb dX12_readSchool_157 rfl ?_
                      refine lv_dup2_11 hx hb dX12_readSchool_160 rfl rfl ?_
                      have e412 := (kp_c (j := (2082 : Int).toNat) hp26 gca rfl).trans ev21
                      have e413 := (kp_c (j := (2082 : Int).toNat) hp385 gca rfl).trans e412
                      have e414 := (up_nI (a' := ca) (j' := (2082 : Int).toNat) U391 (ne_k gca gq389 (by decide))).trans e413
                      have e415 := (kp_c (j := (2082 : Int).toNat) hp396 gca rfl).trans e414
                      have e416 := (kp_c (j := (2082 : Int).toNat) hp398 gca rfl).trans e415
                      have e417 := (kp_c (j := (2082 : Int).toNat) hp400 gca rfl).trans e416
                      have e418 := (up_nI (a' := ca) (j' := (2082 : Int).toNat) U401 (fun h => by have h2 := h.2; omega)).trans e417
                      refine q_cald E hC401 (lo := 0) (hi := 2) gca (a := 2082) (show (2082 : Int32).toInt = 2082 from by decide) (by omega) (by omega) (cr_n2 (by omega) (by omega)) dX12_readSchool_161 (fun v411 ev411 lv411 uv411 => ?_)
                      have qv411 := e418.symm.trans ev411; subst qv411
                      refine lv_iconst (v := 1) hx hb dX12_readSchool_162 rfl ?_
                      refine lv_iadd hx hb dX12_readSchool_163 (lv_topi (fun v419 ev419 => ?_))
                      have ev419i : v419.toInt = (v21.toInt + 1) := i_add ev419 rfl (by decide) (by omega) (by omega)
                      refine q_cast E hC401 hS401 gca (a := 2082) (show (2082 : Int32).toInt = 2082 from by decide) (by omega) (by omega) (cs_n2 (a := 2082) (b := (v21.toInt + 1)) (by omega) (by omega) ev419i (by omega) (by omega)) dX12_readSchool_164 (fun H420 locs420 hC420 hS420 U420 => ?_)
                      have hKp420 := Kp.upD gca rfl rfl (fun _ => ⟨fun _ => nd4 (by omega) (by omega), fun _ => by unfold dpu; omega, fun _ => by unfold dpn; omega⟩) U420 hKp401
                      have m421 : (sI H420 h0 (X.1.2 11 12)).toInt = (sI H401 h0 (X.1.2 11 12)).toInt := congrArg Int32.toInt (up_nI U420 (ne_k g0 gca (by decide)))
                      have m422 : (sI H420 h0 (X.1.2 11 14)).toInt = (sI H401 h0 (X.1.2 11 14)).toInt := congrArg Int32.toInt (up_nI U420 (ne_k g0 gca (by decide)))
                      have m423 := congrArg tk m422
                      have m424 : (sI H420 h0 (X.1.2 11 16)).toInt = (sI H401 h0 (X.1.2 11 16)).toInt := congrArg Int32.toInt (up_nI U420 (ne_k g0 gca (by decide)))
                      have e425 := up_I U420
                      have hz8 := tk_nn (sI H420 h0 (X.1.2 11 14)).toInt
                      exact ret H420 locs420 _ _ dX12_readSchool_165 ⟨hKp420, ⟨by omega, by omega, by omega, by omega⟩⟩ hC420 hS420
                  · have hz8 := tk_nn (sI H385 h0 (X.1.2 11 14)).toInt
                    exact ret H385 locs385 _ _ dX12_readSchool_106 ⟨hKp385, ⟨by omega, by omega, by omega, by omega⟩⟩ hC385 hS385
          · refine q_if_eq hx hb (a := 1) (by decide) (tgt := 64) dX12_readSchool_57 rfl (fun c426 => absurd c426 (by omega)) (fun c426 => ?_)
            refine lv_aload_n hx hb dX12_readSchool_60 rfl (lv_at hl 1 rfl) ?_
            refine q_goV (q_runV (As := []) (rest := []) E hC26 hS296 (m_X12_wrong l X Γ H26 hC26 h0 g0 ca gca uc) cw_X12_wrong cl_RX12_231 g0 ⟨rfl, rfl⟩ rfl hl.1 rfl (Nat.zero_le _) (by decide) dX12_readSchool_61) hS296 (fun H427 locs427 hr427 hC427 hS427 => ?_)
            obtain ⟨hp427, hr427⟩ := hr427
            have hKp427 := hKp26.tr (hp427.mono rfl)
            obtain ⟨f427_0, f427_1, f427_2, f427_3⟩ := hr427
            refine lv_aload_n hx hb dX12_readSchool_64 rfl (lv_at hl 1 rfl) ?_
            refine q_getI E hC427 g0 fa_RX12_218 dX12_readSchool_65 (fun v428 ev428 lv428 uv428 => ?_)
            have m429 : (sI H427 h0 (X.1.2 11 12)).toInt = v428.toInt := (congrArg Int32.toInt ev428).trans rfl
            refine q_if_ne hx hb (a := v428.toInt) rfl (tgt := 99) dX12_readSchool_68 rfl (fun c430 => ?_) (fun c430 => ?_)
            · refine lv_aload_n hx hb dX12_readSchool_99 rfl (lv_at hl 1 rfl) ?_
              refine q_getI E hC427 g0 fa_RX12_218 dX12_readSchool_100 (fun v431 ev431 lv431 uv431 => ?_)
              have qv431 := ev428.symm.trans ev431; subst qv431
              refine q_if_le hx hb (a := v428.toInt) rfl (tgt := 107) dX12_readSchool_103 rfl (fun c432 => absurd c432 (by omega)) (fun c432 => ?_)
              have hz8 := tk_nn (sI H427 h0 (X.1.2 11 14)).toInt
              exact ret H427 locs427 _ _ dX12_readSchool_106 ⟨hKp427, ⟨by omega, by omega, by omega, by omega⟩⟩ hC427 hS427
            · refine lv_iload_n hx hb dX12_readSchool_71 rfl (lv_at hl 0 rfl) ?_
              refine lv_iconst (v := 1) hx hb dX12_readSchool_72 rfl ?_
              refine q_icmp_ne hx hb (a := v21.toInt) (b := 1) rfl (by decide) (tgt := 99) dX12_readSchool_73 rfl (fun c433 => ?_) (fun c433 => ?_)
              · refine lv_aload_n hx hb dX12_readSchool_99 rfl (lv_at hl 1 rfl) ?_
                refine q_getI E hC427 g0 fa_RX12_218 dX12_readSchool_100 (fun v434 ev434 lv434 uv434 => ?_)
                have qv434 := ev428.symm.trans ev434; subst qv434
                refine q_if_le hx hb (a := v428.toInt) rfl (tgt := 107) dX12_readSchool_103 rfl (fun c435 => ?_) (fun c435 => absurd c435 (by omega))
                refine lv_aload_n hx hb dX12_readSchool_107 rfl (lv_at hl 1 rfl) ?_
                refine q_getR E hC427 g0 fa_RX12_44 dX12_readSchool_108 (fun q436 eq436 gq436 => ?_)
                refine lv_iload_n hx hb dX12_readSchool_111 rfl (lv_at hl 0 rfl) ?_
                refine lv_aload_n hx hb dX12_readSchool_112 rfl (lv_at hl 1 rfl) ?_
                refine q_getJ E hC427 g0 fa_RX12_126 dX12_readSchool_113 (fun v437 ev437 => ?_)
                refine q_last E hC427 hS427 gq436 (by decide) rfl rfl (fun _ => rfl) (i_in (a := v21.toInt) rfl (by omega) (by omega)) dX12_readSchool_116 (fun H438 locs438 hC438 hS438 U438 => ?_)
                have hKp438 := Kp.upA gq436 rfl (by decide) rfl U438 hKp427
                have m439 : (sI H438 h0 (X.1.2 11 12)).toInt = (sI H427 h0 (X.1.2 11 12)).toInt := congrArg Int32.toInt (up_nI U438 (ne_k g0 gq436 (by decide)))
                have m440 : (sI H438 h0 (X.1.2 11 14)).toInt = (sI H427 h0 (X.1.2 11 14)).toInt := congrArg Int32.toInt (up_nI U438 (ne_k g0 gq436 (by decide)))
                have m441 := congrArg tk m440
                have m442 : (sI H438 h0 (X.1.2 11 16)).toInt = (sI H427 h0 (X.1.2 11 16)).toInt := congrArg Int32.toInt (up_nI U438 (ne_k g0 gq436 (by decide)))
                refine lv_aload_n hx hb dX12_readSchool_117 rfl (lv_at hl 1 rfl) ?_
                refine q_goV (q_runV (As := []) (rest := []) E hC438 hS438 (m_X12_next l X Γ H438 hC438 h0 g0 ca gca uc) cw_X12_next cl_RX12_228 g0 ⟨rfl, rfl⟩ rfl hl.1 rfl (Nat.zero_le _) (by decide) dX12_readSchool_118) hS438 (fun H443 locs443 hr443 hC443 hS443 => ?_)
                obtain ⟨hp443, hr443⟩ := hr443
                have hKp443 := hKp438.tr (hp443.mono rfl)
                obtain ⟨f443_0, f443_1, f443_2⟩ := hr443
                refine lv_aload_n hx hb dX12_readSchool_121 rfl (lv_at hl 1 rfl) ?_
                refine lv_aload_n hx hb dX12_readSchool_122 rfl (lv_at hl 1 rfl) ?_
                refine q_goIp (q_runV (As := []) (rest := [.ref h0]) E hC443 hS443 (m_X12_isHands l X Γ H443 hC443 h0 g0 ca gca uc) cw_X12_isHands cl_RX12_175 g0 ⟨rfl, rfl⟩ rfl hl.1 rfl (show _ ≤ _ from by simp [Value.category]) (by decide) dX12_readSchool_123) hS443 (fun v444 locs444 hr444 hS444 => ?_)
                have b444 : v444.toInt = 0 ∨ v444.toInt = 1 := hr444.imp (fun h => by rw [h]; decide) (fun h => by rw [h]; decide)
                refine q_goV (q_runV (As := [.int v444]) (rest := []) E hC443 hS444 (m_X12_must l X Γ H443 hC443 h0 g0 v444 (a1 := v444.toInt) rfl ca gca uc (by omega) (by omega)) cw_X12_must cl_RX12_244 g0 ⟨rfl, rfl⟩ rfl hl.1 rfl (Nat.zero_le _) (by decide) dX12_readSchool_126) hS444 (fun H445 locs445 hr445 hC445 hS445 => ?_)
                obtain ⟨hp445, hr445⟩ := hr445
                have hKp445 := hKp443.tr (hp445.mono rfl)
                obtain ⟨f445_0, f445_1, f445_2, f445_3, f445_4⟩ := hr445
                refine lv_aload_n hx hb dX12_readSchool_129 rfl (lv_at hl 1 rfl) ?_
                refine q_getC E hC445 g0 fa_RX12_35 uc dX12_readSchool_130 ?_
                refine lv_sipush (v := 2092) hx hb dX12_readSchool_133 rfl ?_
                refine lv_iload_n hx hb dX12_readSchool_136 rfl (lv_at hl 0 rfl) ?_
                refine lv_iadd hx hb dX12_readSchool_137 (lv_topi (fun v446 ev446 => ?_))
                have ev446i : v446.toInt = (2092 + v21.toInt) := i_add ev446 (by decide) rfl (by omega) (by omega)
                refine lv_aload_n hx hb dX12_readSchool_138 rfl (lv_at hl 1 rfl) ?_
                refine lv_iconst (v := 0) hx hb dX12_readSchool_139 rfl ?_
                refine lv_bipush (v := 40) hx hb dX12_readSchool_140 rfl ?_
                refine q_goI (q_runV (As := [.int 0, .int 40]) (rest := [.int v446, .ref ca]) E hC445 hS445 (m_X12_count l X Γ H445 hC445 h0 g0 0 (a1 := 0) (by decide) 40 (a2 := 40) (by decide) ca gca uc (by omega) (by omega) (by omega) (by omega)) cw_X12_count cl_RX12_248 g0 ⟨rfl, rfl⟩ rfl hl.1 rfl (show _ ≤ _ from by simp [Value.category]) (by decide) dX12_readSchool_142) hS445 (fun v447 H447 locs447 hr447 hC447 hS447 => ?_)
                obtain ⟨hp447, hr447⟩ := hr447
                have hKp447 := hKp445.tr (hp447.mono rfl)
                obtain ⟨f447_0, f447_1, f447_2, f447_3, f447_4, f447_5, f447_6, f447_7⟩ := hr447
                refine q_cast E hC447 hS447 gca (a := (2092 + v21.toInt)) ev446i (by omega) (by omega) (cs_n12 (a := (2092 + v21.toInt)) (b := v447.toInt) (by omega) (by omega) rfl (by omega) (by omega)) dX12_readSchool_145 (fun H448 locs448 hC448 hS448 U448 => ?_)
                have hKp448 := Kp.upD gca rfl rfl (fun _ => ⟨fun _ => nd4 (by omega) (by omega), fun _ => by unfold dpu; omega, fun _ => by unfold dpn; omega⟩) U448 hKp447
                have m449 : (sI H448 h0 (X.1.2 11 12)).toInt = (sI H447 h0 (X.1.2 11 12)).toInt := congrArg Int32.toInt (up_nI U448 (ne_k g0 gca (by decide)))
                have m450 : (sI H448 h0 (X.1.2 11 14)).toInt = (sI H447 h0 (X.1.2 11 14)).toInt := congrArg Int32.toInt (up_nI U448 (ne_k g0 gca (by decide)))
                have m451 := congrArg tk m450
                have m452 : (sI H448 h0 (X.1.2 11 16)).toInt = (sI H447 h0 (X.1.2 11 16)).toInt := congrArg Int32.toInt (up_nI U448 (ne_k g0 gca (by decide)))
                have e453 := up_I U448
                refine lv_aload_n hx hb dX12_readSchool_146 rfl (lv_at hl 1 rfl) ?_
                have e455 := (up_nI U438 (ne_k g0 gq436 (by decide))).trans ev428
                refine q_getI E hC448 g0 fa_RX12_218 dX12_readSchool_147 (fun v454 ev454 lv454 uv454 => ?_)
                have m456 : (sI H448 h0 (X.1.2 11 12)).toInt = v454.toInt := (congrArg Int32.toInt ev454).trans rfl
                refine q_if_ne hx hb (a := v454.toInt) rfl (tgt := 165) dX12_readSchool_150 rfl (fun c457 => ?_) (fun c457 => ?_)
                · have hz8 := tk_nn (sI H448 h0 (X.1.2 11 14)).toInt
                  exact ret H448 locs448 _ _ dX12_readSchool_165 ⟨hKp448, ⟨by omega, by omega, by omega, by omega⟩⟩ hC448 hS448
                · refine lv_aload_n hx hb dX12_readSchool_153 rfl (lv_at hl 1 rfl) ?_
                  refine q_getC E hC448 g0 fa_RX12_35 uc dX12_readSchool_154 ?_
                  refine lv_sipush (v := 2082) hx hb dX12_readSchool_157 rfl ?_
                  refine lv_dup2_11 hx hb dX12_readSchool_160 rfl rfl ?_
                  have e459 := (kp_c (j := (2082 : Int).toNat) hp26 gca rfl).trans ev21
                  have e460 := (kp_c (j := (2082 : Int).toNat) hp427 gca rfl).trans e459
                  have e461 := (up_nI (a' := ca) (j' := (2082 : Int).toNat) U438 (ne_k gca gq436 (by decide))).trans e460
                  have e462 := (kp_c (j := (2082 : Int).toNat) hp443 gca rfl).trans e461
                  have e463 := (kp_c (j := (2082 : Int).toNat) hp445 gca rfl).trans e462
                  have e464 := (kp_c (j := (2082 : Int).toNat) hp447 gca rfl).trans e463
                  have e465 := (up_nI (a' := ca) (j' := (2082 : Int).toNat) U448 (fun h => by have h2 := h.2; omega)).trans e464
                  refine q_cald E hC448 (lo := 0) (hi := 2) gca (a := 2082) (show (2082 : Int32).toInt = 2082 from by decide) (by omega) (by omega) (cr_n2 (by omega) (by omega)) dX12_readSchool_161 (fun v458 ev458 lv458 uv458 => ?_)
                  have qv458 := e465.symm.trans ev458; subst qv458
                  refine lv_iconst (v := 1) hx hb dX12_readSchool_162 rfl ?_
                  refine lv_iadd hx hb dX12_readSchool_163 (lv_topi (fun v466 ev466 => ?_))
                  have ev466i : v466.toInt = (v21.toInt + 1) := i_add ev466 rfl (by decide) (by omega) (by omega)
                  refine q_cast E hC448 hS448 gca (a := 2082) (show (2082 : Int32).toInt = 2082 from by decide) (by omega) (by omega) (cs_n2 (a := 2082) (b := (v21.toInt + 1)) (by omega) (by omega) ev466i (by omega) (by omega)) dX12_readSchool_164 (fun H467 locs467 hC467 hS467 U467 => ?_)
                  have hKp467 := Kp.upD gca rfl rfl (fun _ => ⟨fun _ => nd4 (by omega) (by omega), fun _ => by unfold dpu; omega, fun _ => by unfold dpn; omega⟩) U467 hKp448
                  have m468 : (sI H467 h0 (X.1.2 11 12)).toInt = (sI H448 h0 (X.1.2 11 12)).toInt := congrArg Int32.toInt (up_nI U467 (ne_k g0 gca (by decide)))
                  have m469 : (sI H467 h0 (X.1.2 11 14)).toInt = (sI H448 h0 (X.1.2 11 14)).toInt := congrArg Int32.toInt (up_nI U467 (ne_k g0 gca (by decide)))
                  have m470 := congrArg tk m469
                  have m471 : (sI H467 h0 (X.1.2 11 16)).toInt = (sI H448 h0 (X.1.2 11 16)).toInt := congrArg Int32.toInt (up_nI U467 (ne_k g0 gca (by decide)))
                  have e472 := up_I U467
                  have hz8 := tk_nn (sI H467 h0 (X.1.2 11 14)).toInt
                  exact ret H467 locs467 _ _ dX12_readSchool_165 ⟨hKp467, ⟨by omega, by omega, by omega, by omega⟩⟩ hC467 hS467
              · refine lv_aload_n hx hb dX12_readSchool_76 rfl (lv_at hl 1 rfl) ?_
                refine q_getR E hC427 g0 fa_RX12_44 dX12_readSchool_77 (fun q473 eq473 gq473 => ?_)
                refine lv_iconst (v := 0) hx hb dX12_readSchool_80 rfl ?_
                refine q_lald E hC427 gq473 rfl rfl (fun _ => rfl) (i_in (a := 0) (show (0 : Int32).toInt = 0 from by decide) (by omega) (by omega)) dX12_readSchool_81 (fun v474 ev474 => ?_)
                refine lv_aload_n hx hb dX12_readSchool_82 rfl (lv_at hl 1 rfl) ?_
                refine q_getJ E hC427 g0 fa_RX12_126 dX12_readSchool_83 (fun v475 ev475 => ?_)
                refine q_lcmp_ne hx hb (a := v474.toInt) (b := v475.toInt) rfl rfl (tgt := 99) dX12_readSchool_86 dX12_readSchool_87 rfl (fun c476 => ?_) (fun c476 => ?_)
                · refine lv_aload_n hx hb dX12_readSchool_99 rfl (lv_at hl 1 rfl) ?_
                  refine q_getI E hC427 g0 fa_RX12_218 dX12_readSchool_100 (fun v477 ev477 lv477 uv477 => ?_)
                  have qv477 := ev428.symm.trans ev477; subst qv477
                  refine q_if_le hx hb (a := v428.toInt) rfl (tgt := 107) dX12_readSchool_103 rfl (fun c478 => ?_) (fun c478 => absurd c478 (by omega))
                  refine lv_aload_n hx hb dX12_readSchool_107 rfl (lv_at hl 1 rfl) ?_
                  refine q_getR E hC427 g0 fa_RX12_44 dX12_readSchool_108 (fun q479 eq479 gq479 => ?_)
                  refine lv_iload_n hx hb dX12_readSchool_111 rfl (lv_at hl 0 rfl) ?_
                  refine lv_aload_n hx hb dX12_readSchool_112 rfl (lv_at hl 1 rfl) ?_
                  refine q_getJ E hC427 g0 fa_RX12_126 dX12_readSchool_113 (fun v480 ev480 => ?_)
                  refine q_last E hC427 hS427 gq479 (by decide) rfl rfl (fun _ => rfl) (i_in (a := v21.toInt) rfl (by omega) (by omega)) dX12_readSchool_116 (fun H481 locs481 hC481 hS481 U481 => ?_)
                  have hKp481 := Kp.upA gq479 rfl (by decide) rfl U481 hKp427
                  have m482 : (sI H481 h0 (X.1.2 11 12)).toInt = (sI H427 h0 (X.1.2 11 12)).toInt := congrArg Int32.toInt (up_nI U481 (ne_k g0 gq479 (by decide)))
                  have m483 : (sI H481 h0 (X.1.2 11 14)).toInt = (sI H427 h0 (X.1.2 11 14)).toInt := congrArg Int32.toInt (up_nI U481 (ne_k g0 gq479 (by decide)))
                  have m484 := congrArg tk m483
                  have m485 : (sI H481 h0 (X.1.2 11 16)).toInt = (sI H427 h0 (X.1.2 11 16)).toInt := congrArg Int32.toInt (up_nI U481 (ne_k g0 gq479 (by decide)))
                  refine lv_aload_n hx hb dX12_readSchool_117 rfl (lv_at hl 1 rfl) ?_
                  refine q_goV (q_runV (As := []) (rest := []) E hC481 hS481 (m_X12_next l X Γ H481 hC481 h0 g0 ca gca uc) cw_X12_next cl_RX12_228 g0 ⟨rfl, rfl⟩ rfl hl.1 rfl (Nat.zero_le _) (by decide) dX12_readSchool_118) hS481 (fun H486 locs486 hr486 hC486 hS486 => ?_)
                  obtain ⟨hp486, hr486⟩ := hr486
                  have hKp486 := hKp481.tr (hp486.mono rfl)
                  obtain ⟨f486_0, f486_1, f486_2⟩ := hr486
                  refine lv_aload_n hx hb dX12_readSchool_121 rfl (lv_at hl 1 rfl) ?_
                  refine lv_aload_n hx hb dX12_readSchool_122 rfl (lv_at hl 1 rfl) ?_
                  refine q_goIp (q_runV (As := []) (rest := [.ref h0]) E hC486 hS486 (m_X12_isHands l X Γ H486 hC486 h0 g0 ca gca uc) cw_X12_isHands cl_RX12_175 g0 ⟨rfl, rfl⟩ rfl hl.1 rfl (show _ ≤ _ from by simp [Value.category]) (by decide) dX12_readSchool_123) hS486 (fun v487 locs487 hr487 hS487 => ?_)
                  have b487 : v487.toInt = 0 ∨ v487.toInt = 1 := hr487.imp (fun h => by rw [h]; decide) (fun h => by rw [h]; decide)
                  refine q_goV (q_runV (As := [.int v487]) (rest := []) E hC486 hS487 (m_X12_must l X Γ H486 hC486 h0 g0 v487 (a1 := v487.toInt) rfl ca gca uc (by omega) (by omega)) cw_X12_must cl_RX12_244 g0 ⟨rfl, rfl⟩ rfl hl.1 rfl (Nat.zero_le _) (by decide) dX12_readSchool_126) hS487 (fun H488 locs488 hr488 hC488 hS488 => ?_)
                  obtain ⟨hp488, hr488⟩ := hr488
                  have hKp488 := hKp486.tr (hp488.mono rfl)
                  obtain ⟨f488_0, f488_1, f488_2, f488_3, f488_4⟩ := hr488
                  refine lv_aload_n hx hb dX12_readSchool_129 rfl (lv_at hl 1 rfl) ?_
                  refine q_getC E hC488 g0 fa_RX12_35 uc dX12_readSchool_130 ?_
                  refine lv_sipush (v := 2092) hx hb dX12_readSchool_133 rfl ?_
                  refine lv_iload_n hx hb dX12_readSchool_136 rfl (lv_at hl 0 rfl) ?_
                  refine lv_iadd hx hb dX12_readSchool_137 (lv_topi (fun v489 ev489 => ?_))
                  have ev489i : v489.toInt = (2092 + v21.toInt) := i_add ev489 (by decide) rfl (by omega) (by omega)
                  refine lv_aload_n hx hb dX12_readSchool_138 rfl (lv_at hl 1 rfl) ?_
                  refine lv_iconst (v := 0) hx hb dX12_readSchool_139 rfl ?_
                  refine lv_bipush (v := 40) hx hb dX12_readSchool_140 rfl ?_
                  refine q_goI (q_runV (As := [.int 0, .int 40]) (rest := [.int v489, .ref ca]) E hC488 hS488 (m_X12_count l X Γ H488 hC488 h0 g0 0 (a1 := 0) (by decide) 40 (a2 := 40) (by decide) ca gca uc (by omega) (by omega) (by omega) (by omega)) cw_X12_count cl_RX12_248 g0 ⟨rfl, rfl⟩ rfl hl.1 rfl (show _ ≤ _ from by simp [Value.category]) (by decide) dX12_readSchool_142) hS488 (fun v490 H490 locs490 hr490 hC490 hS490 => ?_)
                  obtain ⟨hp490, hr490⟩ := hr490
                  have hKp490 := hKp488.tr (hp490.mono rfl)
                  obtain ⟨f490_0, f490_1, f490_2, f490_3, f490_4, f490_5, f490_6, f490_7⟩ := hr490
                  refine q_cast E hC490 hS490 gca (a := (2092 + v21.toInt)) ev489i (by omega) (by omega) (cs_n12 (a := (2092 + v21.toInt)) (b := v490.toInt) (by omega) (by omega) rfl (by omega) (by omega)) dX12_readSchool_145 (fun H491 locs491 hC491 hS491 U491 => ?_)
                  have hKp491 := Kp.upD gca rfl rfl (fun _ => ⟨fun _ => nd4 (by omega) (by omega), fun _ => by unfold dpu; omega, fun _ => by unfold dpn; omega⟩) U491 hKp490
                  have m492 : (sI H491 h0 (X.1.2 11 12)).toInt = (sI H490 h0 (X.1.2 11 12)).toInt := congrArg Int32.toInt (up_nI U491 (ne_k g0 gca (by decide)))
                  have m493 : (sI H491 h0 (X.1.2 11 14)).toInt = (sI H490 h0 (X.1.2 11 14)).toInt := congrArg Int32.toInt (up_nI U491 (ne_k g0 gca (by decide)))
                  have m494 := congrArg tk m493
                  have m495 : (sI H491 h0 (X.1.2 11 16)).toInt = (sI H490 h0 (X.1.2 11 16)).toInt := congrArg Int32.toInt (up_nI U491 (ne_k g0 gca (by decide)))
                  have e496 := up_I U491
                  refine lv_aload_n hx hb dX12_readSchool_146 rfl (lv_at hl 1 rfl) ?_
                  have e498 := (up_nI U481 (ne_k g0 gq479 (by decide))).trans ev428
                  refine q_getI E hC491 g0 fa_RX12_218 dX12_readSchool_147 (fun v497 ev497 lv497 uv497 => ?_)
                  have m499 : (sI H491 h0 (X.1.2 11 12)).toInt = v497.toInt := (congrArg Int32.toInt ev497).trans rfl
                  refine q_if_ne hx hb (a := v497.toInt) rfl (tgt := 165) dX12_readSchool_150 rfl (fun c500 => ?_) (fun c500 => ?_)
                  · have hz8 := tk_nn (sI H491 h0 (X.1.2 11 14)).toInt
                    exact ret H491 locs491 _ _ dX12_readSchool_165 ⟨hKp491, ⟨by omega, by omega, by omega, by omega⟩⟩ hC491 hS491
                  · refine lv_aload_n hx hb dX12_readSchool_153 rfl (lv_at hl 1 rfl) ?_
                    refine q_getC E hC491 g0 fa_RX12_35 uc dX12_readSchool_154 ?_
                    refine lv_sipush (v := 2082) hx hb dX12_readSchool_157 rfl ?_
                    refine lv_dup2_11 hx hb dX12_readSchool_160 rfl rfl ?_
                    have e502 := (kp_c (j := (2082 : Int).toNat) hp26 gca rfl).trans ev21
                    have e503 := (kp_c (j := (2082 : Int).toNat) hp427 gca rfl).trans e502
                    have e504 := (up_nI (a' := ca) (j' := (2082 : Int).toNat) U481 (ne_k gca gq479 (by decide))).trans e503
                    have e505 := (kp_c (j := (2082 : Int).toNat) hp486 gca rfl).trans e504
                    have e506 := (kp_c (j := (2082 : Int).toNat) hp488 gca rfl).trans e505
                    have e507 := (kp_c (j := (2082 : Int).toNat) hp490 gca rfl).trans e506
                    have e508 := (up_nI (a' := ca) (j' := (2082 : Int).toNat) U491 (fun h => by have h2 := h.2; omega)).trans e507
                    refine q_cald E hC491 (lo := 0) (hi := 2) gca (a := 2082) (show (2082 : Int32).toInt = 2082 from by decide) (by omega) (by omega) (cr_n2 (by omega) (by omega)) dX12_readSchool_161 (fun v501 ev501 lv501 uv501 => ?_)
                    have qv501 := e508.symm.trans ev501; subst qv501
                    refine lv_iconst (v := 1) hx hb dX12_readSchool_162 rfl ?_
                    refine lv_iadd hx hb dX12_readSchool_163 (lv_topi (fun v509 ev509 => ?_))
                    have ev509i : v509.toInt = (v21.toInt + 1) := i_add ev509 rfl (by decide) (by omega) (by omega)
                    refine q_cast E hC491 hS491 gca (a := 2082) (show (2082 : Int32).toInt = 2082 from by decide) (by omega) (by omega) (cs_n2 (a := 2082) (b := (v21.toInt + 1)) (by omega) (by omega) ev509i (by omega) (by omega)) dX12_readSchool_164 (fun H510 locs510 hC510 hS510 U510 => ?_)
                    have hKp510 := Kp.upD gca rfl rfl (fun _ => ⟨fun _ => nd4 (by omega) (by omega), fun _ => by unfold dpu; omega, fun _ => by unfold dpn; omega⟩) U510 hKp491
                    have m511 : (sI H510 h0 (X.1.2 11 12)).toInt = (sI H491 h0 (X.1.2 11 12)).toInt := congrArg Int32.toInt (up_nI U510 (ne_k g0 gca (by decide)))
                    have m512 : (sI H510 h0 (X.1.2 11 14)).toInt = (sI H491 h0 (X.1.2 11 14)).toInt := congrArg Int32.toInt (up_nI U510 (ne_k g0 gca (by decide)))
                    have m513 := congrArg tk m512
                    have m514 : (sI H510 h0 (X.1.2 11 16)).toInt = (sI H491 h0 (X.1.2 11 16)).toInt := congrArg Int32.toInt (up_nI U510 (ne_k g0 gca (by decide)))
                    have e515 := up_I U510
                    have hz8 := tk_nn (sI H510 h0 (X.1.2 11 14)).toInt
                    exact ret H510 locs510 _ _ dX12_readSchool_165 ⟨hKp510, ⟨by omega, by omega, by omega, by omega⟩⟩ hC510 hS510
                · refine lv_aload_n hx hb dX12_readSchool_90 rfl (lv_at hl 1 rfl) ?_
                  refine lv_iconst (v := 3) hx hb dX12_readSchool_91 rfl ?_
                  refine lv_aload_n hx hb dX12_readSchool_92 rfl (lv_at hl 1 rfl) ?_
                  refine q_getI E hC427 g0 fa_RX12_114 dX12_readSchool_93 (fun v516 ev516 lv516 uv516 => ?_)
                  refine q_goV (q_runV (As := [.int 3, .int v516]) (rest := []) E hC427 hS427 (m_X12_fail l X Γ H427 hC427 h0 g0 3 (a1 := 3) (by decide) v516 (a2 := v516.toInt) rfl ca gca uc (by omega) (by omega)) cw_X12_fail cl_RX12_224 g0 ⟨rfl, rfl⟩ rfl hl.1 rfl (Nat.zero_le _) (by decide) dX12_readSchool_96) hS427 (fun H517 locs517 hr517 hC517 hS517 => ?_)
                  obtain ⟨hp517, hr517⟩ := hr517
                  have hKp517 := hKp427.tr (hp517.mono rfl)
                  obtain ⟨f517_0, f517_1, f517_2, f517_3⟩ := hr517
                  refine lv_aload_n hx hb dX12_readSchool_99 rfl (lv_at hl 1 rfl) ?_
                  refine q_getI E hC517 g0 fa_RX12_218 dX12_readSchool_100 (fun v518 ev518 lv518 uv518 => ?_)
                  have m519 : (sI H517 h0 (X.1.2 11 12)).toInt = v518.toInt := (congrArg Int32.toInt ev518).trans rfl
                  refine q_if_le hx hb (a := v518.toInt) rfl (tgt := 107) dX12_readSchool_103 rfl (fun c520 => ?_) (fun c520 => ?_)
                  · refine lv_aload_n hx hb dX12_readSchool_107 rfl (lv_at hl 1 rfl) ?_
                    refine q_getR E hC517 g0 fa_RX12_44 dX12_readSchool_108 (fun q521 eq521 gq521 => ?_)
                    refine lv_iload_n hx hb dX12_readSchool_111 rfl (lv_at hl 0 rfl) ?_
                    refine lv_aload_n hx hb dX12_readSchool_112 rfl (lv_at hl 1 rfl) ?_
                    refine q_getJ E hC517 g0 fa_RX12_126 dX12_readSchool_113 (fun v522 ev522 => ?_)
                    refine q_last E hC517 hS517 gq521 (by decide) rfl rfl (fun _ => rfl) (i_in (a := v21.toInt) rfl (by omega) (by omega)) dX12_readSchool_116 (fun H523 locs523 hC523 hS523 U523 => ?_)
                    have hKp523 := Kp.upA gq521 rfl (by decide) rfl U523 hKp517
                    have m524 : (sI H523 h0 (X.1.2 11 12)).toInt = (sI H517 h0 (X.1.2 11 12)).toInt := congrArg Int32.toInt (up_nI U523 (ne_k g0 gq521 (by decide)))
                    have m525 : (sI H523 h0 (X.1.2 11 14)).toInt = (sI H517 h0 (X.1.2 11 14)).toInt := congrArg Int32.toInt (up_nI U523 (ne_k g0 gq521 (by decide)))
                    have m526 := congrArg tk m525
                    have m527 : (sI H523 h0 (X.1.2 11 16)).toInt = (sI H517 h0 (X.1.2 11 16)).toInt := congrArg Int32.toInt (up_nI U523 (ne_k g0 gq521 (by decide)))
                    refine lv_aload_n hx hb dX12_readSchool_117 rfl (lv_at hl 1 rfl) ?_
                    refine q_goV (q_runV (As := []) (rest := []) E hC523 hS523 (m_X12_next l X Γ H523 hC523 h0 g0 ca gca uc) cw_X12_next cl_RX12_228 g0 ⟨rfl, rfl⟩ rfl hl.1 rfl (Nat.zero_le _) (by decide) dX12_readSchool_118) hS523 (fun H528 locs528 hr528 hC528 hS528 => ?_)
                    obtain ⟨hp528, hr528⟩ := hr528
                    have hKp528 := hKp523.tr (hp528.mono rfl)
                    obtain ⟨f528_0, f528_1, f528_2⟩ := hr528
                    refine lv_aload_n hx hb dX12_readSchool_121 rfl (lv_at hl 1 rfl) ?_
                    refine lv_aload_n hx hb dX12_readSchool_122 rfl (lv_at hl 1 rfl) ?_
                    refine q_goIp (q_runV (As := []) (rest := [.ref h0]) E hC528 hS528 (m_X12_isHands l X Γ H528 hC528 h0 g0 ca gca uc) cw_X12_isHands cl_RX12_175 g0 ⟨rfl, rfl⟩ rfl hl.1 rfl (show _ ≤ _ from by simp [Value.category]) (by decide) dX12_readSchool_123) hS528 (fun v529 locs529 hr529 hS529 => ?_)
                    have b529 : v529.toInt = 0 ∨ v529.toInt = 1 := hr529.imp (fun h => by rw [h]; decide) (fun h => by rw [h]; decide)
                    refine q_goV (q_runV (As := [.int v529]) (rest := []) E hC528 hS529 (m_X12_must l X Γ H528 hC528 h0 g0 v529 (a1 := v529.toInt) rfl ca gca uc (by omega) (by omega)) cw_X12_must cl_RX12_244 g0 ⟨rfl, rfl⟩ rfl hl.1 rfl (Nat.zero_le _) (by decide) dX12_readSchool_126) hS529 (fun H530 locs530 hr530 hC530 hS530 => ?_)
                    obtain ⟨hp530, hr530⟩ := hr530
                    have hKp530 := hKp528.tr (hp530.mono rfl)
                    obtain ⟨f530_0, f530_1, f530_2, f530_3, f530_4⟩ := hr530
                    refine lv_aload_n hx hb dX12_readSchool_129 rfl (lv_at hl 1 rfl) ?_
                    refine q_getC E hC530 g0 fa_RX12_35 uc dX12_readSchool_130 ?_
                    refine lv_sipush (v := 2092) hx hb dX12_readSchool_133 rfl ?_
                    refine lv_iload_n hx hb dX12_readSchool_136 rfl (lv_at hl 0 rfl) ?_
                    refine lv_iadd hx hb dX12_readSchool_137 (lv_topi (fun v531 ev531 => ?_))
                    have ev531i : v531.toInt = (2092 + v21.toInt) := i_add ev531 (by decide) rfl (by omega) (by omega)
                    refine lv_aload_n hx hb dX12_readSchool_138 rfl (lv_at hl 1 rfl) ?_
                    refine lv_iconst (v := 0) hx hb dX12_readSchool_139 rfl ?_
                    refine lv_bipush (v := 40) hx hb dX12_readSchool_140 rfl ?_
                    refine q_goI (q_runV (As := [.int 0, .int 40]) (rest := [.int v531, .ref ca]) E hC530 hS530 (m_X12_count l X Γ H530 hC530 h0 g0 0 (a1 := 0) (by decide) 40 (a2 := 40) (by decide) ca gca uc (by omega) (by omega) (by omega) (by omega)) cw_X12_count cl_RX12_248 g0 ⟨rfl, rfl⟩ rfl hl.1 rfl (show _ ≤ _ from by simp [Value.category]) (by decide) dX12_readSchool_142) hS530 (fun v532 H532 locs532 hr532 hC532 hS532 => ?_)
                    obtain ⟨hp532, hr532⟩ := hr532
                    have hKp532 := hKp530.tr (hp532.mono rfl)
                    obtain ⟨f532_0, f532_1, f532_2, f532_3, f532_4, f532_5, f532_6, f532_7⟩ := hr532
                    refine q_cast E hC532 hS532 gca (a := (2092 + v21.toInt)) ev531i (by omega) (by omega) (cs_n12 (a := (2092 + v21.toInt)) (b := v532.toInt) (by omega) (by omega) rfl (by omega) (by omega)) dX12_readSchool_145 (fun H533 locs533 hC533 hS533 U533 => ?_)
                    have hKp533 := Kp.upD gca rfl rfl (fun _ => ⟨fun _ => nd4 (by omega) (by omega), fun _ => by unfold dpu; omega, fun _ => by unfold dpn; omega⟩) U533 hKp532
                    have m534 : (sI H533 h0 (X.1.2 11 12)).toInt = (sI H532 h0 (X.1.2 11 12)).toInt := congrArg Int32.toInt (up_nI U533 (ne_k g0 gca (by decide)))
                    have m535 : (sI H533 h0 (X.1.2 11 14)).toInt = (sI H532 h0 (X.1.2 11 14)).toInt := congrArg Int32.toInt (up_nI U533 (ne_k g0 gca (by decide)))
                    have m536 := congrArg tk m535
                    have m537 : (sI H533 h0 (X.1.2 11 16)).toInt = (sI H532 h0 (X.1.2 11 16)).toInt := congrArg Int32.toInt (up_nI U533 (ne_k g0 gca (by decide)))
                    have e538 := up_I U533
                    refine lv_aload_n hx hb dX12_readSchool_146 rfl (lv_at hl 1 rfl) ?_
                    have e540 := (up_nI U523 (ne_k g0 gq521 (by decide))).trans ev518
                    refine q_getI E hC533 g0 fa_RX12_218 dX12_readSchool_147 (fun v539 ev539 lv539 uv539 => ?_)
                    have m541 : (sI H533 h0 (X.1.2 11 12)).toInt = v539.toInt := (congrArg Int32.toInt ev539).trans rfl
                    refine q_if_ne hx hb (a := v539.toInt) rfl (tgt := 165) dX12_readSchool_150 rfl (fun c542 => ?_) (fun c542 => ?_)
                    · have hz8 := tk_nn (sI H533 h0 (X.1.2 11 14)).toInt
                      exact ret H533 locs533 _ _ dX12_readSchool_165 ⟨hKp533, ⟨by omega, by omega, by omega, by omega⟩⟩ hC533 hS533
                    · refine lv_aload_n hx hb dX12_readSchool_153 rfl (lv_at hl 1 rfl) ?_
                      refine q_getC E hC533 g0 fa_RX12_35 uc dX12_readSchool_154 ?_
                      refine lv_sipush (v := 2082) hx hb dX12_readSchool_157 rfl ?_
                      refine lv_dup2_11 hx hb dX12_readSchool_160 rfl rfl ?_
                      have e544 := (kp_c (j := (2082 : Int).toNat) hp26 gca rfl).trans ev21
                      have e545 := (kp_c (j := (2082 : Int).toNat) hp427 gca rfl).trans e544
                      have e546 := (kp_c (j := (2082 : Int).toNat) hp517 gca rfl).trans e545
                      have e547 := (up_nI (a' := ca) (j' := (2082 : Int).toNat) U523 (ne_k gca gq521 (by decide))).trans e546
                      have e548 := (kp_c (j := (2082 : Int).toNat) hp528 gca rfl).trans e547
                      have e549 := (kp_c (j := (2082 : Int).toNat) hp530 gca rfl).trans e548
                      have e550 := (kp_c (j := (2082 : Int).toNat) hp532 gca rfl).trans e549
                      have e551 := (up_nI (a' := ca) (j' := (2082 : Int).toNat) U533 (fun h => by have h2 := h.2; omega)).trans e550
                      refine q_cald E hC533 (lo := 0) (hi := 2) gca (a := 2082) (show (2082 : Int32).toInt = 2082 from by decide) (by omega) (by omega) (cr_n2 (by omega) (by omega)) dX12_readSchool_161 (fun v543 ev543 lv543 uv543 => ?_)
                      have qv543 := e551.symm.trans ev543; subst qv543
                      refine lv_iconst (v := 1) hx hb dX12_readSchool_162 rfl ?_
                      refine lv_iadd hx hb dX12_readSchool_163 (lv_topi (fun v552 ev552 => ?_))
                      have ev552i : v552.toInt = (v21.toInt + 1) := i_add ev552 rfl (by decide) (by omega) (by omega)
                      refine q_cast E hC533 hS533 gca (a := 2082) (show (2082 : Int32).toInt = 2082 from by decide) (by omega) (by omega) (cs_n2 (a := 2082) (b := (v21.toInt + 1)) (by omega) (by omega) ev552i (by omega) (by omega)) dX12_readSchool_164 (fun H553 locs553 hC553 hS553 U553 => ?_)
                      have hKp553 := Kp.upD gca rfl rfl (fun _ => ⟨fun _ => nd4 (by omega) (by omega), fun _ => by unfold dpu; omega, fun _ => by unfold dpn; omega⟩) U553 hKp533
                      have m554 : (sI H553 h0 (X.1.2 11 12)).toInt = (sI H533 h0 (X.1.2 11 12)).toInt := congrArg Int32.toInt (up_nI U553 (ne_k g0 gca (by decide)))
                      have m555 : (sI H553 h0 (X.1.2 11 14)).toInt = (sI H533 h0 (X.1.2 11 14)).toInt := congrArg Int32.toInt (up_nI U553 (ne_k g0 gca (by decide)))
                      have m556 := congrArg tk m555
                      have m557 : (sI H553 h0 (X.1.2 11 16)).toInt = (sI H533 h0 (X.1.2 11 16)).toInt := congrArg Int32.toInt (up_nI U553 (ne_k g0 gca (by decide)))
                      have e558 := up_I U553
                      have hz8 := tk_nn (sI H553 h0 (X.1.2 11 14)).toInt
                      exact ret H553 locs553 _ _ dX12_readSchool_165 ⟨hKp553, ⟨by omega, by omega, by omega, by omega⟩⟩ hC553 hS553
                  · have hz8 := tk_nn (sI H517 h0 (X.1.2 11 14)).toInt
                    exact ret H517 locs517 _ _ dX12_readSchool_106 ⟨hKp517, ⟨by omega, by omega, by omega, by omega⟩⟩ hC517 hS517
    · have hz8 := tk_nn (sI H0 h0 (X.1.2 11 14)).toInt
      exact ret H0 [] _ _ dX12_readSchool_31 ⟨hKp0, ⟨by omega, by omega, by omega, by omega⟩⟩ hC0 hS0
  · refine lv_aload_n hx hb dX12_readSchool_14 rfl (lv_at hl 1 rfl) ?_
    refine lv_bipush (v := 6) hx hb dX12_readSchool_15 rfl ?_
    refine lv_aload_n hx hb dX12_readSchool_17 rfl (lv_at hl 1 rfl) ?_
    refine q_getI E hC0 g0 fa_RX12_114 dX12_readSchool_18 (fun v559 ev559 lv559 uv559 => ?_)
    refine q_goV (q_runV (As := [.int 6, .int v559]) (rest := []) E hC0 hS0 (m_X12_fail l X Γ H0 hC0 h0 g0 6 (a1 := 6) (by decide) v559 (a2 := v559.toInt) rfl ca gca uc (by omega) (by omega)) cw_X12_fail cl_RX12_224 g0 ⟨rfl, rfl⟩ rfl hl.1 rfl (Nat.zero_le _) (by decide) dX12_readSchool_21) hS0 (fun H560 locs560 hr560 hC560 hS560 => ?_)
    obtain ⟨hp560, hr560⟩ := hr560
    have hKp560 := hKp0.tr (hp560.mono rfl)
    obtain ⟨f560_0, f560_1, f560_2, f560_3⟩ := hr560
    refine lv_aload_n hx hb dX12_readSchool_24 rfl (lv_at hl 1 rfl) ?_
    refine q_getI E hC560 g0 fa_RX12_218 dX12_readSchool_25 (fun v561 ev561 lv561 uv561 => ?_)
    have m562 : (sI H560 h0 (X.1.2 11 12)).toInt = v561.toInt := (congrArg Int32.toInt ev561).trans rfl
    refine q_if_le hx hb (a := v561.toInt) rfl (tgt := 32) dX12_readSchool_28 rfl (fun c563 => ?_) (fun c563 => ?_)
    · refine lv_aload_n hx hb dX12_readSchool_32 rfl (lv_at hl 1 rfl) ?_
      refine q_goV (q_runV (As := []) (rest := []) E hC560 hS560 (m_X12_next l X Γ H560 hC560 h0 g0 ca gca uc) cw_X12_next cl_RX12_228 g0 ⟨rfl, rfl⟩ rfl hl.1 rfl (Nat.zero_le _) (by decide) dX12_readSchool_33) hS560 (fun H564 locs564 hr564 hC564 hS564 => ?_)
      obtain ⟨hp564, hr564⟩ := hr564
      have hKp564 := hKp560.tr (hp564.mono rfl)
      obtain ⟨f564_0, f564_1, f564_2⟩ := hr564
      refine lv_aload_n hx hb dX12_readSchool_36 rfl (lv_at hl 1 rfl) ?_
      refine q_getI E hC564 g0 fa_RX12_120 dX12_readSchool_37 (fun v565 ev565 _ _ => ?_)
      have m566 : (sI H564 h0 (X.1.2 11 14)).toInt = v565.toInt := (congrArg Int32.toInt ev565).trans rfl
      refine lv_iconst (v := 1) hx hb dX12_readSchool_40 rfl ?_
      refine q_icmp_ne hx hb (a := v565.toInt) (b := 1) rfl (by decide) (tgt := 60) dX12_readSchool_41 rfl (fun c567 => ?_) (fun c567 => ?_)
      · refine lv_aload_n hx hb dX12_readSchool_60 rfl (lv_at hl 1 rfl) ?_
        refine q_goV (q_runV (As := []) (rest := []) E hC564 hS564 (m_X12_wrong l X Γ H564 hC564 h0 g0 ca gca uc) cw_X12_wrong cl_RX12_231 g0 ⟨rfl, rfl⟩ rfl hl.1 rfl (Nat.zero_le _) (by decide) dX12_readSchool_61) hS564 (fun H568 locs568 hr568 hC568 hS568 => ?_)
        obtain ⟨hp568, hr568⟩ := hr568
        have hKp568 := hKp564.tr (hp568.mono rfl)
        obtain ⟨f568_0, f568_1, f568_2, f568_3⟩ := hr568
        refine lv_aload_n hx hb dX12_readSchool_64 rfl (lv_at hl 1 rfl) ?_
        refine q_getI E hC568 g0 fa_RX12_218 dX12_readSchool_65 (fun v569 ev569 lv569 uv569 => ?_)
        have m570 : (sI H568 h0 (X.1.2 11 12)).toInt = v569.toInt := (congrArg Int32.toInt ev569).trans rfl
        refine q_if_ne hx hb (a := v569.toInt) rfl (tgt := 99) dX12_readSchool_68 rfl (fun c571 => ?_) (fun c571 => ?_)
        · refine lv_aload_n hx hb dX12_readSchool_99 rfl (lv_at hl 1 rfl) ?_
          refine q_getI E hC568 g0 fa_RX12_218 dX12_readSchool_100 (fun v572 ev572 lv572 uv572 => ?_)
          have qv572 := ev569.symm.trans ev572; subst qv572
          refine q_if_le hx hb (a := v569.toInt) rfl (tgt := 107) dX12_readSchool_103 rfl (fun c573 => absurd c573 (by omega)) (fun c573 => ?_)
          have hz8 := tk_nn (sI H568 h0 (X.1.2 11 14)).toInt
          exact ret H568 locs568 _ _ dX12_readSchool_106 ⟨hKp568, ⟨by omega, by omega, by omega, by omega⟩⟩ hC568 hS568
        · refine lv_iload_n hx hb dX12_readSchool_71 rfl (lv_at hl 0 rfl) ?_
          refine lv_iconst (v := 1) hx hb dX12_readSchool_72 rfl ?_
          refine q_icmp_ne hx hb (a := v21.toInt) (b := 1) rfl (by decide) (tgt := 99) dX12_readSchool_73 rfl (fun c574 => ?_) (fun c574 => absurd c574 (by omega))
          refine lv_aload_n hx hb dX12_readSchool_99 rfl (lv_at hl 1 rfl) ?_
          refine q_getI E hC568 g0 fa_RX12_218 dX12_readSchool_100 (fun v575 ev575 lv575 uv575 => ?_)
          have qv575 := ev569.symm.trans ev575; subst qv575
          refine q_if_le hx hb (a := v569.toInt) rfl (tgt := 107) dX12_readSchool_103 rfl (fun c576 => ?_) (fun c576 => absurd c576 (by omega))
          refine lv_aload_n hx hb dX12_readSchool_107 rfl (lv_at hl 1 rfl) ?_
          refine q_getR E hC568 g0 fa_RX12_44 dX12_readSchool_108 (fun q577 eq577 gq577 => ?_)
          refine lv_iload_n hx hb dX12_readSchool_111 rfl (lv_at hl 0 rfl) ?_
          refine lv_aload_n hx hb dX12_readSchool_112 rfl (lv_at hl 1 rfl) ?_
          refine q_getJ E hC568 g0 fa_RX12_126 dX12_readSchool_113 (fun v578 ev578 => ?_)
          refine q_last E hC568 hS568 gq577 (by decide) rfl rfl (fun _ => rfl) (i_in (a := v21.toInt) rfl (by omega) (by omega)) dX12_readSchool_116 (fun H579 locs579 hC579 hS579 U579 => ?_)
          have hKp579 := Kp.upA gq577 rfl (by decide) rfl U579 hKp568
          have m580 : (sI H579 h0 (X.1.2 11 12)).toInt = (sI H568 h0 (X.1.2 11 12)).toInt := congrArg Int32.toInt (up_nI U579 (ne_k g0 gq577 (by decide)))
          have m581 : (sI H579 h0 (X.1.2 11 14)).toInt = (sI H568 h0 (X.1.2 11 14)).toInt := congrArg Int32.toInt (up_nI U579 (ne_k g0 gq577 (by decide)))
          have m582 := congrArg tk m581
          have m583 : (sI H579 h0 (X.1.2 11 16)).toInt = (sI H568 h0 (X.1.2 11 16)).toInt := congrArg Int32.toInt (up_nI U579 (ne_k g0 gq577 (by decide)))
          refine lv_aload_n hx hb dX12_readSchool_117 rfl (lv_at hl 1 rfl) ?_
          refine q_goV (q_runV (As := []) (rest := []) E hC579 hS579 (m_X12_next l X Γ H579 hC579 h0 g0 ca gca uc) cw_X12_next cl_RX12_228 g0 ⟨rfl, rfl⟩ rfl hl.1 rfl (Nat.zero_le _) (by decide) dX12_readSchool_118) hS579 (fun H584 locs584 hr584 hC584 hS584 => ?_)
          obtain ⟨hp584, hr584⟩ := hr584
          have hKp584 := hKp579.tr (hp584.mono rfl)
          obtain ⟨f584_0, f584_1, f584_2⟩ := hr584
          refine lv_aload_n hx hb dX12_readSchool_121 rfl (lv_at hl 1 rfl) ?_
          refine lv_aload_n hx hb dX12_readSchool_122 rfl (lv_at hl 1 rfl) ?_
          refine q_goIp (q_runV (As := []) (rest := [.ref h0]) E hC584 hS584 (m_X12_isHands l X Γ H584 hC584 h0 g0 ca gca uc) cw_X12_isHands cl_RX12_175 g0 ⟨rfl, rfl⟩ rfl hl.1 rfl (show _ ≤ _ from by simp [Value.category]) (by decide) dX12_readSchool_123) hS584 (fun v585 locs585 hr585 hS585 => ?_)
          have b585 : v585.toInt = 0 ∨ v585.toInt = 1 := hr585.imp (fun h => by rw [h]; decide) (fun h => by rw [h]; decide)
          refine q_goV (q_runV (As := [.int v585]) (rest := []) E hC584 hS585 (m_X12_must l X Γ H584 hC584 h0 g0 v585 (a1 := v585.toInt) rfl ca gca uc (by omega) (by omega)) cw_X12_must cl_RX12_244 g0 ⟨rfl, rfl⟩ rfl hl.1 rfl (Nat.zero_le _) (by decide) dX12_readSchool_126) hS585 (fun H586 locs586 hr586 hC586 hS586 => ?_)
          obtain ⟨hp586, hr586⟩ := hr586
          have hKp586 := hKp584.tr (hp586.mono rfl)
          obtain ⟨f586_0, f586_1, f586_2, f586_3, f586_4⟩ := hr586
          refine lv_aload_n hx hb dX12_readSchool_129 rfl (lv_at hl 1 rfl) ?_
          refine q_getC E hC586 g0 fa_RX12_35 uc dX12_readSchool_130 ?_
          refine lv_sipush (v := 2092) hx hb dX12_readSchool_133 rfl ?_
          refine lv_iload_n hx hb dX12_readSchool_136 rfl (lv_at hl 0 rfl) ?_
          refine lv_iadd hx hb dX12_readSchool_137 (lv_topi (fun v587 ev587 => ?_))
          have ev587i : v587.toInt = (2092 + v21.toInt) := i_add ev587 (by decide) rfl (by omega) (by omega)
          refine lv_aload_n hx hb dX12_readSchool_138 rfl (lv_at hl 1 rfl) ?_
          refine lv_iconst (v := 0) hx hb dX12_readSchool_139 rfl ?_
          refine lv_bipush (v := 40) hx hb dX12_readSchool_140 rfl ?_
          refine q_goI (q_runV (As := [.int 0, .int 40]) (rest := [.int v587, .ref ca]) E hC586 hS586 (m_X12_count l X Γ H586 hC586 h0 g0 0 (a1 := 0) (by decide) 40 (a2 := 40) (by decide) ca gca uc (by omega) (by omega) (by omega) (by omega)) cw_X12_count cl_RX12_248 g0 ⟨rfl, rfl⟩ rfl hl.1 rfl (show _ ≤ _ from by simp [Value.category]) (by decide) dX12_readSchool_142) hS586 (fun v588 H588 locs588 hr588 hC588 hS588 => ?_)
          obtain ⟨hp588, hr588⟩ := hr588
          have hKp588 := hKp586.tr (hp588.mono rfl)
          obtain ⟨f588_0, f588_1, f588_2, f588_3, f588_4, f588_5, f588_6, f588_7⟩ := hr588
          refine q_cast E hC588 hS588 gca (a := (2092 + v21.toInt)) ev587i (by omega) (by omega) (cs_n14 (a := (2092 + v21.toInt)) (b := v588.toInt) (by omega) (by omega) rfl (by omega) (by omega)) dX12_readSchool_145 (fun H589 locs589 hC589 hS589 U589 => ?_)
          have hKp589 := Kp.upD gca rfl rfl (fun _ => ⟨fun _ => nd4 (by omega) (by omega), fun _ => by unfold dpu; omega, fun _ => by unfold dpn; omega⟩) U589 hKp588
          have m590 : (sI H589 h0 (X.1.2 11 12)).toInt = (sI H588 h0 (X.1.2 11 12)).toInt := congrArg Int32.toInt (up_nI U589 (ne_k g0 gca (by decide)))
          have m591 : (sI H589 h0 (X.1.2 11 14)).toInt = (sI H588 h0 (X.1.2 11 14)).toInt := congrArg Int32.toInt (up_nI U589 (ne_k g0 gca (by decide)))
          have m592 := congrArg tk m591
          have m593 : (sI H589 h0 (X.1.2 11 16)).toInt = (sI H588 h0 (X.1.2 11 16)).toInt := congrArg Int32.toInt (up_nI U589 (ne_k g0 gca (by decide)))
          have e594 := up_I U589
          refine lv_aload_n hx hb dX12_readSchool_146 rfl (lv_at hl 1 rfl) ?_
          have e596 := (up_nI U579 (ne_k g0 gq577 (by decide))).trans ev569
          refine q_getI E hC589 g0 fa_RX12_218 dX12_readSchool_147 (fun v595 ev595 lv595 uv595 => ?_)
          have m597 : (sI H589 h0 (X.1.2 11 12)).toInt = v595.toInt := (congrArg Int32.toInt ev595).trans rfl
          refine q_if_ne hx hb (a := v595.toInt) rfl (tgt := 165) dX12_readSchool_150 rfl (fun c598 => ?_) (fun c598 => ?_)
          · have hz8 := tk_nn (sI H589 h0 (X.1.2 11 14)).toInt
            exact ret H589 locs589 _ _ dX12_readSchool_165 ⟨hKp589, ⟨by omega, by omega, by omega, by omega⟩⟩ hC589 hS589
          · refine lv_aload_n hx hb dX12_readSchool_153 rfl (lv_at hl 1 rfl) ?_
            refine q_getC E hC589 g0 fa_RX12_35 uc dX12_readSchool_154 ?_
            refine lv_sipush (v := 2082) hx hb dX12_readSchool_157 rfl ?_
            refine lv_dup2_11 hx hb dX12_readSchool_160 rfl rfl ?_
            have e600 := (kp_c (j := (2082 : Int).toNat) hp560 gca rfl).trans ev21
            have e601 := (kp_c (j := (2082 : Int).toNat) hp564 gca rfl).trans e600
            have e602 := (kp_c (j := (2082 : Int).toNat) hp568 gca rfl).trans e601
            have e603 := (up_nI (a' := ca) (j' := (2082 : Int).toNat) U579 (ne_k gca gq577 (by decide))).trans e602
            have e604 := (kp_c (j := (2082 : Int).toNat) hp584 gca rfl).trans e603
            have e605 := (kp_c (j := (2082 : Int).toNat) hp586 gca rfl).trans e604
            have e606 := (kp_c (j := (2082 : Int).toNat) hp588 gca rfl).trans e605
            have e607 := (up_nI (a' := ca) (j' := (2082 : Int).toNat) U589 (fun h => by have h2 := h.2; omega)).trans e606
            refine q_cald E hC589 (lo := 0) (hi := 2) gca (a := 2082) (show (2082 : Int32).toInt = 2082 from by decide) (by omega) (by omega) (cr_n2 (by omega) (by omega)) dX12_readSchool_161 (fun v599 ev599 lv599 uv599 => ?_)
            have qv599 := e607.symm.trans ev599; subst qv599
            refine lv_iconst (v := 1) hx hb dX12_readSchool_162 rfl ?_
            refine lv_iadd hx hb dX12_readSchool_163 (lv_topi (fun v608 ev608 => ?_))
            have ev608i : v608.toInt = (v21.toInt + 1) := i_add ev608 rfl (by decide) (by omega) (by omega)
            refine q_cast E hC589 hS589 gca (a := 2082) (show (2082 : Int32).toInt = 2082 from by decide) (by omega) (by omega) (cs_n2 (a := 2082) (b := (v21.toInt + 1)) (by omega) (by omega) ev608i (by omega) (by omega)) dX12_readSchool_164 (fun H609 locs609 hC609 hS609 U609 => ?_)
            have hKp609 := Kp.upD gca rfl rfl (fun _ => ⟨fun _ => nd4 (by omega) (by omega), fun _ => by unfold dpu; omega, fun _ => by unfold dpn; omega⟩) U609 hKp589
            have m610 : (sI H609 h0 (X.1.2 11 12)).toInt = (sI H589 h0 (X.1.2 11 12)).toInt := congrArg Int32.toInt (up_nI U609 (ne_k g0 gca (by decide)))
            have m611 : (sI H609 h0 (X.1.2 11 14)).toInt = (sI H589 h0 (X.1.2 11 14)).toInt := congrArg Int32.toInt (up_nI U609 (ne_k g0 gca (by decide)))
            have m612 := congrArg tk m611
            have m613 : (sI H609 h0 (X.1.2 11 16)).toInt = (sI H589 h0 (X.1.2 11 16)).toInt := congrArg Int32.toInt (up_nI U609 (ne_k g0 gca (by decide)))
            have e614 := up_I U609
            have hz8 := tk_nn (sI H609 h0 (X.1.2 11 14)).toInt
            exact ret H609 locs609 _ _ dX12_readSchool_165 ⟨hKp609, ⟨by omega, by omega, by omega, by omega⟩⟩ hC609 hS609
      · refine lv_aload_n hx hb dX12_readSchool_44 rfl (lv_at hl 1 rfl) ?_
        refine q_getI E hC564 g0 fa_RX12_133 dX12_readSchool_45 (fun v615 ev615 _ _ => ?_)
        refine lv_bipush (v := 8) hx hb dX12_readSchool_48 rfl ?_
        refine q_icmp_gt hx hb (a := v615.toInt) (b := 8) rfl (by decide) (tgt := 60) dX12_readSchool_50 rfl (fun c616 => ?_) (fun c616 => ?_)
        · refine lv_aload_n hx hb dX12_readSchool_60 rfl (lv_at hl 1 rfl) ?_
          refine q_goV (q_runV (As := []) (rest := []) E hC564 hS564 (m_X12_wrong l X Γ H564 hC564 h0 g0 ca gca uc) cw_X12_wrong cl_RX12_231 g0 ⟨rfl, rfl⟩ rfl hl.1 rfl (Nat.zero_le _) (by decide) dX12_readSchool_61) hS564 (fun H617 locs617 hr617 hC617 hS617 => ?_)
          obtain ⟨hp617, hr617⟩ := hr617
          have hKp617 := hKp564.tr (hp617.mono rfl)
          obtain ⟨f617_0, f617_1, f617_2, f617_3⟩ := hr617
          refine lv_aload_n hx hb dX12_readSchool_64 rfl (lv_at hl 1 rfl) ?_
          refine q_getI E hC617 g0 fa_RX12_218 dX12_readSchool_65 (fun v618 ev618 lv618 uv618 => ?_)
          have m619 : (sI H617 h0 (X.1.2 11 12)).toInt = v618.toInt := (congrArg Int32.toInt ev618).trans rfl
          refine q_if_ne hx hb (a := v618.toInt) rfl (tgt := 99) dX12_readSchool_68 rfl (fun c620 => ?_) (fun c620 => ?_)
          · refine lv_aload_n hx hb dX12_readSchool_99 rfl (lv_at hl 1 rfl) ?_
            refine q_getI E hC617 g0 fa_RX12_218 dX12_readSchool_100 (fun v621 ev621 lv621 uv621 => ?_)
            have qv621 := ev618.symm.trans ev621; subst qv621
            refine q_if_le hx hb (a := v618.toInt) rfl (tgt := 107) dX12_readSchool_103 rfl (fun c622 => absurd c622 (by omega)) (fun c622 => ?_)
            have hz8 := tk_nn (sI H617 h0 (X.1.2 11 14)).toInt
            exact ret H617 locs617 _ _ dX12_readSchool_106 ⟨hKp617, ⟨by omega, by omega, by omega, by omega⟩⟩ hC617 hS617
          · refine lv_iload_n hx hb dX12_readSchool_71 rfl (lv_at hl 0 rfl) ?_
            refine lv_iconst (v := 1) hx hb dX12_readSchool_72 rfl ?_
            refine q_icmp_ne hx hb (a := v21.toInt) (b := 1) rfl (by decide) (tgt := 99) dX12_readSchool_73 rfl (fun c623 => ?_) (fun c623 => absurd c623 (by omega))
            refine lv_aload_n hx hb dX12_readSchool_99 rfl (lv_at hl 1 rfl) ?_
            refine q_getI E hC617 g0 fa_RX12_218 dX12_readSchool_100 (fun v624 ev624 lv624 uv624 => ?_)
            have qv624 := ev618.symm.trans ev624; subst qv624
            refine q_if_le hx hb (a := v618.toInt) rfl (tgt := 107) dX12_readSchool_103 rfl (fun c625 => ?_) (fun c625 => absurd c625 (by omega))
            refine lv_aload_n hx hb dX12_readSchool_107 rfl (lv_at hl 1 rfl) ?_
            refine q_getR E hC617 g0 fa_RX12_44 dX12_readSchool_108 (fun q626 eq626 gq626 => ?_)
            refine lv_iload_n hx hb dX12_readSchool_111 rfl (lv_at hl 0 rfl) ?_
            refine lv_aload_n hx hb dX12_readSchool_112 rfl (lv_at hl 1 rfl) ?_
            refine q_getJ E hC617 g0 fa_RX12_126 dX12_readSchool_113 (fun v627 ev627 => ?_)
            refine q_last E hC617 hS617 gq626 (by decide) rfl rfl (fun _ => rfl) (i_in (a := v21.toInt) rfl (by omega) (by omega)) dX12_readSchool_116 (fun H628 locs628 hC628 hS628 U628 => ?_)
            have hKp628 := Kp.upA gq626 rfl (by decide) rfl U628 hKp617
            have m629 : (sI H628 h0 (X.1.2 11 12)).toInt = (sI H617 h0 (X.1.2 11 12)).toInt := congrArg Int32.toInt (up_nI U628 (ne_k g0 gq626 (by decide)))
            have m630 : (sI H628 h0 (X.1.2 11 14)).toInt = (sI H617 h0 (X.1.2 11 14)).toInt := congrArg Int32.toInt (up_nI U628 (ne_k g0 gq626 (by decide)))
            have m631 := congrArg tk m630
            have m632 : (sI H628 h0 (X.1.2 11 16)).toInt = (sI H617 h0 (X.1.2 11 16)).toInt := congrArg Int32.toInt (up_nI U628 (ne_k g0 gq626 (by decide)))
            refine lv_aload_n hx hb dX12_readSchool_117 rfl (lv_at hl 1 rfl) ?_
            refine q_goV (q_runV (As := []) (rest := []) E hC628 hS628 (m_X12_next l X Γ H628 hC628 h0 g0 ca gca uc) cw_X12_next cl_RX12_228 g0 ⟨rfl, rfl⟩ rfl hl.1 rfl (Nat.zero_le _) (by decide) dX12_readSchool_118) hS628 (fun H633 locs633 hr633 hC633 hS633 => ?_)
            obtain ⟨hp633, hr633⟩ := hr633
            have hKp633 := hKp628.tr (hp633.mono rfl)
            obtain ⟨f633_0, f633_1, f633_2⟩ := hr633
            refine lv_aload_n hx hb dX12_readSchool_121 rfl (lv_at hl 1 rfl) ?_
            refine lv_aload_n hx hb dX12_readSchool_122 rfl (lv_at hl 1 rfl) ?_
            refine q_goIp (q_runV (As := []) (rest := [.ref h0]) E hC633 hS633 (m_X12_isHands l X Γ H633 hC633 h0 g0 ca gca uc) cw_X12_isHands cl_RX12_175 g0 ⟨rfl, rfl⟩ rfl hl.1 rfl (show _ ≤ _ from by simp [Value.category]) (by decide) dX12_readSchool_123) hS633 (fun v634 locs634 hr634 hS634 => ?_)
            have b634 : v634.toInt = 0 ∨ v634.toInt = 1 := hr634.imp (fun h => by rw [h]; decide) (fun h => by rw [h]; decide)
            refine q_goV (q_runV (As := [.int v634]) (rest := []) E hC633 hS634 (m_X12_must l X Γ H633 hC633 h0 g0 v634 (a1 := v634.toInt) rfl ca gca uc (by omega) (by omega)) cw_X12_must cl_RX12_244 g0 ⟨rfl, rfl⟩ rfl hl.1 rfl (Nat.zero_le _) (by decide) dX12_readSchool_126) hS634 (fun H635 locs635 hr635 hC635 hS635 => ?_)
            obtain ⟨hp635, hr635⟩ := hr635
            have hKp635 := hKp633.tr (hp635.mono rfl)
            obtain ⟨f635_0, f635_1, f635_2, f635_3, f635_4⟩ := hr635
            refine lv_aload_n hx hb dX12_readSchool_129 rfl (lv_at hl 1 rfl) ?_
            refine q_getC E hC635 g0 fa_RX12_35 uc dX12_readSchool_130 ?_
            refine lv_sipush (v := 2092) hx hb dX12_readSchool_133 rfl ?_
            refine lv_iload_n hx hb dX12_readSchool_136 rfl (lv_at hl 0 rfl) ?_
            refine lv_iadd hx hb dX12_readSchool_137 (lv_topi (fun v636 ev636 => ?_))
            have ev636i : v636.toInt = (2092 + v21.toInt) := i_add ev636 (by decide) rfl (by omega) (by omega)
            refine lv_aload_n hx hb dX12_readSchool_138 rfl (lv_at hl 1 rfl) ?_
            refine lv_iconst (v := 0) hx hb dX12_readSchool_139 rfl ?_
            refine lv_bipush (v := 40) hx hb dX12_readSchool_140 rfl ?_
            refine q_goI (q_runV (As := [.int 0, .int 40]) (rest := [.int v636, .ref ca]) E hC635 hS635 (m_X12_count l X Γ H635 hC635 h0 g0 0 (a1 := 0) (by decide) 40 (a2 := 40) (by decide) ca gca uc (by omega) (by omega) (by omega) (by omega)) cw_X12_count cl_RX12_248 g0 ⟨rfl, rfl⟩ rfl hl.1 rfl (show _ ≤ _ from by simp [Value.category]) (by decide) dX12_readSchool_142) hS635 (fun v637 H637 locs637 hr637 hC637 hS637 => ?_)
            obtain ⟨hp637, hr637⟩ := hr637
            have hKp637 := hKp635.tr (hp637.mono rfl)
            obtain ⟨f637_0, f637_1, f637_2, f637_3, f637_4, f637_5, f637_6, f637_7⟩ := hr637
            refine q_cast E hC637 hS637 gca (a := (2092 + v21.toInt)) ev636i (by omega) (by omega) (cs_n14 (a := (2092 + v21.toInt)) (b := v637.toInt) (by omega) (by omega) rfl (by omega) (by omega)) dX12_readSchool_145 (fun H638 locs638 hC638 hS638 U638 => ?_)
            have hKp638 := Kp.upD gca rfl rfl (fun _ => ⟨fun _ => nd4 (by omega) (by omega), fun _ => by unfold dpu; omega, fun _ => by unfold dpn; omega⟩) U638 hKp637
            have m639 : (sI H638 h0 (X.1.2 11 12)).toInt = (sI H637 h0 (X.1.2 11 12)).toInt := congrArg Int32.toInt (up_nI U638 (ne_k g0 gca (by decide)))
            have m640 : (sI H638 h0 (X.1.2 11 14)).toInt = (sI H637 h0 (X.1.2 11 14)).toInt := congrArg Int32.toInt (up_nI U638 (ne_k g0 gca (by decide)))
            have m641 := congrArg tk m640
            have m642 : (sI H638 h0 (X.1.2 11 16)).toInt = (sI H637 h0 (X.1.2 11 16)).toInt := congrArg Int32.toInt (up_nI U638 (ne_k g0 gca (by decide)))
            have e643 := up_I U638
            refine lv_aload_n hx hb dX12_readSchool_146 rfl (lv_at hl 1 rfl) ?_
            have e645 := (up_nI U628 (ne_k g0 gq626 (by decide))).trans ev618
            refine q_getI E hC638 g0 fa_RX12_218 dX12_readSchool_147 (fun v644 ev644 lv644 uv644 => ?_)
            have m646 : (sI H638 h0 (X.1.2 11 12)).toInt = v644.toInt := (congrArg Int32.toInt ev644).trans rfl
            refine q_if_ne hx hb (a := v644.toInt) rfl (tgt := 165) dX12_readSchool_150 rfl (fun c647 => ?_) (fun c647 => ?_)
            · have hz8 := tk_nn (sI H638 h0 (X.1.2 11 14)).toInt
              exact ret H638 locs638 _ _ dX12_readSchool_165 ⟨hKp638, ⟨by omega, by omega, by omega, by omega⟩⟩ hC638 hS638
            · refine lv_aload_n hx hb dX12_readSchool_153 rfl (lv_at hl 1 rfl) ?_
              refine q_getC E hC638 g0 fa_RX12_35 uc dX12_readSchool_154 ?_
              refine lv_sipush (v := 2082) hx hb dX12_readSchool_157 rfl ?_
              refine lv_dup2_11 hx hb dX12_readSchool_160 rfl rfl ?_
              have e649 := (kp_c (j := (2082 : Int).toNat) hp560 gca rfl).trans ev21
              have e650 := (kp_c (j := (2082 : Int).toNat) hp564 gca rfl).trans e649
              have e651 := (kp_c (j := (2082 : Int).toNat) hp617 gca rfl).trans e650
              have e652 := (up_nI (a' := ca) (j' := (2082 : Int).toNat) U628 (ne_k gca gq626 (by decide))).trans e651
              have e653 := (kp_c (j := (2082 : Int).toNat) hp633 gca rfl).trans e652
              have e654 := (kp_c (j := (2082 : Int).toNat) hp635 gca rfl).trans e653
              have e655 := (kp_c (j := (2082 : Int).toNat) hp637 gca rfl).trans e654
              have e656 := (up_nI (a' := ca) (j' := (2082 : Int).toNat) U638 (fun h => by have h2 := h.2; omega)).trans e655
              refine q_cald E hC638 (lo := 0) (hi := 2) gca (a := 2082) (show (2082 : Int32).toInt = 2082 from by decide) (by omega) (by omega) (cr_n2 (by omega) (by omega)) dX12_readSchool_161 (fun v648 ev648 lv648 uv648 => ?_)
              have qv648 := e656.symm.trans ev648; subst qv648
              refine lv_iconst (v := 1) hx hb dX12_readSchool_162 rfl ?_
              refine lv_iadd hx hb dX12_readSchool_163 (lv_topi (fun v657 ev657 => ?_))
              have ev657i : v657.toInt = (v21.toInt + 1) := i_add ev657 rfl (by decide) (by omega) (by omega)
              refine q_cast E hC638 hS638 gca (a := 2082) (show (2082 : Int32).toInt = 2082 from by decide) (by omega) (by omega) (cs_n2 (a := 2082) (b := (v21.toInt + 1)) (by omega) (by omega) ev657i (by omega) (by omega)) dX12_readSchool_164 (fun H658 locs658 hC658 hS658 U658 => ?_)
              have hKp658 := Kp.upD gca rfl rfl (fun _ => ⟨fun _ => nd4 (by omega) (by omega), fun _ => by unfold dpu; omega, fun _ => by unfold dpn; omega⟩) U658 hKp638
              have m659 : (sI H658 h0 (X.1.2 11 12)).toInt = (sI H638 h0 (X.1.2 11 12)).toInt := congrArg Int32.toInt (up_nI U658 (ne_k g0 gca (by decide)))
              have m660 : (sI H658 h0 (X.1.2 11 14)).toInt = (sI H638 h0 (X.1.2 11 14)).toInt := congrArg Int32.toInt (up_nI U658 (ne_k g0 gca (by decide)))
              have m661 := congrArg tk m660
              have m662 : (sI H658 h0 (X.1.2 11 16)).toInt = (sI H638 h0 (X.1.2 11 16)).toInt := congrArg Int32.toInt (up_nI U658 (ne_k g0 gca (by decide)))
              have e663 := up_I U658
              have hz8 := tk_nn (sI H658 h0 (X.1.2 11 14)).toInt
              exact ret H658 locs658 _ _ dX12_readSchool_165 ⟨hKp658, ⟨by omega, by omega, by omega, by omega⟩⟩ hC658 hS658
        · refine lv_aload_n hx hb dX12_readSchool_53 rfl (lv_at hl 1 rfl) ?_
          refine q_goIp (q_runV (As := []) (rest := []) E hC564 hS564 (m_X12_isKept l X Γ H564 hC564 h0 g0 ca gca uc) cw_X12_isKept cl_RX12_241 g0 ⟨rfl, rfl⟩ rfl hl.1 rfl (Nat.zero_le _) (by decide) dX12_readSchool_54) hS564 (fun v664 locs664 hr664 hS664 => ?_)
          rcases hr664 with rfl | rfl
          · refine q_if_eq hx hb (a := 0) (by decide) (tgt := 64) dX12_readSchool_57 rfl (fun c665 => ?_) (fun c665 => absurd c665 (by omega))
            refine lv_aload_n hx hb dX12_readSchool_64 rfl (lv_at hl 1 rfl) ?_
            refine q_getI E hC564 g0 fa_RX12_218 dX12_readSchool_65 (fun v666 ev666 lv666 uv666 => ?_)
            have m667 : (sI H564 h0 (X.1.2 11 12)).toInt = v666.toInt := (congrArg Int32.toInt ev666).trans rfl
            refine q_if_ne hx hb (a := v666.toInt) rfl (tgt := 99) dX12_readSchool_68 rfl (fun c668 => ?_) (fun c668 => ?_)
            · refine lv_aload_n hx hb dX12_readSchool_99 rfl (lv_at hl 1 rfl) ?_
              refine q_getI E hC564 g0 fa_RX12_218 dX12_readSchool_100 (fun v669 ev669 lv669 uv669 => ?_)
              have qv669 := ev666.symm.trans ev669; subst qv669
              refine q_if_le hx hb (a := v666.toInt) rfl (tgt := 107) dX12_readSchool_103 rfl (fun c670 => absurd c670 (by omega)) (fun c670 => ?_)
              have hz8 := tk_nn (sI H564 h0 (X.1.2 11 14)).toInt
              exact ret H564 locs664 _ _ dX12_readSchool_106 ⟨hKp564, ⟨by omega, by omega, by omega, by omega⟩⟩ hC564 hS664
            · refine lv_iload_n hx hb dX12_readSchool_71 rfl (lv_at hl 0 rfl) ?_
              refine lv_iconst (v := 1) hx hb dX12_readSchool_72 rfl ?_
              refine q_icmp_ne hx hb (a := v21.toInt) (b := 1) rfl (by decide) (tgt := 99) dX12_readSchool_73 rfl (fun c671 => ?_) (fun c671 => absurd c671 (by omega))
              refine lv_aload_n hx hb dX12_readSchool_99 rfl (lv_at hl 1 rfl) ?_
              refine q_getI E hC564 g0 fa_RX12_218 dX12_readSchool_100 (fun v672 ev672 lv672 uv672 => ?_)
              have qv672 := ev666.symm.trans ev672; subst qv672
              refine q_if_le hx hb (a := v666.toInt) rfl (tgt := 107) dX12_readSchool_103 rfl (fun c673 => ?_) (fun c673 => absurd c673 (by omega))
              refine lv_aload_n hx hb dX12_readSchool_107 rfl (lv_at hl 1 rfl) ?_
              refine q_getR E hC564 g0 fa_RX12_44 dX12_readSchool_108 (fun q674 eq674 gq674 => ?_)
              refine lv_iload_n hx hb dX12_readSchool_111 rfl (lv_at hl 0 rfl) ?_
              refine lv_aload_n hx hb dX12_readSchool_112 rfl (lv_at hl 1 rfl) ?_
              refine q_getJ E hC564 g0 fa_RX12_126 dX12_readSchool_113 (fun v675 ev675 => ?_)
              refine q_last E hC564 hS664 gq674 (by decide) rfl rfl (fun _ => rfl) (i_in (a := v21.toInt) rfl (by omega) (by omega)) dX12_readSchool_116 (fun H676 locs676 hC676 hS676 U676 => ?_)
              have hKp676 := Kp.upA gq674 rfl (by decide) rfl U676 hKp564
              have m677 : (sI H676 h0 (X.1.2 11 12)).toInt = (sI H564 h0 (X.1.2 11 12)).toInt := congrArg Int32.toInt (up_nI U676 (ne_k g0 gq674 (by decide)))
              have m678 : (sI H676 h0 (X.1.2 11 14)).toInt = (sI H564 h0 (X.1.2 11 14)).toInt := congrArg Int32.toInt (up_nI U676 (ne_k g0 gq674 (by decide)))
              have m679 := congrArg tk m678
              have m680 : (sI H676 h0 (X.1.2 11 16)).toInt = (sI H564 h0 (X.1.2 11 16)).toInt := congrArg Int32.toInt (up_nI U676 (ne_k g0 gq674 (by decide)))
              refine lv_aload_n hx hb dX12_readSchool_117 rfl (lv_at hl 1 rfl) ?_
              refine q_goV (q_runV (As := []) (rest := []) E hC676 hS676 (m_X12_next l X Γ H676 hC676 h0 g0 ca gca uc) cw_X12_next cl_RX12_228 g0 ⟨rfl, rfl⟩ rfl hl.1 rfl (Nat.zero_le _) (by decide) dX12_readSchool_118) hS676 (fun H681 locs681 hr681 hC681 hS681 => ?_)
              obtain ⟨hp681, hr681⟩ := hr681
              have hKp681 := hKp676.tr (hp681.mono rfl)
              obtain ⟨f681_0, f681_1, f681_2⟩ := hr681
              refine lv_aload_n hx hb dX12_readSchool_121 rfl (lv_at hl 1 rfl) ?_
              refine lv_aload_n hx hb dX12_readSchool_122 rfl (lv_at hl 1 rfl) ?_
              refine q_goIp (q_runV (As := []) (rest := [.ref h0]) E hC681 hS681 (m_X12_isHands l X Γ H681 hC681 h0 g0 ca gca uc) cw_X12_isHands cl_RX12_175 g0 ⟨rfl, rfl⟩ rfl hl.1 rfl (show _ ≤ _ from by simp [Value.category]) (by decide) dX12_readSchool_123) hS681 (fun v682 locs682 hr682 hS682 => ?_)
              have b682 : v682.toInt = 0 ∨ v682.toInt = 1 := hr682.imp (fun h => by rw [h]; decide) (fun h => by rw [h]; decide)
              refine q_goV (q_runV (As := [.int v682]) (rest := []) E hC681 hS682 (m_X12_must l X Γ H681 hC681 h0 g0 v682 (a1 := v682.toInt) rfl ca gca uc (by omega) (by omega)) cw_X12_must cl_RX12_244 g0 ⟨rfl, rfl⟩ rfl hl.1 rfl (Nat.zero_le _) (by decide) dX12_readSchool_126) hS682 (fun H683 locs683 hr683 hC683 hS683 => ?_)
              obtain ⟨hp683, hr683⟩ := hr683
              have hKp683 := hKp681.tr (hp683.mono rfl)
              obtain ⟨f683_0, f683_1, f683_2, f683_3, f683_4⟩ := hr683
              refine lv_aload_n hx hb dX12_readSchool_129 rfl (lv_at hl 1 rfl) ?_
              refine q_getC E hC683 g0 fa_RX12_35 uc dX12_readSchool_130 ?_
              refine lv_sipush (v := 2092) hx hb dX12_readSchool_133 rfl ?_
              refine lv_iload_n hx hb dX12_readSchool_136 rfl (lv_at hl 0 rfl) ?_
              refine lv_iadd hx hb dX12_readSchool_137 (lv_topi (fun v684 ev684 => ?_))
              have ev684i : v684.toInt = (2092 + v21.toInt) := i_add ev684 (by decide) rfl (by omega) (by omega)
              refine lv_aload_n hx hb dX12_readSchool_138 rfl (lv_at hl 1 rfl) ?_
              refine lv_iconst (v := 0) hx hb dX12_readSchool_139 rfl ?_
              refine lv_bipush (v := 40) hx hb dX12_readSchool_140 rfl ?_
              refine q_goI (q_runV (As := [.int 0, .int 40]) (rest := [.int v684, .ref ca]) E hC683 hS683 (m_X12_count l X Γ H683 hC683 h0 g0 0 (a1 := 0) (by decide) 40 (a2 := 40) (by decide) ca gca uc (by omega) (by omega) (by omega) (by omega)) cw_X12_count cl_RX12_248 g0 ⟨rfl, rfl⟩ rfl hl.1 rfl (show _ ≤ _ from by simp [Value.category]) (by decide) dX12_readSchool_142) hS683 (fun v685 H685 locs685 hr685 hC685 hS685 => ?_)
              obtain ⟨hp685, hr685⟩ := hr685
              have hKp685 := hKp683.tr (hp685.mono rfl)
              obtain ⟨f685_0, f685_1, f685_2, f685_3, f685_4, f685_5, f685_6, f685_7⟩ := hr685
              refine q_cast E hC685 hS685 gca (a := (2092 + v21.toInt)) ev684i (by omega) (by omega) (cs_n14 (a := (2092 + v21.toInt)) (b := v685.toInt) (by omega) (by omega) rfl (by omega) (by omega)) dX12_readSchool_145 (fun H686 locs686 hC686 hS686 U686 => ?_)
              have hKp686 := Kp.upD gca rfl rfl (fun _ => ⟨fun _ => nd4 (by omega) (by omega), fun _ => by unfold dpu; omega, fun _ => by unfold dpn; omega⟩) U686 hKp685
              have m687 : (sI H686 h0 (X.1.2 11 12)).toInt = (sI H685 h0 (X.1.2 11 12)).toInt := congrArg Int32.toInt (up_nI U686 (ne_k g0 gca (by decide)))
              have m688 : (sI H686 h0 (X.1.2 11 14)).toInt = (sI H685 h0 (X.1.2 11 14)).toInt := congrArg Int32.toInt (up_nI U686 (ne_k g0 gca (by decide)))
              have m689 := congrArg tk m688
              have m690 : (sI H686 h0 (X.1.2 11 16)).toInt = (sI H685 h0 (X.1.2 11 16)).toInt := congrArg Int32.toInt (up_nI U686 (ne_k g0 gca (by decide)))
              have e691 := up_I U686
              refine lv_aload_n hx hb dX12_readSchool_146 rfl (lv_at hl 1 rfl) ?_
              have e693 := (up_nI U676 (ne_k g0 gq674 (by decide))).trans ev666
              refine q_getI E hC686 g0 fa_RX12_218 dX12_readSchool_147 (fun v692 ev692 lv692 uv692 => ?_)
              have m694 : (sI H686 h0 (X.1.2 11 12)).toInt = v692.toInt := (congrArg Int32.toInt ev692).trans rfl
              refine q_if_ne hx hb (a := v692.toInt) rfl (tgt := 165) dX12_readSchool_150 rfl (fun c695 => ?_) (fun c695 => ?_)
              · have hz8 := tk_nn (sI H686 h0 (X.1.2 11 14)).toInt
                exact ret H686 locs686 _ _ dX12_readSchool_165 ⟨hKp686, ⟨by omega, by omega, by omega, by omega⟩⟩ hC686 hS686
              · refine lv_aload_n hx hb dX12_readSchool_153 rfl (lv_at hl 1 rfl) ?_
                refine q_getC E hC686 g0 fa_RX12_35 uc dX12_readSchool_154 ?_
                refine lv_sipush (v := 2082) hx hb dX12_readSchool_157 rfl ?_
                refine lv_dup2_11 hx hb dX12_readSchool_160 rfl rfl ?_
                have e697 := (kp_c (j := (2082 : Int).toNat) hp560 gca rfl).trans ev21
                have e698 := (kp_c (j := (2082 : Int).toNat) hp564 gca rfl).trans e697
                have e699 := (up_nI (a' := ca) (j' := (2082 : Int).toNat) U676 (ne_k gca gq674 (by decide))).trans e698
                have e700 := (kp_c (j := (2082 : Int).toNat) hp681 gca rfl).trans e699
                have e701 := (kp_c (j := (2082 : Int).toNat) hp683 gca rfl).trans e700
                have e702 := (kp_c (j := (2082 : Int).toNat) hp685 gca rfl).trans e701
                have e703 := (up_nI (a' := ca) (j' := (2082 : Int).toNat) U686 (fun h => by have h2 := h.2; omega)).trans e702
                refine q_cald E hC686 (lo := 0) (hi := 2) gca (a := 2082) (show (2082 : Int32).toInt = 2082 from by decide) (by omega) (by omega) (cr_n2 (by omega) (by omega)) dX12_readSchool_161 (fun v696 ev696 lv696 uv696 => ?_)
                have qv696 := e703.symm.trans ev696; subst qv696
                refine lv_iconst (v := 1) hx hb dX12_readSchool_162 rfl ?_
                refine lv_iadd hx hb dX12_readSchool_163 (lv_topi (fun v704 ev704 => ?_))
                have ev704i : v704.toInt = (v21.toInt + 1) := i_add ev704 rfl (by decide) (by omega) (by omega)
                refine q_cast E hC686 hS686 gca (a := 2082) (show (2082 : Int32).toInt = 2082 from by decide) (by omega) (by omega) (cs_n2 (a := 2082) (b := (v21.toInt + 1)) (by omega) (by omega) ev704i (by omega) (by omega)) dX12_readSchool_164 (fun H705 locs705 hC705 hS705 U705 => ?_)
                have hKp705 := Kp.upD gca rfl rfl (fun _ => ⟨fun _ => nd4 (by omega) (by omega), fun _ => by unfold dpu; omega, fun _ => by unfold dpn; omega⟩) U705 hKp686
                have m706 : (sI H705 h0 (X.1.2 11 12)).toInt = (sI H686 h0 (X.1.2 11 12)).toInt := congrArg Int32.toInt (up_nI U705 (ne_k g0 gca (by decide)))
                have m707 : (sI H705 h0 (X.1.2 11 14)).toInt = (sI H686 h0 (X.1.2 11 14)).toInt := congrArg Int32.toInt (up_nI U705 (ne_k g0 gca (by decide)))
                have m708 := congrArg tk m707
                have m709 : (sI H705 h0 (X.1.2 11 16)).toInt = (sI H686 h0 (X.1.2 11 16)).toInt := congrArg Int32.toInt (up_nI U705 (ne_k g0 gca (by decide)))
                have e710 := up_I U705
                have hz8 := tk_nn (sI H705 h0 (X.1.2 11 14)).toInt
                exact ret H705 locs705 _ _ dX12_readSchool_165 ⟨hKp705, ⟨by omega, by omega, by omega, by omega⟩⟩ hC705 hS705
          · refine q_if_eq hx hb (a := 1) (by decide) (tgt := 64) dX12_readSchool_57 rfl (fun c711 => absurd c711 (by omega)) (fun c711 => ?_)
            refine lv_aload_n hx hb dX12_readSchool_60 rfl (lv_at hl 1 rfl) ?_
            refine q_goV (q_runV (As := []) (rest := []) E hC564 hS664 (m_X12_wrong l X Γ H564 hC564 h0 g0 ca gca uc) cw_X12_wrong cl_RX12_231 g0 ⟨rfl, rfl⟩ rfl hl.1 rfl (Nat.zero_le _) (by decide) dX12_readSchool_61) hS664 (fun H712 locs712 hr712 hC712 hS712 => ?_)
            obtain ⟨hp712, hr712⟩ := hr712
            have hKp712 := hKp564.tr (hp712.mono rfl)
            obtain ⟨f712_0, f712_1, f712_2, f712_3⟩ := hr712
            refine lv_aload_n hx hb dX12_readSchool_64 rfl (lv_at hl 1 rfl) ?_
            refine q_getI E hC712 g0 fa_RX12_218 dX12_readSchool_65 (fun v713 ev713 lv713 uv713 => ?_)
            have m714 : (sI H712 h0 (X.1.2 11 12)).toInt = v713.toInt := (congrArg Int32.toInt ev713).trans rfl
            refine q_if_ne hx hb (a := v713.toInt) rfl (tgt := 99) dX12_readSchool_68 rfl (fun c715 => ?_) (fun c715 => ?_)
            · refine lv_aload_n hx hb dX12_readSchool_99 rfl (lv_at hl 1 rfl) ?_
              refine q_getI E hC712 g0 fa_RX12_218 dX12_readSchool_100 (fun v716 ev716 lv716 uv716 => ?_)
              have qv716 := ev713.symm.trans ev716; subst qv716
              refine q_if_le hx hb (a := v713.toInt) rfl (tgt := 107) dX12_readSchool_103 rfl (fun c717 => absurd c717 (by omega)) (fun c717 => ?_)
              have hz8 := tk_nn (sI H712 h0 (X.1.2 11 14)).toInt
              exact ret H712 locs712 _ _ dX12_readSchool_106 ⟨hKp712, ⟨by omega, by omega, by omega, by omega⟩⟩ hC712 hS712
            · refine lv_iload_n hx hb dX12_readSchool_71 rfl (lv_at hl 0 rfl) ?_
              refine lv_iconst (v := 1) hx hb dX12_readSchool_72 rfl ?_
              refine q_icmp_ne hx hb (a := v21.toInt) (b := 1) rfl (by decide) (tgt := 99) dX12_readSchool_73 rfl (fun c718 => ?_) (fun c718 => absurd c718 (by omega))
              refine lv_aload_n hx hb dX12_readSchool_99 rfl (lv_at hl 1 rfl) ?_
              refine q_getI E hC712 g0 fa_RX12_218 dX12_readSchool_100 (fun v719 ev719 lv719 uv719 => ?_)
              have qv719 := ev713.symm.trans ev719; subst qv719
              refine q_if_le hx hb (a := v713.toInt) rfl (tgt := 107) dX12_readSchool_103 rfl (fun c720 => ?_) (fun c720 => absurd c720 (by omega))
              refine lv_aload_n hx hb dX12_readSchool_107 rfl (lv_at hl 1 rfl) ?_
              refine q_getR E hC712 g0 fa_RX12_44 dX12_readSchool_108 (fun q721 eq721 gq721 => ?_)
              refine lv_iload_n hx hb dX12_readSchool_111 rfl (lv_at hl 0 rfl) ?_
              refine lv_aload_n hx hb dX12_readSchool_112 rfl (lv_at hl 1 rfl) ?_
              refine q_getJ E hC712 g0 fa_RX12_126 dX12_readSchool_113 (fun v722 ev722 => ?_)
              refine q_last E hC712 hS712 gq721 (by decide) rfl rfl (fun _ => rfl) (i_in (a := v21.toInt) rfl (by omega) (by omega)) dX12_readSchool_116 (fun H723 locs723 hC723 hS723 U723 => ?_)
              have hKp723 := Kp.upA gq721 rfl (by decide) rfl U723 hKp712
              have m724 : (sI H723 h0 (X.1.2 11 12)).toInt = (sI H712 h0 (X.1.2 11 12)).toInt := congrArg Int32.toInt (up_nI U723 (ne_k g0 gq721 (by decide)))
              have m725 : (sI H723 h0 (X.1.2 11 14)).toInt = (sI H712 h0 (X.1.2 11 14)).toInt := congrArg Int32.toInt (up_nI U723 (ne_k g0 gq721 (by decide)))
              have m726 := congrArg tk m725
              have m727 : (sI H723 h0 (X.1.2 11 16)).toInt = (sI H712 h0 (X.1.2 11 16)).toInt := congrArg Int32.toInt (up_nI U723 (ne_k g0 gq721 (by decide)))
              refine lv_aload_n hx hb dX12_readSchool_117 rfl (lv_at hl 1 rfl) ?_
              refine q_goV (q_runV (As := []) (rest := []) E hC723 hS723 (m_X12_next l X Γ H723 hC723 h0 g0 ca gca uc) cw_X12_next cl_RX12_228 g0 ⟨rfl, rfl⟩ rfl hl.1 rfl (Nat.zero_le _) (by decide) dX12_readSchool_118) hS723 (fun H728 locs728 hr728 hC728 hS728 => ?_)
              obtain ⟨hp728, hr728⟩ := hr728
              have hKp728 := hKp723.tr (hp728.mono rfl)
              obtain ⟨f728_0, f728_1, f728_2⟩ := hr728
              refine lv_aload_n hx hb dX12_readSchool_121 rfl (lv_at hl 1 rfl) ?_
              refine lv_aload_n hx hb dX12_readSchool_122 rfl (lv_at hl 1 rfl) ?_
              refine q_goIp (q_runV (As := []) (rest := [.ref h0]) E hC728 hS728 (m_X12_isHands l X Γ H728 hC728 h0 g0 ca gca uc) cw_X12_isHands cl_RX12_175 g0 ⟨rfl, rfl⟩ rfl hl.1 rfl (show _ ≤ _ from by simp [Value.category]) (by decide) dX12_readSchool_123) hS728 (fun v729 locs729 hr729 hS729 => ?_)
              have b729 : v729.toInt = 0 ∨ v729.toInt = 1 := hr729.imp (fun h => by rw [h]; decide) (fun h => by rw [h]; decide)
              refine q_goV (q_runV (As := [.int v729]) (rest := []) E hC728 hS729 (m_X12_must l X Γ H728 hC728 h0 g0 v729 (a1 := v729.toInt) rfl ca gca uc (by omega) (by omega)) cw_X12_must cl_RX12_244 g0 ⟨rfl, rfl⟩ rfl hl.1 rfl (Nat.zero_le _) (by decide) dX12_readSchool_126) hS729 (fun H730 locs730 hr730 hC730 hS730 => ?_)
              obtain ⟨hp730, hr730⟩ := hr730
              have hKp730 := hKp728.tr (hp730.mono rfl)
              obtain ⟨f730_0, f730_1, f730_2, f730_3, f730_4⟩ := hr730
              refine lv_aload_n hx hb dX12_readSchool_129 rfl (lv_at hl 1 rfl) ?_
              refine q_getC E hC730 g0 fa_RX12_35 uc dX12_readSchool_130 ?_
              refine lv_sipush (v := 2092) hx hb dX12_readSchool_133 rfl ?_
              refine lv_iload_n hx hb dX12_readSchool_136 rfl (lv_at hl 0 rfl) ?_
              refine lv_iadd hx hb dX12_readSchool_137 (lv_topi (fun v731 ev731 => ?_))
              have ev731i : v731.toInt = (2092 + v21.toInt) := i_add ev731 (by decide) rfl (by omega) (by omega)
              refine lv_aload_n hx hb dX12_readSchool_138 rfl (lv_at hl 1 rfl) ?_
              refine lv_iconst (v := 0) hx hb dX12_readSchool_139 rfl ?_
              refine lv_bipush (v := 40) hx hb dX12_readSchool_140 rfl ?_
              refine q_goI (q_runV (As := [.int 0, .int 40]) (rest := [.int v731, .ref ca]) E hC730 hS730 (m_X12_count l X Γ H730 hC730 h0 g0 0 (a1 := 0) (by decide) 40 (a2 := 40) (by decide) ca gca uc (by omega) (by omega) (by omega) (by omega)) cw_X12_count cl_RX12_248 g0 ⟨rfl, rfl⟩ rfl hl.1 rfl (show _ ≤ _ from by simp [Value.category]) (by decide) dX12_readSchool_142) hS730 (fun v732 H732 locs732 hr732 hC732 hS732 => ?_)
              obtain ⟨hp732, hr732⟩ := hr732
              have hKp732 := hKp730.tr (hp732.mono rfl)
              obtain ⟨f732_0, f732_1, f732_2, f732_3, f732_4, f732_5, f732_6, f732_7⟩ := hr732
              refine q_cast E hC732 hS732 gca (a := (2092 + v21.toInt)) ev731i (by omega) (by omega) (cs_n14 (a := (2092 + v21.toInt)) (b := v732.toInt) (by omega) (by omega) rfl (by omega) (by omega)) dX12_readSchool_145 (fun H733 locs733 hC733 hS733 U733 => ?_)
              have hKp733 := Kp.upD gca rfl rfl (fun _ => ⟨fun _ => nd4 (by omega) (by omega), fun _ => by unfold dpu; omega, fun _ => by unfold dpn; omega⟩) U733 hKp732
              have m734 : (sI H733 h0 (X.1.2 11 12)).toInt = (sI H732 h0 (X.1.2 11 12)).toInt := congrArg Int32.toInt (up_nI U733 (ne_k g0 gca (by decide)))
              have m735 : (sI H733 h0 (X.1.2 11 14)).toInt = (sI H732 h0 (X.1.2 11 14)).toInt := congrArg Int32.toInt (up_nI U733 (ne_k g0 gca (by decide)))
              have m736 := congrArg tk m735
              have m737 : (sI H733 h0 (X.1.2 11 16)).toInt = (sI H732 h0 (X.1.2 11 16)).toInt := congrArg Int32.toInt (up_nI U733 (ne_k g0 gca (by decide)))
              have e738 := up_I U733
              refine lv_aload_n hx hb dX12_readSchool_146 rfl (lv_at hl 1 rfl) ?_
              have e740 := (up_nI U723 (ne_k g0 gq721 (by decide))).trans ev713
              refine q_getI E hC733 g0 fa_RX12_218 dX12_readSchool_147 (fun v739 ev739 lv739 uv739 => ?_)
              have m741 : (sI H733 h0 (X.1.2 11 12)).toInt = v739.toInt := (congrArg Int32.toInt ev739).trans rfl
              refine q_if_ne hx hb (a := v739.toInt) rfl (tgt := 165) dX12_readSchool_150 rfl (fun c742 => ?_) (fun c742 => ?_)
              · have hz8 := tk_nn (sI H733 h0 (X.1.2 11 14)).toInt
                exact ret H733 locs733 _ _ dX12_readSchool_165 ⟨hKp733, ⟨by omega, by omega, by omega, by omega⟩⟩ hC733 hS733
              · refine lv_aload_n hx hb dX12_readSchool_153 rfl (lv_at hl 1 rfl) ?_
                refine q_getC E hC733 g0 fa_RX12_35 uc dX12_readSchool_154 ?_
                refine lv_sipush (v := 2082) hx hb dX12_readSchool_157 rfl ?_
                refine lv_dup2_11 hx hb dX12_readSchool_160 rfl rfl ?_
                have e744 := (kp_c (j := (2082 : Int).toNat) hp560 gca rfl).trans ev21
                have e745 := (kp_c (j := (2082 : Int).toNat) hp564 gca rfl).trans e744
                have e746 := (kp_c (j := (2082 : Int).toNat) hp712 gca rfl).trans e745
                have e747 := (up_nI (a' := ca) (j' := (2082 : Int).toNat) U723 (ne_k gca gq721 (by decide))).trans e746
                have e748 := (kp_c (j := (2082 : Int).toNat) hp728 gca rfl).trans e747
                have e749 := (kp_c (j := (2082 : Int).toNat) hp730 gca rfl).trans e748
                have e750 := (kp_c (j := (2082 : Int).toNat) hp732 gca rfl).trans e749
                have e751 := (up_nI (a' := ca) (j' := (2082 : Int).toNat) U733 (fun h => by have h2 := h.2; omega)).trans e750
                refine q_cald E hC733 (lo := 0) (hi := 2) gca (a := 2082) (show (2082 : Int32).toInt = 2082 from by decide) (by omega) (by omega) (cr_n2 (by omega) (by omega)) dX12_readSchool_161 (fun v743 ev743 lv743 uv743 => ?_)
                have qv743 := e751.symm.trans ev743; subst qv743
                refine lv_iconst (v := 1) hx hb dX12_readSchool_162 rfl ?_
                refine lv_iadd hx hb dX12_readSchool_163 (lv_topi (fun v752 ev752 => ?_))
                have ev752i : v752.toInt = (v21.toInt + 1) := i_add ev752 rfl (by decide) (by omega) (by omega)
                refine q_cast E hC733 hS733 gca (a := 2082) (show (2082 : Int32).toInt = 2082 from by decide) (by omega) (by omega) (cs_n2 (a := 2082) (b := (v21.toInt + 1)) (by omega) (by omega) ev752i (by omega) (by omega)) dX12_readSchool_164 (fun H753 locs753 hC753 hS753 U753 => ?_)
                have hKp753 := Kp.upD gca rfl rfl (fun _ => ⟨fun _ => nd4 (by omega) (by omega), fun _ => by unfold dpu; omega, fun _ => by unfold dpn; omega⟩) U753 hKp733
                have m754 : (sI H753 h0 (X.1.2 11 12)).toInt = (sI H733 h0 (X.1.2 11 12)).toInt := congrArg Int32.toInt (up_nI U753 (ne_k g0 gca (by decide)))
                have m755 : (sI H753 h0 (X.1.2 11 14)).toInt = (sI H733 h0 (X.1.2 11 14)).toInt := congrArg Int32.toInt (up_nI U753 (ne_k g0 gca (by decide)))
                have m756 := congrArg tk m755
                have m757 : (sI H753 h0 (X.1.2 11 16)).toInt = (sI H733 h0 (X.1.2 11 16)).toInt := congrArg Int32.toInt (up_nI U753 (ne_k g0 gca (by decide)))
                have e758 := up_I U753
                have hz8 := tk_nn (sI H753 h0 (X.1.2 11 14)).toInt
                exact ret H753 locs753 _ _ dX12_readSchool_165 ⟨hKp753, ⟨by omega, by omega, by omega, by omega⟩⟩ hC753 hS753
    · have hz8 := tk_nn (sI H560 h0 (X.1.2 11 14)).toInt
      exact ret H560 locs560 _ _ dX12_readSchool_31 ⟨hKp560, ⟨by omega, by omega, by omega, by omega⟩⟩ hC560 hS560
