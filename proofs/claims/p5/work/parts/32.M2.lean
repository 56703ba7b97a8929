set_option maxRecDepth 100000 in
set_option maxHeartbeats 4000000 in
theorem m_X12_isDeep (l : Launch) (X : xW) (Γ : Nat → Option Nat) (H0 : Heap) (hC0 : Conf X Γ H0) (h0 : Nat) (g0 : Γ h0 = some 11) (ca : Nat) (gca : Γ ca = some 64) (uc : ∀ a, Γ a = some 64 → a = ca) : Ctr l X Γ yX12_isDeep cX12_isDeep 1 (some .boolean) 1 [.ref h0] H0 (QI X Γ (fun v H1 => H1 = H0 ∧ (v = 0 ∨ v = 1))) := by
  refine q_enterZ (own := "SnowFortsModel") (by decide) rfl (Nat.le_of_ble_eq_true rfl) ?_
  intro p e s m args below meth c ls Qz E hl ret hS0
  have hx := E.1; have hb := E.2.1
  have hl : lv_has ls 1 [(0, .ref h0)] := hl
  refine lv_aload_n hx hb dX12_isDeep_0 rfl (lv_at hl 0 rfl) ?_
  refine lv_bipush (v := 100) hx hb dX12_isDeep_1 rfl ?_
  refine lv_bipush (v := 101) hx hb dX12_isDeep_3 rfl ?_
  refine lv_bipush (v := 101) hx hb dX12_isDeep_5 rfl ?_
  refine lv_bipush (v := 112) hx hb dX12_isDeep_7 rfl ?_
  refine lv_iconst (v := 0) hx hb dX12_isDeep_9 rfl ?_
  refine lv_iconst (v := 0) hx hb dX12_isDeep_10 rfl ?_
  refine q_goJp (q_runS (As := [.int 100, .int 101, .int 101, .int 112, .int 0, .int 0]) (rest := [.ref h0]) E hS0 (m_X12_spelled l X Γ H0 hC0 100 (a0 := 100) (by decide) 101 (a1 := 101) (by decide) 101 (a2 := 101) (by decide) 112 (a3 := 112) (by decide) 0 (a4 := 0) (by decide) 0 (a5 := 0) (by decide)) cw_X12_spelled cl_RX12_145 rfl hl.1 rfl (show _ ≤ _ from by simp [Value.category]) (by decide) dX12_isDeep_11) hS0 (fun v21 locs21 hr21 hS21 => ?_)
  refine q_goIp (q_runV (As := [.long v21]) (rest := []) E hC0 hS21 (m_X12_isWord l X Γ H0 hC0 h0 g0 v21 (a1 := v21.toInt) rfl ca gca uc) cw_X12_isWord cl_RX12_149 g0 ⟨rfl, rfl⟩ rfl hl.1 rfl (Nat.zero_le _) (by decide) dX12_isDeep_14) hS21 (fun v22 locs22 hr22 hS22 => ?_)
  rcases hr22 with rfl | rfl
  · exact ret 0 H0 locs22 _ _ dX12_isDeep_17 (Or.inl rfl) ⟨rfl, Or.inl rfl⟩ hC0 hS22
  · exact ret 1 H0 locs22 _ _ dX12_isDeep_17 (Or.inr rfl) ⟨rfl, Or.inr rfl⟩ hC0 hS22
set_option maxRecDepth 100000 in
set_option maxHeartbeats 4000000 in
theorem m_X12_isTall (l : Launch) (X : xW) (Γ : Nat → Option Nat) (H0 : Heap) (hC0 : Conf X Γ H0) (h0 : Nat) (g0 : Γ h0 = some 11) (ca : Nat) (gca : Γ ca = some 64) (uc : ∀ a, Γ a = some 64 → a = ca) : Ctr l X Γ yX12_isTall cX12_isTall 1 (some .boolean) 1 [.ref h0] H0 (QI X Γ (fun v H1 => H1 = H0 ∧ (v = 0 ∨ v = 1))) := by
  refine q_enterZ (own := "SnowFortsModel") (by decide) rfl (Nat.le_of_ble_eq_true rfl) ?_
  intro p e s m args below meth c ls Qz E hl ret hS0
  have hx := E.1; have hb := E.2.1
  have hl : lv_has ls 1 [(0, .ref h0)] := hl
  refine lv_aload_n hx hb dX12_isTall_0 rfl (lv_at hl 0 rfl) ?_
  refine lv_bipush (v := 116) hx hb dX12_isTall_1 rfl ?_
  refine lv_bipush (v := 97) hx hb dX12_isTall_3 rfl ?_
  refine lv_bipush (v := 108) hx hb dX12_isTall_5 rfl ?_
  refine lv_bipush (v := 108) hx hb dX12_isTall_7 rfl ?_
  refine lv_iconst (v := 0) hx hb dX12_isTall_9 rfl ?_
  refine lv_iconst (v := 0) hx hb dX12_isTall_10 rfl ?_
  refine q_goJp (q_runS (As := [.int 116, .int 97, .int 108, .int 108, .int 0, .int 0]) (rest := [.ref h0]) E hS0 (m_X12_spelled l X Γ H0 hC0 116 (a0 := 116) (by decide) 97 (a1 := 97) (by decide) 108 (a2 := 108) (by decide) 108 (a3 := 108) (by decide) 0 (a4 := 0) (by decide) 0 (a5 := 0) (by decide)) cw_X12_spelled cl_RX12_145 rfl hl.1 rfl (show _ ≤ _ from by simp [Value.category]) (by decide) dX12_isTall_11) hS0 (fun v21 locs21 hr21 hS21 => ?_)
  refine q_goIp (q_runV (As := [.long v21]) (rest := []) E hC0 hS21 (m_X12_isWord l X Γ H0 hC0 h0 g0 v21 (a1 := v21.toInt) rfl ca gca uc) cw_X12_isWord cl_RX12_149 g0 ⟨rfl, rfl⟩ rfl hl.1 rfl (Nat.zero_le _) (by decide) dX12_isTall_14) hS21 (fun v22 locs22 hr22 hS22 => ?_)
  rcases hr22 with rfl | rfl
  · exact ret 0 H0 locs22 _ _ dX12_isTall_17 (Or.inl rfl) ⟨rfl, Or.inl rfl⟩ hC0 hS22
  · exact ret 1 H0 locs22 _ _ dX12_isTall_17 (Or.inr rfl) ⟨rfl, Or.inr rfl⟩ hC0 hS22
set_option maxRecDepth 100000 in
set_option maxHeartbeats 4000000 in
theorem m_X12_isSun (l : Launch) (X : xW) (Γ : Nat → Option Nat) (H0 : Heap) (hC0 : Conf X Γ H0) (h0 : Nat) (g0 : Γ h0 = some 11) (ca : Nat) (gca : Γ ca = some 64) (uc : ∀ a, Γ a = some 64 → a = ca) : Ctr l X Γ yX12_isSun cX12_isSun 1 (some .boolean) 1 [.ref h0] H0 (QI X Γ (fun v H1 => H1 = H0 ∧ (v = 0 ∨ v = 1))) := by
  refine q_enterZ (own := "SnowFortsModel") (by decide) rfl (Nat.le_of_ble_eq_true rfl) ?_
  intro p e s m args below meth c ls Qz E hl ret hS0
  have hx := E.1; have hb := E.2.1
  have hl : lv_has ls 1 [(0, .ref h0)] := hl
  refine lv_aload_n hx hb dX12_isSun_0 rfl (lv_at hl 0 rfl) ?_
  refine lv_bipush (v := 115) hx hb dX12_isSun_1 rfl ?_
  refine lv_bipush (v := 117) hx hb dX12_isSun_3 rfl ?_
  refine lv_bipush (v := 110) hx hb dX12_isSun_5 rfl ?_
  refine lv_iconst (v := 0) hx hb dX12_isSun_7 rfl ?_
  refine lv_iconst (v := 0) hx hb dX12_isSun_8 rfl ?_
  refine lv_iconst (v := 0) hx hb dX12_isSun_9 rfl ?_
  refine q_goJp (q_runS (As := [.int 115, .int 117, .int 110, .int 0, .int 0, .int 0]) (rest := [.ref h0]) E hS0 (m_X12_spelled l X Γ H0 hC0 115 (a0 := 115) (by decide) 117 (a1 := 117) (by decide) 110 (a2 := 110) (by decide) 0 (a3 := 0) (by decide) 0 (a4 := 0) (by decide) 0 (a5 := 0) (by decide)) cw_X12_spelled cl_RX12_145 rfl hl.1 rfl (show _ ≤ _ from by simp [Value.category]) (by decide) dX12_isSun_10) hS0 (fun v21 locs21 hr21 hS21 => ?_)
  refine q_goIp (q_runV (As := [.long v21]) (rest := []) E hC0 hS21 (m_X12_isWord l X Γ H0 hC0 h0 g0 v21 (a1 := v21.toInt) rfl ca gca uc) cw_X12_isWord cl_RX12_149 g0 ⟨rfl, rfl⟩ rfl hl.1 rfl (Nat.zero_le _) (by decide) dX12_isSun_13) hS21 (fun v22 locs22 hr22 hS22 => ?_)
  rcases hr22 with rfl | rfl
  · exact ret 0 H0 locs22 _ _ dX12_isSun_16 (Or.inl rfl) ⟨rfl, Or.inl rfl⟩ hC0 hS22
  · exact ret 1 H0 locs22 _ _ dX12_isSun_16 (Or.inr rfl) ⟨rfl, Or.inr rfl⟩ hC0 hS22
set_option maxRecDepth 100000 in
set_option maxHeartbeats 4000000 in
theorem m_X12_isBy (l : Launch) (X : xW) (Γ : Nat → Option Nat) (H0 : Heap) (hC0 : Conf X Γ H0) (h0 : Nat) (g0 : Γ h0 = some 11) (ca : Nat) (gca : Γ ca = some 64) (uc : ∀ a, Γ a = some 64 → a = ca) : Ctr l X Γ yX12_isBy cX12_isBy 1 (some .boolean) 1 [.ref h0] H0 (QI X Γ (fun v H1 => H1 = H0 ∧ (v = 0 ∨ v = 1))) := by
  refine q_enterZ (own := "SnowFortsModel") (by decide) rfl (Nat.le_of_ble_eq_true rfl) ?_
  intro p e s m args below meth c ls Qz E hl ret hS0
  have hx := E.1; have hb := E.2.1
  have hl : lv_has ls 1 [(0, .ref h0)] := hl
  refine lv_aload_n hx hb dX12_isBy_0 rfl (lv_at hl 0 rfl) ?_
  refine lv_bipush (v := 98) hx hb dX12_isBy_1 rfl ?_
  refine lv_bipush (v := 121) hx hb dX12_isBy_3 rfl ?_
  refine lv_iconst (v := 0) hx hb dX12_isBy_5 rfl ?_
  refine lv_iconst (v := 0) hx hb dX12_isBy_6 rfl ?_
  refine lv_iconst (v := 0) hx hb dX12_isBy_7 rfl ?_
  refine lv_iconst (v := 0) hx hb dX12_isBy_8 rfl ?_
  refine q_goJp (q_runS (As := [.int 98, .int 121, .int 0, .int 0, .int 0, .int 0]) (rest := [.ref h0]) E hS0 (m_X12_spelled l X Γ H0 hC0 98 (a0 := 98) (by decide) 121 (a1 := 121) (by decide) 0 (a2 := 0) (by decide) 0 (a3 := 0) (by decide) 0 (a4 := 0) (by decide) 0 (a5 := 0) (by decide)) cw_X12_spelled cl_RX12_145 rfl hl.1 rfl (show _ ≤ _ from by simp [Value.category]) (by decide) dX12_isBy_9) hS0 (fun v21 locs21 hr21 hS21 => ?_)
  refine q_goIp (q_runV (As := [.long v21]) (rest := []) E hC0 hS21 (m_X12_isWord l X Γ H0 hC0 h0 g0 v21 (a1 := v21.toInt) rfl ca gca uc) cw_X12_isWord cl_RX12_149 g0 ⟨rfl, rfl⟩ rfl hl.1 rfl (Nat.zero_le _) (by decide) dX12_isBy_12) hS21 (fun v22 locs22 hr22 hS22 => ?_)
  rcases hr22 with rfl | rfl
  · exact ret 0 H0 locs22 _ _ dX12_isBy_15 (Or.inl rfl) ⟨rfl, Or.inl rfl⟩ hC0 hS22
  · exact ret 1 H0 locs22 _ _ dX12_isBy_15 (Or.inr rfl) ⟨rfl, Or.inr rfl⟩ hC0 hS22
set_option maxRecDepth 100000 in
set_option maxHeartbeats 4000000 in
theorem m_X12_isNo (l : Launch) (X : xW) (Γ : Nat → Option Nat) (H0 : Heap) (hC0 : Conf X Γ H0) (h0 : Nat) (g0 : Γ h0 = some 11) (ca : Nat) (gca : Γ ca = some 64) (uc : ∀ a, Γ a = some 64 → a = ca) : Ctr l X Γ yX12_isNo cX12_isNo 1 (some .boolean) 1 [.ref h0] H0 (QI X Γ (fun v H1 => H1 = H0 ∧ (v = 0 ∨ v = 1))) := by
  refine q_enterZ (own := "SnowFortsModel") (by decide) rfl (Nat.le_of_ble_eq_true rfl) ?_
  intro p e s m args below meth c ls Qz E hl ret hS0
  have hx := E.1; have hb := E.2.1
  have hl : lv_has ls 1 [(0, .ref h0)] := hl
  refine lv_aload_n hx hb dX12_isNo_0 rfl (lv_at hl 0 rfl) ?_
  refine lv_bipush (v := 110) hx hb dX12_isNo_1 rfl ?_
  refine lv_bipush (v := 111) hx hb dX12_isNo_3 rfl ?_
  refine lv_iconst (v := 0) hx hb dX12_isNo_5 rfl ?_
  refine lv_iconst (v := 0) hx hb dX12_isNo_6 rfl ?_
  refine lv_iconst (v := 0) hx hb dX12_isNo_7 rfl ?_
  refine lv_iconst (v := 0) hx hb dX12_isNo_8 rfl ?_
  refine q_goJp (q_runS (As := [.int 110, .int 111, .int 0, .int 0, .int 0, .int 0]) (rest := [.ref h0]) E hS0 (m_X12_spelled l X Γ H0 hC0 110 (a0 := 110) (by decide) 111 (a1 := 111) (by decide) 0 (a2 := 0) (by decide) 0 (a3 := 0) (by decide) 0 (a4 := 0) (by decide) 0 (a5 := 0) (by decide)) cw_X12_spelled cl_RX12_145 rfl hl.1 rfl (show _ ≤ _ from by simp [Value.category]) (by decide) dX12_isNo_9) hS0 (fun v21 locs21 hr21 hS21 => ?_)
  refine q_goIp (q_runV (As := [.long v21]) (rest := []) E hC0 hS21 (m_X12_isWord l X Γ H0 hC0 h0 g0 v21 (a1 := v21.toInt) rfl ca gca uc) cw_X12_isWord cl_RX12_149 g0 ⟨rfl, rfl⟩ rfl hl.1 rfl (Nat.zero_le _) (by decide) dX12_isNo_12) hS21 (fun v22 locs22 hr22 hS22 => ?_)
  rcases hr22 with rfl | rfl
  · exact ret 0 H0 locs22 _ _ dX12_isNo_15 (Or.inl rfl) ⟨rfl, Or.inl rfl⟩ hC0 hS22
  · exact ret 1 H0 locs22 _ _ dX12_isNo_15 (Or.inr rfl) ⟨rfl, Or.inr rfl⟩ hC0 hS22
set_option maxRecDepth 100000 in
set_option maxHeartbeats 4000000 in
theorem m_X12_isAbove (l : Launch) (X : xW) (Γ : Nat → Option Nat) (H0 : Heap) (hC0 : Conf X Γ H0) (h0 : Nat) (g0 : Γ h0 = some 11) (ca : Nat) (gca : Γ ca = some 64) (uc : ∀ a, Γ a = some 64 → a = ca) : Ctr l X Γ yX12_isAbove cX12_isAbove 1 (some .boolean) 1 [.ref h0] H0 (QI X Γ (fun v H1 => H1 = H0 ∧ (v = 0 ∨ v = 1))) := by
  refine q_enterZ (own := "SnowFortsModel") (by decide) rfl (Nat.le_of_ble_eq_true rfl) ?_
  intro p e s m args below meth c ls Qz E hl ret hS0
  have hx := E.1; have hb := E.2.1
  have hl : lv_has ls 1 [(0, .ref h0)] := hl
  refine lv_aload_n hx hb dX12_isAbove_0 rfl (lv_at hl 0 rfl) ?_
  refine lv_bipush (v := 97) hx hb dX12_isAbove_1 rfl ?_
  refine lv_bipush (v := 98) hx hb dX12_isAbove_3 rfl ?_
  refine lv_bipush (v := 111) hx hb dX12_isAbove_5 rfl ?_
  refine lv_bipush (v := 118) hx hb dX12_isAbove_7 rfl ?_
  refine lv_bipush (v := 101) hx hb dX12_isAbove_9 rfl ?_
  refine lv_iconst (v := 0) hx hb dX12_isAbove_11 rfl ?_
  refine q_goJp (q_runS (As := [.int 97, .int 98, .int 111, .int 118, .int 101, .int 0]) (rest := [.ref h0]) E hS0 (m_X12_spelled l X Γ H0 hC0 97 (a0 := 97) (by decide) 98 (a1 := 98) (by decide) 111 (a2 := 111) (by decide) 118 (a3 := 118) (by decide) 101 (a4 := 101) (by decide) 0 (a5 := 0) (by decide)) cw_X12_spelled cl_RX12_145 rfl hl.1 rfl (show _ ≤ _ from by simp [Value.category]) (by decide) dX12_isAbove_12) hS0 (fun v21 locs21 hr21 hS21 => ?_)
  refine q_goIp (q_runV (As := [.long v21]) (rest := []) E hC0 hS21 (m_X12_isWord l X Γ H0 hC0 h0 g0 v21 (a1 := v21.toInt) rfl ca gca uc) cw_X12_isWord cl_RX12_149 g0 ⟨rfl, rfl⟩ rfl hl.1 rfl (Nat.zero_le _) (by decide) dX12_isAbove_15) hS21 (fun v22 locs22 hr22 hS22 => ?_)
  rcases hr22 with rfl | rfl
  · exact ret 0 H0 locs22 _ _ dX12_isAbove_18 (Or.inl rfl) ⟨rfl, Or.inl rfl⟩ hC0 hS22
  · exact ret 1 H0 locs22 _ _ dX12_isAbove_18 (Or.inr rfl) ⟨rfl, Or.inr rfl⟩ hC0 hS22
set_option maxRecDepth 100000 in
set_option maxHeartbeats 4000000 in
theorem m_X12_isBehind (l : Launch) (X : xW) (Γ : Nat → Option Nat) (H0 : Heap) (hC0 : Conf X Γ H0) (h0 : Nat) (g0 : Γ h0 = some 11) (ca : Nat) (gca : Γ ca = some 64) (uc : ∀ a, Γ a = some 64 → a = ca) : Ctr l X Γ yX12_isBehind cX12_isBehind 1 (some .boolean) 1 [.ref h0] H0 (QI X Γ (fun v H1 => H1 = H0 ∧ (v = 0 ∨ v = 1))) := by
  refine q_enterZ (own := "SnowFortsModel") (by decide) rfl (Nat.le_of_ble_eq_true rfl) ?_
  intro p e s m args below meth c ls Qz E hl ret hS0
  have hx := E.1; have hb := E.2.1
  have hl : lv_has ls 1 [(0, .ref h0)] := hl
  refine lv_aload_n hx hb dX12_isBehind_0 rfl (lv_at hl 0 rfl) ?_
  refine lv_bipush (v := 98) hx hb dX12_isBehind_1 rfl ?_
  refine lv_bipush (v := 101) hx hb dX12_isBehind_3 rfl ?_
  refine lv_bipush (v := 104) hx hb dX12_isBehind_5 rfl ?_
  refine lv_bipush (v := 105) hx hb dX12_isBehind_7 rfl ?_
  refine lv_bipush (v := 110) hx hb dX12_isBehind_9 rfl ?_
  refine lv_bipush (v := 100) hx hb dX12_isBehind_11 rfl ?_
  refine q_goJp (q_runS (As := [.int 98, .int 101, .int 104, .int 105, .int 110, .int 100]) (rest := [.ref h0]) E hS0 (m_X12_spelled l X Γ H0 hC0 98 (a0 := 98) (by decide) 101 (a1 := 101) (by decide) 104 (a2 := 104) (by decide) 105 (a3 := 105) (by decide) 110 (a4 := 110) (by decide) 100 (a5 := 100) (by decide)) cw_X12_spelled cl_RX12_145 rfl hl.1 rfl (show _ ≤ _ from by simp [Value.category]) (by decide) dX12_isBehind_13) hS0 (fun v21 locs21 hr21 hS21 => ?_)
  refine q_goIp (q_runV (As := [.long v21]) (rest := []) E hC0 hS21 (m_X12_isWord l X Γ H0 hC0 h0 g0 v21 (a1 := v21.toInt) rfl ca gca uc) cw_X12_isWord cl_RX12_149 g0 ⟨rfl, rfl⟩ rfl hl.1 rfl (Nat.zero_le _) (by decide) dX12_isBehind_16) hS21 (fun v22 locs22 hr22 hS22 => ?_)
  rcases hr22 with rfl | rfl
  · exact ret 0 H0 locs22 _ _ dX12_isBehind_19 (Or.inl rfl) ⟨rfl, Or.inl rfl⟩ hC0 hS22
  · exact ret 1 H0 locs22 _ _ dX12_isBehind_19 (Or.inr rfl) ⟨rfl, Or.inr rfl⟩ hC0 hS22
set_option maxRecDepth 100000 in
set_option maxHeartbeats 4000000 in
theorem m_X12_isTo (l : Launch) (X : xW) (Γ : Nat → Option Nat) (H0 : Heap) (hC0 : Conf X Γ H0) (h0 : Nat) (g0 : Γ h0 = some 11) (ca : Nat) (gca : Γ ca = some 64) (uc : ∀ a, Γ a = some 64 → a = ca) : Ctr l X Γ yX12_isTo cX12_isTo 1 (some .boolean) 1 [.ref h0] H0 (QI X Γ (fun v H1 => H1 = H0 ∧ (v = 0 ∨ v = 1))) := by
  refine q_enterZ (own := "SnowFortsModel") (by decide) rfl (Nat.le_of_ble_eq_true rfl) ?_
  intro p e s m args below meth c ls Qz E hl ret hS0
  have hx := E.1; have hb := E.2.1
  have hl : lv_has ls 1 [(0, .ref h0)] := hl
  refine lv_aload_n hx hb dX12_isTo_0 rfl (lv_at hl 0 rfl) ?_
  refine lv_bipush (v := 116) hx hb dX12_isTo_1 rfl ?_
  refine lv_bipush (v := 111) hx hb dX12_isTo_3 rfl ?_
  refine lv_iconst (v := 0) hx hb dX12_isTo_5 rfl ?_
  refine lv_iconst (v := 0) hx hb dX12_isTo_6 rfl ?_
  refine lv_iconst (v := 0) hx hb dX12_isTo_7 rfl ?_
  refine lv_iconst (v := 0) hx hb dX12_isTo_8 rfl ?_
  refine q_goJp (q_runS (As := [.int 116, .int 111, .int 0, .int 0, .int 0, .int 0]) (rest := [.ref h0]) E hS0 (m_X12_spelled l X Γ H0 hC0 116 (a0 := 116) (by decide) 111 (a1 := 111) (by decide) 0 (a2 := 0) (by decide) 0 (a3 := 0) (by decide) 0 (a4 := 0) (by decide) 0 (a5 := 0) (by decide)) cw_X12_spelled cl_RX12_145 rfl hl.1 rfl (show _ ≤ _ from by simp [Value.category]) (by decide) dX12_isTo_9) hS0 (fun v21 locs21 hr21 hS21 => ?_)
  refine q_goIp (q_runV (As := [.long v21]) (rest := []) E hC0 hS21 (m_X12_isWord l X Γ H0 hC0 h0 g0 v21 (a1 := v21.toInt) rfl ca gca uc) cw_X12_isWord cl_RX12_149 g0 ⟨rfl, rfl⟩ rfl hl.1 rfl (Nat.zero_le _) (by decide) dX12_isTo_12) hS21 (fun v22 locs22 hr22 hS22 => ?_)
  rcases hr22 with rfl | rfl
  · exact ret 0 H0 locs22 _ _ dX12_isTo_15 (Or.inl rfl) ⟨rfl, Or.inl rfl⟩ hC0 hS22
  · exact ret 1 H0 locs22 _ _ dX12_isTo_15 (Or.inr rfl) ⟨rfl, Or.inr rfl⟩ hC0 hS22
set_option maxRecDepth 100000 in
set_option maxHeartbeats 4000000 in
theorem m_X12_isFrom (l : Launch) (X : xW) (Γ : Nat → Option Nat) (H0 : Heap) (hC0 : Conf X Γ H0) (h0 : Nat) (g0 : Γ h0 = some 11) (ca : Nat) (gca : Γ ca = some 64) (uc : ∀ a, Γ a = some 64 → a = ca) : Ctr l X Γ yX12_isFrom cX12_isFrom 1 (some .boolean) 1 [.ref h0] H0 (QI X Γ (fun v H1 => H1 = H0 ∧ (v = 0 ∨ v = 1))) := by
  refine q_enterZ (own := "SnowFortsModel") (by decide) rfl (Nat.le_of_ble_eq_true rfl) ?_
  intro p e s m args below meth c ls Qz E hl ret hS0
  have hx := E.1; have hb := E.2.1
  have hl : lv_has ls 1 [(0, .ref h0)] := hl
  refine lv_aload_n hx hb dX12_isFrom_0 rfl (lv_at hl 0 rfl) ?_
  refine lv_bipush (v := 102) hx hb dX12_isFrom_1 rfl ?_
  refine lv_bipush (v := 114) hx hb dX12_isFrom_3 rfl ?_
  refine lv_bipush (v := 111) hx hb dX12_isFrom_5 rfl ?_
  refine lv_bipush (v := 109) hx hb dX12_isFrom_7 rfl ?_
  refine lv_iconst (v := 0) hx hb dX12_isFrom_9 rfl ?_
  refine lv_iconst (v := 0) hx hb dX12_isFrom_10 rfl ?_
  refine q_goJp (q_runS (As := [.int 102, .int 114, .int 111, .int 109, .int 0, .int 0]) (rest := [.ref h0]) E hS0 (m_X12_spelled l X Γ H0 hC0 102 (a0 := 102) (by decide) 114 (a1 := 114) (by decide) 111 (a2 := 111) (by decide) 109 (a3 := 109) (by decide) 0 (a4 := 0) (by decide) 0 (a5 := 0) (by decide)) cw_X12_spelled cl_RX12_145 rfl hl.1 rfl (show _ ≤ _ from by simp [Value.category]) (by decide) dX12_isFrom_11) hS0 (fun v21 locs21 hr21 hS21 => ?_)
  refine q_goIp (q_runV (As := [.long v21]) (rest := []) E hC0 hS21 (m_X12_isWord l X Γ H0 hC0 h0 g0 v21 (a1 := v21.toInt) rfl ca gca uc) cw_X12_isWord cl_RX12_149 g0 ⟨rfl, rfl⟩ rfl hl.1 rfl (Nat.zero_le _) (by decide) dX12_isFrom_14) hS21 (fun v22 locs22 hr22 hS22 => ?_)
  rcases hr22 with rfl | rfl
  · exact ret 0 H0 locs22 _ _ dX12_isFrom_17 (Or.inl rfl) ⟨rfl, Or.inl rfl⟩ hC0 hS22
  · exact ret 1 H0 locs22 _ _ dX12_isFrom_17 (Or.inr rfl) ⟨rfl, Or.inr rfl⟩ hC0 hS22
set_option maxRecDepth 100000 in
set_option maxHeartbeats 4000000 in
theorem m_X12_isBuild (l : Launch) (X : xW) (Γ : Nat → Option Nat) (H0 : Heap) (hC0 : Conf X Γ H0) (h0 : Nat) (g0 : Γ h0 = some 11) (ca : Nat) (gca : Γ ca = some 64) (uc : ∀ a, Γ a = some 64 → a = ca) : Ctr l X Γ yX12_isBuild cX12_isBuild 1 (some .boolean) 1 [.ref h0] H0 (QI X Γ (fun v H1 => H1 = H0 ∧ (v = 0 ∨ v = 1))) := by
  refine q_enterZ (own := "SnowFortsModel") (by decide) rfl (Nat.le_of_ble_eq_true rfl) ?_
  intro p e s m args below meth c ls Qz E hl ret hS0
  have hx := E.1; have hb := E.2.1
  have hl : lv_has ls 1 [(0, .ref h0)] := hl
  refine lv_aload_n hx hb dX12_isBuild_0 rfl (lv_at hl 0 rfl) ?_
  refine lv_bipush (v := 98) hx hb dX12_isBuild_1 rfl ?_
  refine lv_bipush (v := 117) hx hb dX12_isBuild_3 rfl ?_
  refine lv_bipush (v := 105) hx hb dX12_isBuild_5 rfl ?_
  refine lv_bipush (v := 108) hx hb dX12_isBuild_7 rfl ?_
  refine lv_bipush (v := 100) hx hb dX12_isBuild_9 rfl ?_
  refine lv_iconst (v := 0) hx hb dX12_isBuild_11 rfl ?_
  refine q_goJp (q_runS (As := [.int 98, .int 117, .int 105, .int 108, .int 100, .int 0]) (rest := [.ref h0]) E hS0 (m_X12_spelled l X Γ H0 hC0 98 (a0 := 98) (by decide) 117 (a1 := 117) (by decide) 105 (a2 := 105) (by decide) 108 (a3 := 108) (by decide) 100 (a4 := 100) (by decide) 0 (a5 := 0) (by decide)) cw_X12_spelled cl_RX12_145 rfl hl.1 rfl (show _ ≤ _ from by simp [Value.category]) (by decide) dX12_isBuild_12) hS0 (fun v21 locs21 hr21 hS21 => ?_)
  refine q_goIp (q_runV (As := [.long v21]) (rest := []) E hC0 hS21 (m_X12_isWord l X Γ H0 hC0 h0 g0 v21 (a1 := v21.toInt) rfl ca gca uc) cw_X12_isWord cl_RX12_149 g0 ⟨rfl, rfl⟩ rfl hl.1 rfl (Nat.zero_le _) (by decide) dX12_isBuild_15) hS21 (fun v22 locs22 hr22 hS22 => ?_)
  rcases hr22 with rfl | rfl
  · exact ret 0 H0 locs22 _ _ dX12_isBuild_18 (Or.inl rfl) ⟨rfl, Or.inl rfl⟩ hC0 hS22
  · exact ret 1 H0 locs22 _ _ dX12_isBuild_18 (Or.inr rfl) ⟨rfl, Or.inr rfl⟩ hC0 hS22
set_option maxRecDepth 100000 in
set_option maxHeartbeats 4000000 in
theorem m_X12_isIce (l : Launch) (X : xW) (Γ : Nat → Option Nat) (H0 : Heap) (hC0 : Conf X Γ H0) (h0 : Nat) (g0 : Γ h0 = some 11) (ca : Nat) (gca : Γ ca = some 64) (uc : ∀ a, Γ a = some 64 → a = ca) : Ctr l X Γ yX12_isIce cX12_isIce 1 (some .boolean) 1 [.ref h0] H0 (QI X Γ (fun v H1 => H1 = H0 ∧ (v = 0 ∨ v = 1))) := by
  refine q_enterZ (own := "SnowFortsModel") (by decide) rfl (Nat.le_of_ble_eq_true rfl) ?_
  intro p e s m args below meth c ls Qz E hl ret hS0
  have hx := E.1; have hb := E.2.1
  have hl : lv_has ls 1 [(0, .ref h0)] := hl
  refine lv_aload_n hx hb dX12_isIce_0 rfl (lv_at hl 0 rfl) ?_
  refine lv_bipush (v := 105) hx hb dX12_isIce_1 rfl ?_
  refine lv_bipush (v := 99) hx hb dX12_isIce_3 rfl ?_
  refine lv_bipush (v := 101) hx hb dX12_isIce_5 rfl ?_
  refine lv_iconst (v := 0) hx hb dX12_isIce_7 rfl ?_
  refine lv_iconst (v := 0) hx hb dX12_isIce_8 rfl ?_
  refine lv_iconst (v := 0) hx hb dX12_isIce_9 rfl ?_
  refine q_goJp (q_runS (As := [.int 105, .int 99, .int 101, .int 0, .int 0, .int 0]) (rest := [.ref h0]) E hS0 (m_X12_spelled l X Γ H0 hC0 105 (a0 := 105) (by decide) 99 (a1 := 99) (by decide) 101 (a2 := 101) (by decide) 0 (a3 := 0) (by decide) 0 (a4 := 0) (by decide) 0 (a5 := 0) (by decide)) cw_X12_spelled cl_RX12_145 rfl hl.1 rfl (show _ ≤ _ from by simp [Value.category]) (by decide) dX12_isIce_10) hS0 (fun v21 locs21 hr21 hS21 => ?_)
  refine q_goIp (q_runV (As := [.long v21]) (rest := []) E hC0 hS21 (m_X12_isWord l X Γ H0 hC0 h0 g0 v21 (a1 := v21.toInt) rfl ca gca uc) cw_X12_isWord cl_RX12_149 g0 ⟨rfl, rfl⟩ rfl hl.1 rfl (Nat.zero_le _) (by decide) dX12_isIce_13) hS21 (fun v22 locs22 hr22 hS22 => ?_)
  rcases hr22 with rfl | rfl
  · exact ret 0 H0 locs22 _ _ dX12_isIce_16 (Or.inl rfl) ⟨rfl, Or.inl rfl⟩ hC0 hS22
  · exact ret 1 H0 locs22 _ _ dX12_isIce_16 (Or.inr rfl) ⟨rfl, Or.inr rfl⟩ hC0 hS22
set_option maxRecDepth 100000 in
set_option maxHeartbeats 4000000 in
theorem m_X12_isSteal (l : Launch) (X : xW) (Γ : Nat → Option Nat) (H0 : Heap) (hC0 : Conf X Γ H0) (h0 : Nat) (g0 : Γ h0 = some 11) (ca : Nat) (gca : Γ ca = some 64) (uc : ∀ a, Γ a = some 64 → a = ca) : Ctr l X Γ yX12_isSteal cX12_isSteal 1 (some .boolean) 1 [.ref h0] H0 (QI X Γ (fun v H1 => H1 = H0 ∧ (v = 0 ∨ v = 1))) := by
  refine q_enterZ (own := "SnowFortsModel") (by decide) rfl (Nat.le_of_ble_eq_true rfl) ?_
  intro p e s m args below meth c ls Qz E hl ret hS0
  have hx := E.1; have hb := E.2.1
  have hl : lv_has ls 1 [(0, .ref h0)] := hl
  refine lv_aload_n hx hb dX12_isSteal_0 rfl (lv_at hl 0 rfl) ?_
  refine lv_bipush (v := 115) hx hb dX12_isSteal_1 rfl ?_
  refine lv_bipush (v := 116) hx hb dX12_isSteal_3 rfl ?_
  refine lv_bipush (v := 101) hx hb dX12_isSteal_5 rfl ?_
  refine lv_bipush (v := 97) hx hb dX12_isSteal_7 rfl ?_
  refine lv_bipush (v := 108) hx hb dX12_isSteal_9 rfl ?_
  refine lv_iconst (v := 0) hx hb dX12_isSteal_11 rfl ?_
  refine q_goJp (q_runS (As := [.int 115, .int 116, .int 101, .int 97, .int 108, .int 0]) (rest := [.ref h0]) E hS0 (m_X12_spelled l X Γ H0 hC0 115 (a0 := 115) (by decide) 116 (a1 := 116) (by decide) 101 (a2 := 101) (by decide) 97 (a3 := 97) (by decide) 108 (a4 := 108) (by decide) 0 (a5 := 0) (by decide)) cw_X12_spelled cl_RX12_145 rfl hl.1 rfl (show _ ≤ _ from by simp [Value.category]) (by decide) dX12_isSteal_12) hS0 (fun v21 locs21 hr21 hS21 => ?_)
  refine q_goIp (q_runV (As := [.long v21]) (rest := []) E hC0 hS21 (m_X12_isWord l X Γ H0 hC0 h0 g0 v21 (a1 := v21.toInt) rfl ca gca uc) cw_X12_isWord cl_RX12_149 g0 ⟨rfl, rfl⟩ rfl hl.1 rfl (Nat.zero_le _) (by decide) dX12_isSteal_15) hS21 (fun v22 locs22 hr22 hS22 => ?_)
  rcases hr22 with rfl | rfl
  · exact ret 0 H0 locs22 _ _ dX12_isSteal_18 (Or.inl rfl) ⟨rfl, Or.inl rfl⟩ hC0 hS22
  · exact ret 1 H0 locs22 _ _ dX12_isSteal_18 (Or.inr rfl) ⟨rfl, Or.inr rfl⟩ hC0 hS22
set_option maxRecDepth 100000 in
set_option maxHeartbeats 4000000 in
theorem m_X12_stepWord (l : Launch) (X : xW) (Γ : Nat → Option Nat) (H0 : Heap) (hC0 : Conf X Γ H0) (h0 : Nat) (g0 : Γ h0 = some 11) (ca : Nat) (gca : Γ ca = some 64) (uc : ∀ a, Γ a = some 64 → a = ca) : Ctr l X Γ yX12_stepWord cX12_stepWord 1 (some .int) 2 [.ref h0] H0 (QI X Γ (fun v H1 => H1 = H0 ∧ ((-1 ≤ v.toInt) ∧ (v.toInt ≤ 9)))) := by
  refine q_enterI (own := "SnowFortsModel") (by decide) rfl (Nat.le_of_ble_eq_true rfl) ?_
  intro p e s m args below meth c ls Qz E hl ret hS0
  have hx := E.1; have hb := E.2.1
  have hl : lv_has ls 1 [(0, .ref h0)] := hl
  refine lv_aload_n hx hb dX12_stepWord_0 rfl (lv_at hl 0 rfl) ?_
  refine lv_bipush (v := 102) hx hb dX12_stepWord_1 rfl ?_
  refine lv_bipush (v := 97) hx hb dX12_stepWord_3 rfl ?_
  refine lv_bipush (v := 108) hx hb dX12_stepWord_5 rfl ?_
  refine lv_bipush (v := 108) hx hb dX12_stepWord_7 rfl ?_
  refine lv_iconst (v := 0) hx hb dX12_stepWord_9 rfl ?_
  refine lv_iconst (v := 0) hx hb dX12_stepWord_10 rfl ?_
  refine q_goJp (q_runS (As := [.int 102, .int 97, .int 108, .int 108, .int 0, .int 0]) (rest := [.ref h0]) E hS0 (m_X12_spelled l X Γ H0 hC0 102 (a0 := 102) (by decide) 97 (a1 := 97) (by decide) 108 (a2 := 108) (by decide) 108 (a3 := 108) (by decide) 0 (a4 := 0) (by decide) 0 (a5 := 0) (by decide)) cw_X12_spelled cl_RX12_145 rfl hl.1 rfl (show _ ≤ _ from by simp [Value.category]) (by decide) dX12_stepWord_11) hS0 (fun v21 locs21 hr21 hS21 => ?_)
  refine q_goIp (q_runV (As := [.long v21]) (rest := []) E hC0 hS21 (m_X12_isWord l X Γ H0 hC0 h0 g0 v21 (a1 := v21.toInt) rfl ca gca uc) cw_X12_isWord cl_RX12_149 g0 ⟨rfl, rfl⟩ rfl hl.1 rfl (Nat.zero_le _) (by decide) dX12_stepWord_14) hS21 (fun v22 locs22 hr22 hS22 => ?_)
  rcases hr22 with rfl | rfl
  · refine q_if_eq hx hb (a := 0) (by decide) (tgt := 22) dX12_stepWord_17 rfl (fun c23 => ?_) (fun c23 => absurd c23 (by omega))
    refine lv_aload_n hx hb dX12_stepWord_22 rfl (lv_at hl 0 rfl) ?_
    refine lv_bipush (v := 116) hx hb dX12_stepWord_23 rfl ?_
    refine lv_bipush (v := 104) hx hb dX12_stepWord_25 rfl ?_
    refine lv_bipush (v := 97) hx hb dX12_stepWord_27 rfl ?_
    refine lv_bipush (v := 119) hx hb dX12_stepWord_29 rfl ?_
    refine lv_iconst (v := 0) hx hb dX12_stepWord_31 rfl ?_
    refine lv_iconst (v := 0) hx hb dX12_stepWord_32 rfl ?_
    refine q_goJp (q_runS (As := [.int 116, .int 104, .int 97, .int 119, .int 0, .int 0]) (rest := [.ref h0]) E hS22 (m_X12_spelled l X Γ H0 hC0 116 (a0 := 116) (by decide) 104 (a1 := 104) (by decide) 97 (a2 := 97) (by decide) 119 (a3 := 119) (by decide) 0 (a4 := 0) (by decide) 0 (a5 := 0) (by decide)) cw_X12_spelled cl_RX12_145 rfl hl.1 rfl (show _ ≤ _ from by simp [Value.category]) (by decide) dX12_stepWord_33) hS22 (fun v24 locs24 hr24 hS24 => ?_)
    refine q_goIp (q_runV (As := [.long v24]) (rest := []) E hC0 hS24 (m_X12_isWord l X Γ H0 hC0 h0 g0 v24 (a1 := v24.toInt) rfl ca gca uc) cw_X12_isWord cl_RX12_149 g0 ⟨rfl, rfl⟩ rfl hl.1 rfl (Nat.zero_le _) (by decide) dX12_stepWord_36) hS24 (fun v25 locs25 hr25 hS25 => ?_)
    rcases hr25 with rfl | rfl
    · refine q_if_eq hx hb (a := 0) (by decide) (tgt := 44) dX12_stepWord_39 rfl (fun c26 => ?_) (fun c26 => absurd c26 (by omega))
      refine lv_aload_n hx hb dX12_stepWord_44 rfl (lv_at hl 0 rfl) ?_
      refine lv_bipush (v := 115) hx hb dX12_stepWord_45 rfl ?_
      refine lv_bipush (v := 116) hx hb dX12_stepWord_47 rfl ?_
      refine lv_bipush (v := 111) hx hb dX12_stepWord_49 rfl ?_
      refine lv_bipush (v := 114) hx hb dX12_stepWord_51 rfl ?_
      refine lv_bipush (v := 109) hx hb dX12_stepWord_53 rfl ?_
      refine lv_iconst (v := 0) hx hb dX12_stepWord_55 rfl ?_
      refine q_goJp (q_runS (As := [.int 115, .int 116, .int 111, .int 114, .int 109, .int 0]) (rest := [.ref h0]) E hS25 (m_X12_spelled l X Γ H0 hC0 115 (a0 := 115) (by decide) 116 (a1 := 116) (by decide) 111 (a2 := 111) (by decide) 114 (a3 := 114) (by decide) 109 (a4 := 109) (by decide) 0 (a5 := 0) (by decide)) cw_X12_spelled cl_RX12_145 rfl hl.1 rfl (show _ ≤ _ from by simp [Value.category]) (by decide) dX12_stepWord_56) hS25 (fun v27 locs27 hr27 hS27 => ?_)
      refine q_goIp (q_runV (As := [.long v27]) (rest := []) E hC0 hS27 (m_X12_isWord l X Γ H0 hC0 h0 g0 v27 (a1 := v27.toInt) rfl ca gca uc) cw_X12_isWord cl_RX12_149 g0 ⟨rfl, rfl⟩ rfl hl.1 rfl (Nat.zero_le _) (by decide) dX12_stepWord_59) hS27 (fun v28 locs28 hr28 hS28 => ?_)
      rcases hr28 with rfl | rfl
      · refine q_if_eq hx hb (a := 0) (by decide) (tgt := 67) dX12_stepWord_62 rfl (fun c29 => ?_) (fun c29 => absurd c29 (by omega))
        refine lv_aload_n hx hb dX12_stepWord_67 rfl (lv_at hl 0 rfl) ?_
        refine q_goIp (q_runV (As := []) (rest := []) E hC0 hS28 (m_X12_isBuild l X Γ H0 hC0 h0 g0 ca gca uc) cw_X12_isBuild cl_RX12_153 g0 ⟨rfl, rfl⟩ rfl hl.1 rfl (Nat.zero_le _) (by decide) dX12_stepWord_68) hS28 (fun v30 locs30 hr30 hS30 => ?_)
        rcases hr30 with rfl | rfl
        · refine q_if_eq hx hb (a := 0) (by decide) (tgt := 76) dX12_stepWord_71 rfl (fun c31 => ?_) (fun c31 => absurd c31 (by omega))
          refine lv_aload_n hx hb dX12_stepWord_76 rfl (lv_at hl 0 rfl) ?_
          refine q_goIp (q_runV (As := []) (rest := []) E hC0 hS30 (m_X12_isIce l X Γ H0 hC0 h0 g0 ca gca uc) cw_X12_isIce cl_RX12_157 g0 ⟨rfl, rfl⟩ rfl hl.1 rfl (Nat.zero_le _) (by decide) dX12_stepWord_77) hS30 (fun v32 locs32 hr32 hS32 => ?_)
          rcases hr32 with rfl | rfl
          · refine q_if_eq hx hb (a := 0) (by decide) (tgt := 85) dX12_stepWord_80 rfl (fun c33 => ?_) (fun c33 => absurd c33 (by omega))
            refine lv_aload_n hx hb dX12_stepWord_85 rfl (lv_at hl 0 rfl) ?_
            refine q_goIp (q_runV (As := []) (rest := []) E hC0 hS32 (m_X12_isSteal l X Γ H0 hC0 h0 g0 ca gca uc) cw_X12_isSteal cl_RX12_160 g0 ⟨rfl, rfl⟩ rfl hl.1 rfl (Nat.zero_le _) (by decide) dX12_stepWord_86) hS32 (fun v34 locs34 hr34 hS34 => ?_)
            rcases hr34 with rfl | rfl
            · refine q_if_eq hx hb (a := 0) (by decide) (tgt := 94) dX12_stepWord_89 rfl (fun c35 => ?_) (fun c35 => absurd c35 (by omega))
              refine lv_aload_n hx hb dX12_stepWord_94 rfl (lv_at hl 0 rfl) ?_
              refine lv_bipush (v := 110) hx hb dX12_stepWord_95 rfl ?_
              refine lv_bipush (v := 105) hx hb dX12_stepWord_97 rfl ?_
              refine lv_bipush (v := 103) hx hb dX12_stepWord_99 rfl ?_
              refine lv_bipush (v := 104) hx hb dX12_stepWord_101 rfl ?_
              refine lv_bipush (v := 116) hx hb dX12_stepWord_103 rfl ?_
              refine lv_iconst (v := 0) hx hb dX12_stepWord_105 rfl ?_
              refine q_goJp (q_runS (As := [.int 110, .int 105, .int 103, .int 104, .int 116, .int 0]) (rest := [.ref h0]) E hS34 (m_X12_spelled l X Γ H0 hC0 110 (a0 := 110) (by decide) 105 (a1 := 105) (by decide) 103 (a2 := 103) (by decide) 104 (a3 := 104) (by decide) 116 (a4 := 116) (by decide) 0 (a5 := 0) (by decide)) cw_X12_spelled cl_RX12_145 rfl hl.1 rfl (show _ ≤ _ from by simp [Value.category]) (by decide) dX12_stepWord_106) hS34 (fun v36 locs36 hr36 hS36 => ?_)
              refine q_goIp (q_runV (As := [.long v36]) (rest := []) E hC0 hS36 (m_X12_isWord l X Γ H0 hC0 h0 g0 v36 (a1 := v36.toInt) rfl ca gca uc) cw_X12_isWord cl_RX12_149 g0 ⟨rfl, rfl⟩ rfl hl.1 rfl (Nat.zero_le _) (by decide) dX12_stepWord_109) hS36 (fun v37 locs37 hr37 hS37 => ?_)
              rcases hr37 with rfl | rfl
              · refine q_if_eq hx hb (a := 0) (by decide) (tgt := 118) dX12_stepWord_112 rfl (fun c38 => ?_) (fun c38 => absurd c38 (by omega))
                refine lv_aload_n hx hb dX12_stepWord_118 rfl (lv_at hl 0 rfl) ?_
                refine lv_bipush (v := 119) hx hb dX12_stepWord_119 rfl ?_
                refine lv_bipush (v := 104) hx hb dX12_stepWord_121 rfl ?_
                refine lv_bipush (v := 101) hx hb dX12_stepWord_123 rfl ?_
                refine lv_bipush (v := 110) hx hb dX12_stepWord_125 rfl ?_
                refine lv_iconst (v := 0) hx hb dX12_stepWord_127 rfl ?_
                refine lv_iconst (v := 0) hx hb dX12_stepWord_128 rfl ?_
                refine q_goJp (q_runS (As := [.int 119, .int 104, .int 101, .int 110, .int 0, .int 0]) (rest := [.ref h0]) E hS37 (m_X12_spelled l X Γ H0 hC0 119 (a0 := 119) (by decide) 104 (a1 := 104) (by decide) 101 (a2 := 101) (by decide) 110 (a3 := 110) (by decide) 0 (a4 := 0) (by decide) 0 (a5 := 0) (by decide)) cw_X12_spelled cl_RX12_145 rfl hl.1 rfl (show _ ≤ _ from by simp [Value.category]) (by decide) dX12_stepWord_129) hS37 (fun v39 locs39 hr39 hS39 => ?_)
                refine q_goIp (q_runV (As := [.long v39]) (rest := []) E hC0 hS39 (m_X12_isWord l X Γ H0 hC0 h0 g0 v39 (a1 := v39.toInt) rfl ca gca uc) cw_X12_isWord cl_RX12_149 g0 ⟨rfl, rfl⟩ rfl hl.1 rfl (Nat.zero_le _) (by decide) dX12_stepWord_132) hS39 (fun v40 locs40 hr40 hS40 => ?_)
                rcases hr40 with rfl | rfl
                · refine q_if_eq hx hb (a := 0) (by decide) (tgt := 141) dX12_stepWord_135 rfl (fun c41 => ?_) (fun c41 => absurd c41 (by omega))
                  refine lv_aload_n hx hb dX12_stepWord_141 rfl (lv_at hl 0 rfl) ?_
                  refine lv_bipush (v := 108) hx hb dX12_stepWord_142 rfl ?_
                  refine lv_bipush (v := 111) hx hb dX12_stepWord_144 rfl ?_
                  refine lv_bipush (v := 111) hx hb dX12_stepWord_146 rfl ?_
                  refine lv_bipush (v := 112) hx hb dX12_stepWord_148 rfl ?_
                  refine lv_iconst (v := 0) hx hb dX12_stepWord_150 rfl ?_
                  refine lv_iconst (v := 0) hx hb dX12_stepWord_151 rfl ?_
                  refine q_goJp (q_runS (As := [.int 108, .int 111, .int 111, .int 112, .int 0, .int 0]) (rest := [.ref h0]) E hS40 (m_X12_spelled l X Γ H0 hC0 108 (a0 := 108) (by decide) 111 (a1 := 111) (by decide) 111 (a2 := 111) (by decide) 112 (a3 := 112) (by decide) 0 (a4 := 0) (by decide) 0 (a5 := 0) (by decide)) cw_X12_spelled cl_RX12_145 rfl hl.1 rfl (show _ ≤ _ from by simp [Value.category]) (by decide) dX12_stepWord_152) hS40 (fun v42 locs42 hr42 hS42 => ?_)
                  refine q_goIp (q_runV (As := [.long v42]) (rest := []) E hC0 hS42 (m_X12_isWord l X Γ H0 hC0 h0 g0 v42 (a1 := v42.toInt) rfl ca gca uc) cw_X12_isWord cl_RX12_149 g0 ⟨rfl, rfl⟩ rfl hl.1 rfl (Nat.zero_le _) (by decide) dX12_stepWord_155) hS42 (fun v43 locs43 hr43 hS43 => ?_)
                  rcases hr43 with rfl | rfl
                  · refine q_if_eq hx hb (a := 0) (by decide) (tgt := 164) dX12_stepWord_158 rfl (fun c44 => ?_) (fun c44 => absurd c44 (by omega))
                    refine lv_aload_n hx hb dX12_stepWord_164 rfl (lv_at hl 0 rfl) ?_
                    refine lv_bipush (v := 115) hx hb dX12_stepWord_165 rfl ?_
                    refine lv_bipush (v := 116) hx hb dX12_stepWord_167 rfl ?_
                    refine lv_bipush (v := 111) hx hb dX12_stepWord_169 rfl ?_
                    refine lv_bipush (v := 112) hx hb dX12_stepWord_171 rfl ?_
                    refine lv_iconst (v := 0) hx hb dX12_stepWord_173 rfl ?_
                    refine lv_iconst (v := 0) hx hb dX12_stepWord_174 rfl ?_
                    refine q_goJp (q_runS (As := [.int 115, .int 116, .int 111, .int 112, .int 0, .int 0]) (rest := [.ref h0]) E hS43 (m_X12_spelled l X Γ H0 hC0 115 (a0 := 115) (by decide) 116 (a1 := 116) (by decide) 111 (a2 := 111) (by decide) 112 (a3 := 112) (by decide) 0 (a4 := 0) (by decide) 0 (a5 := 0) (by decide)) cw_X12_spelled cl_RX12_145 rfl hl.1 rfl (show _ ≤ _ from by simp [Value.category]) (by decide) dX12_stepWord_175) hS43 (fun v45 locs45 hr45 hS45 => ?_)
                    refine q_goIp (q_runV (As := [.long v45]) (rest := []) E hC0 hS45 (m_X12_isWord l X Γ H0 hC0 h0 g0 v45 (a1 := v45.toInt) rfl ca gca uc) cw_X12_isWord cl_RX12_149 g0 ⟨rfl, rfl⟩ rfl hl.1 rfl (Nat.zero_le _) (by decide) dX12_stepWord_178) hS45 (fun v46 locs46 hr46 hS46 => ?_)
                    rcases hr46 with rfl | rfl
                    · refine q_if_eq hx hb (a := 0) (by decide) (tgt := 189) dX12_stepWord_181 rfl (fun c47 => ?_) (fun c47 => absurd c47 (by omega))
                      refine lv_iconst (v := (-1)) hx hb dX12_stepWord_189 rfl ?_
                      have c48 : ((-1) : Int32).toInt = (-1) := (by decide)
                      exact ret (-1) H0 locs46 _ _ dX12_stepWord_190 ⟨rfl, ⟨by omega, by omega⟩⟩ hC0 hS46
                    · refine q_if_eq hx hb (a := 1) (by decide) (tgt := 189) dX12_stepWord_181 rfl (fun c49 => absurd c49 (by omega)) (fun c49 => ?_)
                      refine lv_bipush (v := 9) hx hb dX12_stepWord_184 rfl ?_
                      refine lv_goto (tgt := 190) hx hb dX12_stepWord_186 rfl ?_
                      have c50 : (9 : Int32).toInt = 9 := (by decide)
                      exact ret 9 H0 locs46 _ _ dX12_stepWord_190 ⟨rfl, ⟨by omega, by omega⟩⟩ hC0 hS46
                  · refine q_if_eq hx hb (a := 1) (by decide) (tgt := 164) dX12_stepWord_158 rfl (fun c51 => absurd c51 (by omega)) (fun c51 => ?_)
                    refine lv_bipush (v := 8) hx hb dX12_stepWord_161 rfl ?_
                    have c52 : (8 : Int32).toInt = 8 := (by decide)
                    exact ret 8 H0 locs43 _ _ dX12_stepWord_163 ⟨rfl, ⟨by omega, by omega⟩⟩ hC0 hS43
                · refine q_if_eq hx hb (a := 1) (by decide) (tgt := 141) dX12_stepWord_135 rfl (fun c53 => absurd c53 (by omega)) (fun c53 => ?_)
                  refine lv_bipush (v := 7) hx hb dX12_stepWord_138 rfl ?_
                  have c54 : (7 : Int32).toInt = 7 := (by decide)
                  exact ret 7 H0 locs40 _ _ dX12_stepWord_140 ⟨rfl, ⟨by omega, by omega⟩⟩ hC0 hS40
              · refine q_if_eq hx hb (a := 1) (by decide) (tgt := 118) dX12_stepWord_112 rfl (fun c55 => absurd c55 (by omega)) (fun c55 => ?_)
                refine lv_bipush (v := 6) hx hb dX12_stepWord_115 rfl ?_
                have c56 : (6 : Int32).toInt = 6 := (by decide)
                exact ret 6 H0 locs37 _ _ dX12_stepWord_117 ⟨rfl, ⟨by omega, by omega⟩⟩ hC0 hS37
            · refine q_if_eq hx hb (a := 1) (by decide) (tgt := 94) dX12_stepWord_89 rfl (fun c57 => absurd c57 (by omega)) (fun c57 => ?_)
              refine lv_iconst (v := 5) hx hb dX12_stepWord_92 rfl ?_
              have c58 : (5 : Int32).toInt = 5 := (by decide)
              exact ret 5 H0 locs34 _ _ dX12_stepWord_93 ⟨rfl, ⟨by omega, by omega⟩⟩ hC0 hS34
          · refine q_if_eq hx hb (a := 1) (by decide) (tgt := 85) dX12_stepWord_80 rfl (fun c59 => absurd c59 (by omega)) (fun c59 => ?_)
            refine lv_iconst (v := 4) hx hb dX12_stepWord_83 rfl ?_
            have c60 : (4 : Int32).toInt = 4 := (by decide)
            exact ret 4 H0 locs32 _ _ dX12_stepWord_84 ⟨rfl, ⟨by omega, by omega⟩⟩ hC0 hS32
        · refine q_if_eq hx hb (a := 1) (by decide) (tgt := 76) dX12_stepWord_71 rfl (fun c61 => absurd c61 (by omega)) (fun c61 => ?_)
          refine lv_iconst (v := 3) hx hb dX12_stepWord_74 rfl ?_
          have c62 : (3 : Int32).toInt = 3 := (by decide)
          exact ret 3 H0 locs30 _ _ dX12_stepWord_75 ⟨rfl, ⟨by omega, by omega⟩⟩ hC0 hS30
      · refine q_if_eq hx hb (a := 1) (by decide) (tgt := 67) dX12_stepWord_62 rfl (fun c63 => absurd c63 (by omega)) (fun c63 => ?_)
        refine lv_iconst (v := 2) hx hb dX12_stepWord_65 rfl ?_
        have c64 : (2 : Int32).toInt = 2 := (by decide)
        exact ret 2 H0 locs28 _ _ dX12_stepWord_66 ⟨rfl, ⟨by omega, by omega⟩⟩ hC0 hS28
    · refine q_if_eq hx hb (a := 1) (by decide) (tgt := 44) dX12_stepWord_39 rfl (fun c65 => absurd c65 (by omega)) (fun c65 => ?_)
      refine lv_iconst (v := 1) hx hb dX12_stepWord_42 rfl ?_
      have c66 : (1 : Int32).toInt = 1 := (by decide)
      exact ret 1 H0 locs25 _ _ dX12_stepWord_43 ⟨rfl, ⟨by omega, by omega⟩⟩ hC0 hS25
  · refine q_if_eq hx hb (a := 1) (by decide) (tgt := 22) dX12_stepWord_17 rfl (fun c67 => absurd c67 (by omega)) (fun c67 => ?_)
    refine lv_iconst (v := 0) hx hb dX12_stepWord_20 rfl ?_
    have c68 : (0 : Int32).toInt = 0 := (by decide)
    exact ret 0 H0 locs22 _ _ dX12_stepWord_21 ⟨rfl, ⟨by omega, by omega⟩⟩ hC0 hS22
set_option maxRecDepth 100000 in
set_option maxHeartbeats 4000000 in
theorem m_X12_isWall (l : Launch) (X : xW) (Γ : Nat → Option Nat) (H0 : Heap) (hC0 : Conf X Γ H0) (h0 : Nat) (g0 : Γ h0 = some 11) (ca : Nat) (gca : Γ ca = some 64) (uc : ∀ a, Γ a = some 64 → a = ca) : Ctr l X Γ yX12_isWall cX12_isWall 1 (some .boolean) 1 [.ref h0] H0 (QI X Γ (fun v H1 => H1 = H0 ∧ (v = 0 ∨ v = 1))) := by
  refine q_enterZ (own := "SnowFortsModel") (by decide) rfl (Nat.le_of_ble_eq_true rfl) ?_
  intro p e s m args below meth c ls Qz E hl ret hS0
  have hx := E.1; have hb := E.2.1
  have hl : lv_has ls 1 [(0, .ref h0)] := hl
  refine lv_aload_n hx hb dX12_isWall_0 rfl (lv_at hl 0 rfl) ?_
  refine lv_bipush (v := 119) hx hb dX12_isWall_1 rfl ?_
  refine lv_bipush (v := 97) hx hb dX12_isWall_3 rfl ?_
  refine lv_bipush (v := 108) hx hb dX12_isWall_5 rfl ?_
  refine lv_bipush (v := 108) hx hb dX12_isWall_7 rfl ?_
  refine lv_iconst (v := 0) hx hb dX12_isWall_9 rfl ?_
  refine lv_iconst (v := 0) hx hb dX12_isWall_10 rfl ?_
  refine q_goJp (q_runS (As := [.int 119, .int 97, .int 108, .int 108, .int 0, .int 0]) (rest := [.ref h0]) E hS0 (m_X12_spelled l X Γ H0 hC0 119 (a0 := 119) (by decide) 97 (a1 := 97) (by decide) 108 (a2 := 108) (by decide) 108 (a3 := 108) (by decide) 0 (a4 := 0) (by decide) 0 (a5 := 0) (by decide)) cw_X12_spelled cl_RX12_145 rfl hl.1 rfl (show _ ≤ _ from by simp [Value.category]) (by decide) dX12_isWall_11) hS0 (fun v21 locs21 hr21 hS21 => ?_)
  refine q_goIp (q_runV (As := [.long v21]) (rest := []) E hC0 hS21 (m_X12_isWord l X Γ H0 hC0 h0 g0 v21 (a1 := v21.toInt) rfl ca gca uc) cw_X12_isWord cl_RX12_149 g0 ⟨rfl, rfl⟩ rfl hl.1 rfl (Nat.zero_le _) (by decide) dX12_isWall_14) hS21 (fun v22 locs22 hr22 hS22 => ?_)
  rcases hr22 with rfl | rfl
  · exact ret 0 H0 locs22 _ _ dX12_isWall_17 (Or.inl rfl) ⟨rfl, Or.inl rfl⟩ hC0 hS22
  · exact ret 1 H0 locs22 _ _ dX12_isWall_17 (Or.inr rfl) ⟨rfl, Or.inr rfl⟩ hC0 hS22
set_option maxRecDepth 100000 in
set_option maxHeartbeats 4000000 in
theorem m_X12_testWord (l : Launch) (X : xW) (Γ : Nat → Option Nat) (H0 : Heap) (hC0 : Conf X Γ H0) (h0 : Nat) (g0 : Γ h0 = some 11) (ca : Nat) (gca : Γ ca = some 64) (uc : ∀ a, Γ a = some 64 → a = ca) : Ctr l X Γ yX12_testWord cX12_testWord 1 (some .int) 2 [.ref h0] H0 (QI X Γ (fun v H1 => H1 = H0 ∧ ((-1 ≤ v.toInt) ∧ (v.toInt ≤ 3)))) := by
  refine q_enterI (own := "SnowFortsModel") (by decide) rfl (Nat.le_of_ble_eq_true rfl) ?_
  intro p e s m args below meth c ls Qz E hl ret hS0
  have hx := E.1; have hb := E.2.1
  have hl : lv_has ls 1 [(0, .ref h0)] := hl
  refine lv_aload_n hx hb dX12_testWord_0 rfl (lv_at hl 0 rfl) ?_
  refine lv_bipush (v := 100) hx hb dX12_testWord_1 rfl ?_
  refine lv_bipush (v := 97) hx hb dX12_testWord_3 rfl ?_
  refine lv_bipush (v := 121) hx hb dX12_testWord_5 rfl ?_
  refine lv_iconst (v := 0) hx hb dX12_testWord_7 rfl ?_
  refine lv_iconst (v := 0) hx hb dX12_testWord_8 rfl ?_
  refine lv_iconst (v := 0) hx hb dX12_testWord_9 rfl ?_
  refine q_goJp (q_runS (As := [.int 100, .int 97, .int 121, .int 0, .int 0, .int 0]) (rest := [.ref h0]) E hS0 (m_X12_spelled l X Γ H0 hC0 100 (a0 := 100) (by decide) 97 (a1 := 97) (by decide) 121 (a2 := 121) (by decide) 0 (a3 := 0) (by decide) 0 (a4 := 0) (by decide) 0 (a5 := 0) (by decide)) cw_X12_spelled cl_RX12_145 rfl hl.1 rfl (show _ ≤ _ from by simp [Value.category]) (by decide) dX12_testWord_10) hS0 (fun v21 locs21 hr21 hS21 => ?_)
  refine q_goIp (q_runV (As := [.long v21]) (rest := []) E hC0 hS21 (m_X12_isWord l X Γ H0 hC0 h0 g0 v21 (a1 := v21.toInt) rfl ca gca uc) cw_X12_isWord cl_RX12_149 g0 ⟨rfl, rfl⟩ rfl hl.1 rfl (Nat.zero_le _) (by decide) dX12_testWord_13) hS21 (fun v22 locs22 hr22 hS22 => ?_)
  rcases hr22 with rfl | rfl
  · refine q_if_eq hx hb (a := 0) (by decide) (tgt := 21) dX12_testWord_16 rfl (fun c23 => ?_) (fun c23 => absurd c23 (by omega))
    refine lv_aload_n hx hb dX12_testWord_21 rfl (lv_at hl 0 rfl) ?_
    refine q_goIp (q_runV (As := []) (rest := []) E hC0 hS22 (m_X12_isWall l X Γ H0 hC0 h0 g0 ca gca uc) cw_X12_isWall cl_RX12_163 g0 ⟨rfl, rfl⟩ rfl hl.1 rfl (Nat.zero_le _) (by decide) dX12_testWord_22) hS22 (fun v24 locs24 hr24 hS24 => ?_)
    rcases hr24 with rfl | rfl
    · refine q_if_eq hx hb (a := 0) (by decide) (tgt := 30) dX12_testWord_25 rfl (fun c25 => ?_) (fun c25 => absurd c25 (by omega))
      refine lv_aload_n hx hb dX12_testWord_30 rfl (lv_at hl 0 rfl) ?_
      refine lv_bipush (v := 98) hx hb dX12_testWord_31 rfl ?_
      refine lv_bipush (v := 114) hx hb dX12_testWord_33 rfl ?_
      refine lv_bipush (v := 101) hx hb dX12_testWord_35 rfl ?_
      refine lv_bipush (v := 97) hx hb dX12_testWord_37 rfl ?_
      refine lv_bipush (v := 99) hx hb dX12_testWord_39 rfl ?_
      refine lv_bipush (v := 104) hx hb dX12_testWord_41 rfl ?_
      refine q_goJp (q_runS (As := [.int 98, .int 114, .int 101, .int 97, .int 99, .int 104]) (rest := [.ref h0]) E hS24 (m_X12_spelled l X Γ H0 hC0 98 (a0 := 98) (by decide) 114 (a1 := 114) (by decide) 101 (a2 := 101) (by decide) 97 (a3 := 97) (by decide) 99 (a4 := 99) (by decide) 104 (a5 := 104) (by decide)) cw_X12_spelled cl_RX12_145 rfl hl.1 rfl (show _ ≤ _ from by simp [Value.category]) (by decide) dX12_testWord_43) hS24 (fun v26 locs26 hr26 hS26 => ?_)
      refine q_goIp (q_runV (As := [.long v26]) (rest := []) E hC0 hS26 (m_X12_isWord l X Γ H0 hC0 h0 g0 v26 (a1 := v26.toInt) rfl ca gca uc) cw_X12_isWord cl_RX12_149 g0 ⟨rfl, rfl⟩ rfl hl.1 rfl (Nat.zero_le _) (by decide) dX12_testWord_46) hS26 (fun v27 locs27 hr27 hS27 => ?_)
      rcases hr27 with rfl | rfl
      · refine q_if_eq hx hb (a := 0) (by decide) (tgt := 54) dX12_testWord_49 rfl (fun c28 => ?_) (fun c28 => absurd c28 (by omega))
        refine lv_aload_n hx hb dX12_testWord_54 rfl (lv_at hl 0 rfl) ?_
        refine lv_bipush (v := 119) hx hb dX12_testWord_55 rfl ?_
        refine lv_bipush (v := 97) hx hb dX12_testWord_57 rfl ?_
        refine lv_bipush (v := 121) hx hb dX12_testWord_59 rfl ?_
        refine lv_iconst (v := 0) hx hb dX12_testWord_61 rfl ?_
        refine lv_iconst (v := 0) hx hb dX12_testWord_62 rfl ?_
        refine lv_iconst (v := 0) hx hb dX12_testWord_63 rfl ?_
        refine q_goJp (q_runS (As := [.int 119, .int 97, .int 121, .int 0, .int 0, .int 0]) (rest := [.ref h0]) E hS27 (m_X12_spelled l X Γ H0 hC0 119 (a0 := 119) (by decide) 97 (a1 := 97) (by decide) 121 (a2 := 121) (by decide) 0 (a3 := 0) (by decide) 0 (a4 := 0) (by decide) 0 (a5 := 0) (by decide)) cw_X12_spelled cl_RX12_145 rfl hl.1 rfl (show _ ≤ _ from by simp [Value.category]) (by decide) dX12_testWord_64) hS27 (fun v29 locs29 hr29 hS29 => ?_)
        refine q_goIp (q_runV (As := [.long v29]) (rest := []) E hC0 hS29 (m_X12_isWord l X Γ H0 hC0 h0 g0 v29 (a1 := v29.toInt) rfl ca gca uc) cw_X12_isWord cl_RX12_149 g0 ⟨rfl, rfl⟩ rfl hl.1 rfl (Nat.zero_le _) (by decide) dX12_testWord_67) hS29 (fun v30 locs30 hr30 hS30 => ?_)
        rcases hr30 with rfl | rfl
        · refine q_if_eq hx hb (a := 0) (by decide) (tgt := 77) dX12_testWord_70 rfl (fun c31 => ?_) (fun c31 => absurd c31 (by omega))
          refine lv_iconst (v := (-1)) hx hb dX12_testWord_77 rfl ?_
          have c32 : ((-1) : Int32).toInt = (-1) := (by decide)
          exact ret (-1) H0 locs30 _ _ dX12_testWord_78 ⟨rfl, ⟨by omega, by omega⟩⟩ hC0 hS30
        · refine q_if_eq hx hb (a := 1) (by decide) (tgt := 77) dX12_testWord_70 rfl (fun c33 => absurd c33 (by omega)) (fun c33 => ?_)
          refine lv_iconst (v := 3) hx hb dX12_testWord_73 rfl ?_
          refine lv_goto (tgt := 78) hx hb dX12_testWord_74 rfl ?_
          have c34 : (3 : Int32).toInt = 3 := (by decide)
          exact ret 3 H0 locs30 _ _ dX12_testWord_78 ⟨rfl, ⟨by omega, by omega⟩⟩ hC0 hS30
      · refine q_if_eq hx hb (a := 1) (by decide) (tgt := 54) dX12_testWord_49 rfl (fun c35 => absurd c35 (by omega)) (fun c35 => ?_)
        refine lv_iconst (v := 2) hx hb dX12_testWord_52 rfl ?_
        have c36 : (2 : Int32).toInt = 2 := (by decide)
        exact ret 2 H0 locs27 _ _ dX12_testWord_53 ⟨rfl, ⟨by omega, by omega⟩⟩ hC0 hS27
    · refine q_if_eq hx hb (a := 1) (by decide) (tgt := 30) dX12_testWord_25 rfl (fun c37 => absurd c37 (by omega)) (fun c37 => ?_)
      refine lv_iconst (v := 1) hx hb dX12_testWord_28 rfl ?_
      have c38 : (1 : Int32).toInt = 1 := (by decide)
      exact ret 1 H0 locs24 _ _ dX12_testWord_29 ⟨rfl, ⟨by omega, by omega⟩⟩ hC0 hS24
  · refine q_if_eq hx hb (a := 1) (by decide) (tgt := 21) dX12_testWord_16 rfl (fun c39 => absurd c39 (by omega)) (fun c39 => ?_)
    refine lv_iconst (v := 0) hx hb dX12_testWord_19 rfl ?_
    have c40 : (0 : Int32).toInt = 0 := (by decide)
    exact ret 0 H0 locs22 _ _ dX12_testWord_20 ⟨rfl, ⟨by omega, by omega⟩⟩ hC0 hS22
set_option maxRecDepth 100000 in
set_option maxHeartbeats 4000000 in
theorem m_X12_isEnd (l : Launch) (X : xW) (Γ : Nat → Option Nat) (H0 : Heap) (hC0 : Conf X Γ H0) (h0 : Nat) (g0 : Γ h0 = some 11) (ca : Nat) (gca : Γ ca = some 64) (uc : ∀ a, Γ a = some 64 → a = ca) : Ctr l X Γ yX12_isEnd cX12_isEnd 1 (some .boolean) 1 [.ref h0] H0 (QI X Γ (fun v H1 => H1 = H0 ∧ (v = 0 ∨ v = 1))) := by
  refine q_enterZ (own := "SnowFortsModel") (by decide) rfl (Nat.le_of_ble_eq_true rfl) ?_
  intro p e s m args below meth c ls Qz E hl ret hS0
  have hx := E.1; have hb := E.2.1
  have hl : lv_has ls 1 [(0, .ref h0)] := hl
  refine lv_aload_n hx hb dX12_isEnd_0 rfl (lv_at hl 0 rfl) ?_
  refine lv_bipush (v := 101) hx hb dX12_isEnd_1 rfl ?_
  refine lv_bipush (v := 110) hx hb dX12_isEnd_3 rfl ?_
  refine lv_bipush (v := 100) hx hb dX12_isEnd_5 rfl ?_
  refine lv_iconst (v := 0) hx hb dX12_isEnd_7 rfl ?_
  refine lv_iconst (v := 0) hx hb dX12_isEnd_8 rfl ?_
  refine lv_iconst (v := 0) hx hb dX12_isEnd_9 rfl ?_
  refine q_goJp (q_runS (As := [.int 101, .int 110, .int 100, .int 0, .int 0, .int 0]) (rest := [.ref h0]) E hS0 (m_X12_spelled l X Γ H0 hC0 101 (a0 := 101) (by decide) 110 (a1 := 110) (by decide) 100 (a2 := 100) (by decide) 0 (a3 := 0) (by decide) 0 (a4 := 0) (by decide) 0 (a5 := 0) (by decide)) cw_X12_spelled cl_RX12_145 rfl hl.1 rfl (show _ ≤ _ from by simp [Value.category]) (by decide) dX12_isEnd_10) hS0 (fun v21 locs21 hr21 hS21 => ?_)
  refine q_goIp (q_runV (As := [.long v21]) (rest := []) E hC0 hS21 (m_X12_isWord l X Γ H0 hC0 h0 g0 v21 (a1 := v21.toInt) rfl ca gca uc) cw_X12_isWord cl_RX12_149 g0 ⟨rfl, rfl⟩ rfl hl.1 rfl (Nat.zero_le _) (by decide) dX12_isEnd_13) hS21 (fun v22 locs22 hr22 hS22 => ?_)
  rcases hr22 with rfl | rfl
  · exact ret 0 H0 locs22 _ _ dX12_isEnd_16 (Or.inl rfl) ⟨rfl, Or.inl rfl⟩ hC0 hS22
  · exact ret 1 H0 locs22 _ _ dX12_isEnd_16 (Or.inr rfl) ⟨rfl, Or.inr rfl⟩ hC0 hS22
set_option maxRecDepth 100000 in
set_option maxHeartbeats 4000000 in
theorem m_X12_isKept (l : Launch) (X : xW) (Γ : Nat → Option Nat) (H0 : Heap) (hC0 : Conf X Γ H0) (h0 : Nat) (g0 : Γ h0 = some 11) (ca : Nat) (gca : Γ ca = some 64) (uc : ∀ a, Γ a = some 64 → a = ca) : Ctr l X Γ yX12_isKept cX12_isKept 1 (some .boolean) 3 [.ref h0] H0 (QI X Γ (fun v H1 => H1 = H0 ∧ (v = 0 ∨ v = 1))) := by
  refine q_enterZ (own := "SnowFortsModel") (by decide) rfl (Nat.le_of_ble_eq_true rfl) ?_
  intro p e s m args below meth c ls Qz E hl ret hS0
  have hx := E.1; have hb := E.2.1
  have hl : lv_has ls 1 [(0, .ref h0)] := hl
  refine lv_aload_n hx hb dX12_isKept_0 rfl (lv_at hl 0 rfl) ?_
  refine q_goIp (q_runV (As := []) (rest := []) E hC0 hS0 (m_X12_isWide l X Γ H0 hC0 h0 g0 ca gca uc) cw_X12_isWide cl_RX12_166 g0 ⟨rfl, rfl⟩ rfl hl.1 rfl (Nat.zero_le _) (by decide) dX12_isKept_1) hS0 (fun v21 locs21 hr21 hS21 => ?_)
  rcases hr21 with rfl | rfl
  · refine q_if_ne hx hb (a := 0) (by decide) (tgt := 84) dX12_isKept_4 rfl (fun c22 => absurd c22 (by omega)) (fun c22 => ?_)
    refine lv_aload_n hx hb dX12_isKept_7 rfl (lv_at hl 0 rfl) ?_
    refine q_goIp (q_runV (As := []) (rest := []) E hC0 hS21 (m_X12_isHigh l X Γ H0 hC0 h0 g0 ca gca uc) cw_X12_isHigh cl_RX12_169 g0 ⟨rfl, rfl⟩ rfl hl.1 rfl (Nat.zero_le _) (by decide) dX12_isKept_8) hS21 (fun v23 locs23 hr23 hS23 => ?_)
    rcases hr23 with rfl | rfl
    · refine q_if_ne hx hb (a := 0) (by decide) (tgt := 84) dX12_isKept_11 rfl (fun c24 => absurd c24 (by omega)) (fun c24 => ?_)
      refine lv_aload_n hx hb dX12_isKept_14 rfl (lv_at hl 0 rfl) ?_
      refine q_goIp (q_runV (As := []) (rest := []) E hC0 hS23 (m_X12_isSchool l X Γ H0 hC0 h0 g0 ca gca uc) cw_X12_isSchool cl_RX12_172 g0 ⟨rfl, rfl⟩ rfl hl.1 rfl (Nat.zero_le _) (by decide) dX12_isKept_15) hS23 (fun v25 locs25 hr25 hS25 => ?_)
      rcases hr25 with rfl | rfl
      · refine q_if_ne hx hb (a := 0) (by decide) (tgt := 84) dX12_isKept_18 rfl (fun c26 => absurd c26 (by omega)) (fun c26 => ?_)
        refine lv_aload_n hx hb dX12_isKept_21 rfl (lv_at hl 0 rfl) ?_
        refine q_goIp (q_runV (As := []) (rest := []) E hC0 hS25 (m_X12_isHands l X Γ H0 hC0 h0 g0 ca gca uc) cw_X12_isHands cl_RX12_175 g0 ⟨rfl, rfl⟩ rfl hl.1 rfl (Nat.zero_le _) (by decide) dX12_isKept_22) hS25 (fun v27 locs27 hr27 hS27 => ?_)
        rcases hr27 with rfl | rfl
        · refine q_if_ne hx hb (a := 0) (by decide) (tgt := 84) dX12_isKept_25 rfl (fun c28 => absurd c28 (by omega)) (fun c28 => ?_)
          refine lv_aload_n hx hb dX12_isKept_28 rfl (lv_at hl 0 rfl) ?_
          refine q_goIp (q_runV (As := []) (rest := []) E hC0 hS27 (m_X12_isSnow l X Γ H0 hC0 h0 g0 ca gca uc) cw_X12_isSnow cl_RX12_178 g0 ⟨rfl, rfl⟩ rfl hl.1 rfl (Nat.zero_le _) (by decide) dX12_isKept_29) hS27 (fun v29 locs29 hr29 hS29 => ?_)
          rcases hr29 with rfl | rfl
          · refine q_if_ne hx hb (a := 0) (by decide) (tgt := 84) dX12_isKept_32 rfl (fun c30 => absurd c30 (by omega)) (fun c30 => ?_)
            refine lv_aload_n hx hb dX12_isKept_35 rfl (lv_at hl 0 rfl) ?_
            refine q_goIp (q_runV (As := []) (rest := []) E hC0 hS29 (m_X12_isDeep l X Γ H0 hC0 h0 g0 ca gca uc) cw_X12_isDeep cl_RX12_181 g0 ⟨rfl, rfl⟩ rfl hl.1 rfl (Nat.zero_le _) (by decide) dX12_isKept_36) hS29 (fun v31 locs31 hr31 hS31 => ?_)
            rcases hr31 with rfl | rfl
            · refine q_if_ne hx hb (a := 0) (by decide) (tgt := 84) dX12_isKept_39 rfl (fun c32 => absurd c32 (by omega)) (fun c32 => ?_)
              refine lv_aload_n hx hb dX12_isKept_42 rfl (lv_at hl 0 rfl) ?_
              refine q_goIp (q_runV (As := []) (rest := []) E hC0 hS31 (m_X12_isTall l X Γ H0 hC0 h0 g0 ca gca uc) cw_X12_isTall cl_RX12_184 g0 ⟨rfl, rfl⟩ rfl hl.1 rfl (Nat.zero_le _) (by decide) dX12_isKept_43) hS31 (fun v33 locs33 hr33 hS33 => ?_)
              rcases hr33 with rfl | rfl
              · refine q_if_ne hx hb (a := 0) (by decide) (tgt := 84) dX12_isKept_46 rfl (fun c34 => absurd c34 (by omega)) (fun c34 => ?_)
                refine lv_aload_n hx hb dX12_isKept_49 rfl (lv_at hl 0 rfl) ?_
                refine q_goIp (q_runV (As := []) (rest := []) E hC0 hS33 (m_X12_isSun l X Γ H0 hC0 h0 g0 ca gca uc) cw_X12_isSun cl_RX12_187 g0 ⟨rfl, rfl⟩ rfl hl.1 rfl (Nat.zero_le _) (by decide) dX12_isKept_50) hS33 (fun v35 locs35 hr35 hS35 => ?_)
                rcases hr35 with rfl | rfl
                · refine q_if_ne hx hb (a := 0) (by decide) (tgt := 84) dX12_isKept_53 rfl (fun c36 => absurd c36 (by omega)) (fun c36 => ?_)
                  refine lv_aload_n hx hb dX12_isKept_56 rfl (lv_at hl 0 rfl) ?_
                  refine q_goIp (q_runV (As := []) (rest := []) E hC0 hS35 (m_X12_isBy l X Γ H0 hC0 h0 g0 ca gca uc) cw_X12_isBy cl_RX12_190 g0 ⟨rfl, rfl⟩ rfl hl.1 rfl (Nat.zero_le _) (by decide) dX12_isKept_57) hS35 (fun v37 locs37 hr37 hS37 => ?_)
                  rcases hr37 with rfl | rfl
                  · refine q_if_ne hx hb (a := 0) (by decide) (tgt := 84) dX12_isKept_60 rfl (fun c38 => absurd c38 (by omega)) (fun c38 => ?_)
                    refine lv_aload_n hx hb dX12_isKept_63 rfl (lv_at hl 0 rfl) ?_
                    refine q_goIp (q_runV (As := []) (rest := []) E hC0 hS37 (m_X12_isNo l X Γ H0 hC0 h0 g0 ca gca uc) cw_X12_isNo cl_RX12_193 g0 ⟨rfl, rfl⟩ rfl hl.1 rfl (Nat.zero_le _) (by decide) dX12_isKept_64) hS37 (fun v39 locs39 hr39 hS39 => ?_)
                    rcases hr39 with rfl | rfl
                    · refine q_if_ne hx hb (a := 0) (by decide) (tgt := 84) dX12_isKept_67 rfl (fun c40 => absurd c40 (by omega)) (fun c40 => ?_)
                      refine lv_aload_n hx hb dX12_isKept_70 rfl (lv_at hl 0 rfl) ?_
                      refine q_goIp (q_runV (As := []) (rest := []) E hC0 hS39 (m_X12_isAbove l X Γ H0 hC0 h0 g0 ca gca uc) cw_X12_isAbove cl_RX12_196 g0 ⟨rfl, rfl⟩ rfl hl.1 rfl (Nat.zero_le _) (by decide) dX12_isKept_71) hS39 (fun v41 locs41 hr41 hS41 => ?_)
                      rcases hr41 with rfl | rfl
                      · refine q_if_ne hx hb (a := 0) (by decide) (tgt := 84) dX12_isKept_74 rfl (fun c42 => absurd c42 (by omega)) (fun c42 => ?_)
                        refine lv_aload_n hx hb dX12_isKept_77 rfl (lv_at hl 0 rfl) ?_
                        refine q_goIp (q_runV (As := []) (rest := []) E hC0 hS41 (m_X12_isBehind l X Γ H0 hC0 h0 g0 ca gca uc) cw_X12_isBehind cl_RX12_199 g0 ⟨rfl, rfl⟩ rfl hl.1 rfl (Nat.zero_le _) (by decide) dX12_isKept_78) hS41 (fun v43 locs43 hr43 hS43 => ?_)
                        rcases hr43 with rfl | rfl
                        · refine q_if_eq hx hb (a := 0) (by decide) (tgt := 86) dX12_isKept_81 rfl (fun c44 => ?_) (fun c44 => absurd c44 (by omega))
                          refine lv_aload_n hx hb dX12_isKept_86 rfl (lv_at hl 0 rfl) ?_
                          refine q_goIp (q_runV (As := []) (rest := []) E hC0 hS43 (m_X12_isTo l X Γ H0 hC0 h0 g0 ca gca uc) cw_X12_isTo cl_RX12_202 g0 ⟨rfl, rfl⟩ rfl hl.1 rfl (Nat.zero_le _) (by decide) dX12_isKept_87) hS43 (fun v45 locs45 hr45 hS45 => ?_)
                          rcases hr45 with rfl | rfl
                          · refine q_if_ne hx hb (a := 0) (by decide) (tgt := 121) dX12_isKept_90 rfl (fun c46 => absurd c46 (by omega)) (fun c46 => ?_)
                            refine lv_aload_n hx hb dX12_isKept_93 rfl (lv_at hl 0 rfl) ?_
                            refine q_goIp (q_runV (As := []) (rest := []) E hC0 hS45 (m_X12_isFrom l X Γ H0 hC0 h0 g0 ca gca uc) cw_X12_isFrom cl_RX12_205 g0 ⟨rfl, rfl⟩ rfl hl.1 rfl (Nat.zero_le _) (by decide) dX12_isKept_94) hS45 (fun v47 locs47 hr47 hS47 => ?_)
                            rcases hr47 with rfl | rfl
                            · refine q_if_ne hx hb (a := 0) (by decide) (tgt := 121) dX12_isKept_97 rfl (fun c48 => absurd c48 (by omega)) (fun c48 => ?_)
                              refine lv_aload_n hx hb dX12_isKept_100 rfl (lv_at hl 0 rfl) ?_
                              refine q_goIp (q_runV (As := []) (rest := []) E hC0 hS47 (m_X12_stepWord l X Γ H0 hC0 h0 g0 ca gca uc) cw_X12_stepWord cl_RX12_208 g0 ⟨rfl, rfl⟩ rfl hl.1 rfl (Nat.zero_le _) (by decide) dX12_isKept_101) hS47 (fun v49 locs49 hr49 hS49 => ?_)
                              obtain ⟨f49_0, f49_1⟩ := hr49
                              refine q_if_ge hx hb (a := v49.toInt) rfl (tgt := 121) dX12_isKept_104 rfl (fun c50 => ?_) (fun c50 => ?_)
                              · refine lv_iconst (v := 1) hx hb dX12_isKept_121 rfl ?_
                                refine lv_goto (tgt := 126) hx hb dX12_isKept_122 rfl ?_
                                exact ret 1 H0 locs49 _ _ dX12_isKept_126 (Or.inr rfl) ⟨rfl, Or.inr rfl⟩ hC0 hS49
                              · refine lv_aload_n hx hb dX12_isKept_107 rfl (lv_at hl 0 rfl) ?_
                                refine q_goIp (q_runV (As := []) (rest := []) E hC0 hS49 (m_X12_testWord l X Γ H0 hC0 h0 g0 ca gca uc) cw_X12_testWord cl_RX12_212 g0 ⟨rfl, rfl⟩ rfl hl.1 rfl (Nat.zero_le _) (by decide) dX12_isKept_108) hS49 (fun v51 locs51 hr51 hS51 => ?_)
                                obtain ⟨f51_0, f51_1⟩ := hr51
                                refine q_if_ge hx hb (a := v51.toInt) rfl (tgt := 121) dX12_isKept_111 rfl (fun c52 => ?_) (fun c52 => ?_)
                                · refine lv_iconst (v := 1) hx hb dX12_isKept_121 rfl ?_
                                  refine lv_goto (tgt := 126) hx hb dX12_isKept_122 rfl ?_
                                  exact ret 1 H0 locs51 _ _ dX12_isKept_126 (Or.inr rfl) ⟨rfl, Or.inr rfl⟩ hC0 hS51
                                · refine lv_aload_n hx hb dX12_isKept_114 rfl (lv_at hl 0 rfl) ?_
                                  refine q_goIp (q_runV (As := []) (rest := []) E hC0 hS51 (m_X12_isEnd l X Γ H0 hC0 h0 g0 ca gca uc) cw_X12_isEnd cl_RX12_215 g0 ⟨rfl, rfl⟩ rfl hl.1 rfl (Nat.zero_le _) (by decide) dX12_isKept_115) hS51 (fun v53 locs53 hr53 hS53 => ?_)
                                  rcases hr53 with rfl | rfl
                                  · refine q_if_eq hx hb (a := 0) (by decide) (tgt := 125) dX12_isKept_118 rfl (fun c54 => ?_) (fun c54 => absurd c54 (by omega))
                                    refine lv_iconst (v := 0) hx hb dX12_isKept_125 rfl ?_
                                    exact ret 0 H0 locs53 _ _ dX12_isKept_126 (Or.inl rfl) ⟨rfl, Or.inl rfl⟩ hC0 hS53
                                  · refine q_if_eq hx hb (a := 1) (by decide) (tgt := 125) dX12_isKept_118 rfl (fun c55 => absurd c55 (by omega)) (fun c55 => ?_)
                                    refine lv_iconst (v := 1) hx hb dX12_isKept_121 rfl ?_
                                    refine lv_goto (tgt := 126) hx hb dX12_isKept_122 rfl ?_
                                    exact ret 1 H0 locs53 _ _ dX12_isKept_126 (Or.inr rfl) ⟨rfl, Or.inr rfl⟩ hC0 hS53
                            · refine q_if_ne hx hb (a := 1) (by decide) (tgt := 121) dX12_isKept_97 rfl (fun c56 => ?_) (fun c56 => absurd c56 (by omega))
                              refine lv_iconst (v := 1) hx hb dX12_isKept_121 rfl ?_
                              refine lv_goto (tgt := 126) hx hb dX12_isKept_122 rfl ?_
                              exact ret 1 H0 locs47 _ _ dX12_isKept_126 (Or.inr rfl) ⟨rfl, Or.inr rfl⟩ hC0 hS47
                          · refine q_if_ne hx hb (a := 1) (by decide) (tgt := 121) dX12_isKept_90 rfl (fun c57 => ?_) (fun c57 => absurd c57 (by omega))
                            refine lv_iconst (v := 1) hx hb dX12_isKept_121 rfl ?_
                            refine lv_goto (tgt := 126) hx hb dX12_isKept_122 rfl ?_
                            exact ret 1 H0 locs45 _ _ dX12_isKept_126 (Or.inr rfl) ⟨rfl, Or.inr rfl⟩ hC0 hS45
                        · refine q_if_eq hx hb (a := 1) (by decide) (tgt := 86) dX12_isKept_81 rfl (fun c58 => absurd c58 (by omega)) (fun c58 => ?_)
                          refine lv_iconst (v := 1) hx hb dX12_isKept_84 rfl ?_
                          exact ret 1 H0 locs43 _ _ dX12_isKept_85 (Or.inr rfl) ⟨rfl, Or.inr rfl⟩ hC0 hS43
                      · refine q_if_ne hx hb (a := 1) (by decide) (tgt := 84) dX12_isKept_74 rfl (fun c59 => ?_) (fun c59 => absurd c59 (by omega))
                        refine lv_iconst (v := 1) hx hb dX12_isKept_84 rfl ?_
                        exact ret 1 H0 locs41 _ _ dX12_isKept_85 (Or.inr rfl) ⟨rfl, Or.inr rfl⟩ hC0 hS41
                    · refine q_if_ne hx hb (a := 1) (by decide) (tgt := 84) dX12_isKept_67 rfl (fun c60 => ?_) (fun c60 => absurd c60 (by omega))
                      refine lv_iconst (v := 1) hx hb dX12_isKept_84 rfl ?_
                      exact ret 1 H0 locs39 _ _ dX12_isKept_85 (Or.inr rfl) ⟨rfl, Or.inr rfl⟩ hC0 hS39
                  · refine q_if_ne hx hb (a := 1) (by decide) (tgt := 84) dX12_isKept_60 rfl (fun c61 => ?_) (fun c61 => absurd c61 (by omega))
                    refine lv_iconst (v := 1) hx hb dX12_isKept_84 rfl ?_
                    exact ret 1 H0 locs37 _ _ dX12_isKept_85 (Or.inr rfl) ⟨rfl, Or.inr rfl⟩ hC0 hS37
                · refine q_if_ne hx hb (a := 1) (by decide) (tgt := 84) dX12_isKept_53 rfl (fun c62 => ?_) (fun c62 => absurd c62 (by omega))
                  refine lv_iconst (v := 1) hx hb dX12_isKept_84 rfl ?_
                  exact ret 1 H0 locs35 _ _ dX12_isKept_85 (Or.inr rfl) ⟨rfl, Or.inr rfl⟩ hC0 hS35
              · refine q_if_ne hx hb (a := 1) (by decide) (tgt := 84) dX12_isKept_46 rfl (fun c63 => ?_) (fun c63 => absurd c63 (by omega))
                refine lv_iconst (v := 1) hx hb dX12_isKept_84 rfl ?_
                exact ret 1 H0 locs33 _ _ dX12_isKept_85 (Or.inr rfl) ⟨rfl, Or.inr rfl⟩ hC0 hS33
            · refine q_if_ne hx hb (a := 1) (by decide) (tgt := 84) dX12_isKept_39 rfl (fun c64 => ?_) (fun c64 => absurd c64 (by omega))
              refine lv_iconst (v := 1) hx hb dX12_isKept_84 rfl ?_
              exact ret 1 H0 locs31 _ _ dX12_isKept_85 (Or.inr rfl) ⟨rfl, Or.inr rfl⟩ hC0 hS31
          · refine q_if_ne hx hb (a := 1) (by decide) (tgt := 84) dX12_isKept_32 rfl (fun c65 => ?_) (fun c65 => absurd c65 (by omega))
            refine lv_iconst (v := 1) hx hb dX12_isKept_84 rfl ?_
            exact ret 1 H0 locs29 _ _ dX12_isKept_85 (Or.inr rfl) ⟨rfl, Or.inr rfl⟩ hC0 hS29
        · refine q_if_ne hx hb (a := 1) (by decide) (tgt := 84) dX12_isKept_25 rfl (fun c66 => ?_) (fun c66 => absurd c66 (by omega))
          refine lv_iconst (v := 1) hx hb dX12_isKept_84 rfl ?_
          exact ret 1 H0 locs27 _ _ dX12_isKept_85 (Or.inr rfl) ⟨rfl, Or.inr rfl⟩ hC0 hS27
      · refine q_if_ne hx hb (a := 1) (by decide) (tgt := 84) dX12_isKept_18 rfl (fun c67 => ?_) (fun c67 => absurd c67 (by omega))
        refine lv_iconst (v := 1) hx hb dX12_isKept_84 rfl ?_
        exact ret 1 H0 locs25 _ _ dX12_isKept_85 (Or.inr rfl) ⟨rfl, Or.inr rfl⟩ hC0 hS25
    · refine q_if_ne hx hb (a := 1) (by decide) (tgt := 84) dX12_isKept_11 rfl (fun c68 => ?_) (fun c68 => absurd c68 (by omega))
      refine lv_iconst (v := 1) hx hb dX12_isKept_84 rfl ?_
      exact ret 1 H0 locs23 _ _ dX12_isKept_85 (Or.inr rfl) ⟨rfl, Or.inr rfl⟩ hC0 hS23
  · refine q_if_ne hx hb (a := 1) (by decide) (tgt := 84) dX12_isKept_4 rfl (fun c69 => ?_) (fun c69 => absurd c69 (by omega))
    refine lv_iconst (v := 1) hx hb dX12_isKept_84 rfl ?_
    exact ret 1 H0 locs21 _ _ dX12_isKept_85 (Or.inr rfl) ⟨rfl, Or.inr rfl⟩ hC0 hS21
set_option maxRecDepth 100000 in
set_option maxHeartbeats 4000000 in
theorem m_X12_isWell (l : Launch) (X : xW) (Γ : Nat → Option Nat) (H0 : Heap) (hC0 : Conf X Γ H0) (h0 : Nat) (g0 : Γ h0 = some 11) (ca : Nat) (gca : Γ ca = some 64) (uc : ∀ a, Γ a = some 64 → a = ca) : Ctr l X Γ yX12_isWell cX12_isWell 1 (some .boolean) 1 [.ref h0] H0 (QI X Γ (fun v H1 => Kp X Γ [1, 6, 7, 8, 9, 10, 11, 12, 14, 15, 16, 17] H0 H1 ∧ ((v = 1 ∧ ((sI H0 h0 (X.1.2 11 12)).toInt = 0)) ∨ (v = 0 ∧ (True))))) := by
  refine q_enterZ (own := "SnowFortsModel") (by decide) rfl (Nat.le_of_ble_eq_true rfl) ?_
  intro p e s m args below meth c ls Qz E hl ret hS0
  have hx := E.1; have hb := E.2.1
  have hKp0 : Kp X Γ [1, 6, 7, 8, 9, 10, 11, 12, 14, 15, 16, 17] H0 H0 := Kp.rf
  have hl : lv_has ls 1 [(0, .ref h0)] := hl
  refine lv_aload_n hx hb dX12_isWell_0 rfl (lv_at hl 0 rfl) ?_
  refine lv_aload_n hx hb dX12_isWell_1 rfl (lv_at hl 0 rfl) ?_
  refine q_getI E hC0 g0 fa_RX12_218 dX12_isWell_2 (fun v21 ev21 lv21 uv21 => ?_)
  have m22 : (sI H0 h0 (X.1.2 11 12)).toInt = v21.toInt := (congrArg Int32.toInt ev21).trans rfl
  refine q_put E hC0 hS0 g0 fp_RX12_28 tv_F rfl rfl dX12_isWell_5 (fun H23 locs23 hC23 hS23 U23 => ?_)
  have hKp23 := Kp.upO E g0 fp_RX12_28 rfl U23 hKp0
  have e24 := up_I U23
  have m25 : (sI H23 h0 (X.1.2 11 12)).toInt = (sI H0 h0 (X.1.2 11 12)).toInt := congrArg Int32.toInt (up_nI U23 (ne_f E 11 12 10 rfl (by decide) (by decide) (by decide)))
  refine lv_aload_n hx hb dX12_isWell_8 rfl (lv_at hl 0 rfl) ?_
  refine lv_aload_n hx hb dX12_isWell_9 rfl (lv_at hl 0 rfl) ?_
  have e27 := (up_nI U23 (ne_f E 11 12 10 rfl (by decide) (by decide) (by decide))).trans ev21
  refine q_getI E hC23 g0 fa_RX12_218 dX12_isWell_10 (fun v26 ev26 lv26 uv26 => ?_)
  have qv26 := e27.symm.trans ev26; subst qv26
  have m28 : (sI H23 h0 (X.1.2 11 12)).toInt = v21.toInt := (congrArg Int32.toInt ev26).trans rfl
  refine q_if_ne hx hb (a := v21.toInt) rfl (tgt := 20) dX12_isWell_13 rfl (fun c29 => ?_) (fun c29 => ?_)
  · refine lv_aload_n hx hb dX12_isWell_20 rfl (lv_at hl 0 rfl) ?_
    refine q_getI E hC23 g0 fa_RX12_221 dX12_isWell_21 (fun v30 ev30 _ _ => ?_)
    refine q_put E hC23 hS23 g0 fp_RX12_32 tv_F rfl rfl dX12_isWell_24 (fun H31 locs31 hC31 hS31 U31 => ?_)
    have hKp31 := Kp.upO E g0 fp_RX12_32 rfl U31 hKp23
    have e32 := up_I U31
    have m33 : (sI H31 h0 (X.1.2 11 12)).toInt = (sI H23 h0 (X.1.2 11 12)).toInt := congrArg Int32.toInt (up_nI U31 (ne_f E 11 12 11 rfl (by decide) (by decide) (by decide)))
    refine lv_aload_n hx hb dX12_isWell_27 rfl (lv_at hl 0 rfl) ?_
    have e35 := (up_nI U31 (ne_f E 11 12 11 rfl (by decide) (by decide) (by decide))).trans e27
    refine q_getI E hC31 g0 fa_RX12_218 dX12_isWell_28 (fun v34 ev34 lv34 uv34 => ?_)
    have qv34 := e35.symm.trans ev34; subst qv34
    have m36 : (sI H31 h0 (X.1.2 11 12)).toInt = v21.toInt := (congrArg Int32.toInt ev34).trans rfl
    refine q_if_eq hx hb (a := v21.toInt) rfl (tgt := 43) dX12_isWell_31 rfl (fun c37 => absurd c37 (by omega)) (fun c37 => ?_)
    refine lv_aload_n hx hb dX12_isWell_34 rfl (lv_at hl 0 rfl) ?_
    refine lv_bipush (v := 10) hx hb dX12_isWell_35 rfl ?_
    refine q_goI (q_runV (As := [.int 10]) (rest := []) E hC31 hS31 (m_X12_no l X Γ H31 hC31 h0 g0 10 (a1 := 10) (by decide) ca gca uc) cw_X12_no cl_RX12_84 g0 ⟨rfl, rfl⟩ rfl hl.1 rfl (Nat.zero_le _) (by decide) dX12_isWell_37) hS31 (fun v38 H38 locs38 hr38 hC38 hS38 => ?_)
    obtain ⟨hp38, hr38⟩ := hr38
    have hKp38 := hKp31.tr (hp38.mono rfl)
    rcases hr38 with ⟨rfl, f38a⟩ | ⟨rfl, -⟩
    · exact absurd f38a (by decide)
    · refine q_if_eq hx hb (a := 0) (by decide) (tgt := 47) dX12_isWell_40 rfl (fun c39 => ?_) (fun c39 => absurd c39 (by omega))
      refine lv_iconst (v := 0) hx hb dX12_isWell_47 rfl ?_
      exact ret 0 H38 locs38 _ _ dX12_isWell_48 (Or.inl rfl) ⟨hKp38, Or.inr ⟨rfl, trivial⟩⟩ hC38 hS38
  · refine lv_iconst (v := (-1)) hx hb dX12_isWell_16 rfl ?_
    refine lv_goto (tgt := 24) hx hb dX12_isWell_17 rfl ?_
    refine q_put E hC23 hS23 g0 fp_RX12_32 tv_F rfl rfl dX12_isWell_24 (fun H40 locs40 hC40 hS40 U40 => ?_)
    have hKp40 := Kp.upO E g0 fp_RX12_32 rfl U40 hKp23
    have e41 := up_I U40
    have m42 : (sI H40 h0 (X.1.2 11 12)).toInt = (sI H23 h0 (X.1.2 11 12)).toInt := congrArg Int32.toInt (up_nI U40 (ne_f E 11 12 11 rfl (by decide) (by decide) (by decide)))
    refine lv_aload_n hx hb dX12_isWell_27 rfl (lv_at hl 0 rfl) ?_
    have e44 := (up_nI U40 (ne_f E 11 12 11 rfl (by decide) (by decide) (by decide))).trans e27
    refine q_getI E hC40 g0 fa_RX12_218 dX12_isWell_28 (fun v43 ev43 lv43 uv43 => ?_)
    have qv43 := e44.symm.trans ev43; subst qv43
    have m45 : (sI H40 h0 (X.1.2 11 12)).toInt = v21.toInt := (congrArg Int32.toInt ev43).trans rfl
    refine q_if_eq hx hb (a := v21.toInt) rfl (tgt := 43) dX12_isWell_31 rfl (fun c46 => ?_) (fun c46 => absurd c46 (by omega))
    refine lv_iconst (v := 1) hx hb dX12_isWell_43 rfl ?_
    refine lv_goto (tgt := 48) hx hb dX12_isWell_44 rfl ?_
    exact ret 1 H40 locs40 _ _ dX12_isWell_48 (Or.inr rfl) ⟨hKp40, Or.inl ⟨rfl, by omega⟩⟩ hC40 hS40
set_option maxRecDepth 100000 in
set_option maxHeartbeats 4000000 in
theorem m_X12_halfOf (l : Launch) (X : xW) (Γ : Nat → Option Nat) (H0 : Heap) (hC0 : Conf X Γ H0) (h0 : Nat) (g0 : Γ h0 = some 11) (p1 : Int32) {a1 : Int} (e1 : p1.toInt = a1) (ca : Nat) (gca : Γ ca = some 64) (uc : ∀ a, Γ a = some 64 → a = ca) : Ctr l X Γ yX12_halfOf cX12_halfOf 2 (some .int) 0 [.ref h0, .int p1] H0 (QI X Γ (fun v H1 => H1 = H0 ∧ ((0 ≤ v.toInt) ∧ (v.toInt ≤ 1)))) := by
  refine q_enterI (own := "SnowFortsModel") (by decide) rfl (Nat.le_of_ble_eq_true rfl) ?_
  intro p e s m args below meth c ls Qz E hl ret hS0
  have hx := E.1; have hb := E.2.1
  have hl : lv_has ls 2 [(0, .ref h0), (1, .int p1)] := hl
  refine lv_iconst (v := 2) hx hb dX12_halfOf_0 rfl ?_
  refine lv_iload_n hx hb dX12_halfOf_1 rfl (lv_at hl 1 rfl) ?_
  refine lv_imul hx hb dX12_halfOf_2 (lv_topi (fun v21 ev21 => ?_))
  refine lv_aload_n hx hb dX12_halfOf_3 rfl (lv_at hl 0 rfl) ?_
  refine q_getC E hC0 g0 fa_RX12_35 uc dX12_halfOf_4 ?_
  refine lv_iconst (v := 0) hx hb dX12_halfOf_7 rfl ?_
  refine q_cald E hC0 (lo := 0) (hi := 6) gca (a := 0) (show (0 : Int32).toInt = 0 from by decide) (by omega) (by omega) (cr_c0 (by omega) (by omega)) dX12_halfOf_8 (fun v22 ev22 lv22 uv22 => ?_)
  have c23 := i_rng v21; rw [show v21.toInt = v21.toInt from rfl] at c23
  refine q_icmp_ge hx hb (a := v21.toInt) (b := v22.toInt) rfl rfl (tgt := 16) dX12_halfOf_9 rfl (fun c24 => ?_) (fun c24 => ?_)
  · refine lv_iconst (v := 1) hx hb dX12_halfOf_16 rfl ?_
    have c25 : (1 : Int32).toInt = 1 := (by decide)
    exact ret 1 H0 [] _ _ dX12_halfOf_17 ⟨rfl, ⟨by omega, by omega⟩⟩ hC0 hS0
  · refine lv_iconst (v := 0) hx hb dX12_halfOf_12 rfl ?_
    refine lv_goto (tgt := 17) hx hb dX12_halfOf_13 rfl ?_
    have c26 : (0 : Int32).toInt = 0 := (by decide)
    exact ret 0 H0 [] _ _ dX12_halfOf_17 ⟨rfl, ⟨by omega, by omega⟩⟩ hC0 hS0
set_option maxRecDepth 100000 in
set_option maxHeartbeats 4000000 in
theorem m_X12_allOf (l : Launch) (X : xW) (Γ : Nat → Option Nat) (H0 : Heap) (hC0 : Conf X Γ H0) (h0 : Nat) (g0 : Γ h0 = some 11) (p1 : Int32) {a1 : Int} (e1 : p1.toInt = a1) (ca : Nat) (gca : Γ ca = some 64) (uc : ∀ a, Γ a = some 64 → a = ca) (r0 : 0 ≤ a1) (r1 : a1 ≤ 2000) : Ctr l X Γ yX12_allOf cX12_allOf 4 (some .int) 0 [.ref h0, .int p1] H0 (QI X Γ (fun v H1 => H1 = H0 ∧ (True))) := by
  refine q_enterI (own := "SnowFortsModel") (by decide) rfl (Nat.le_of_ble_eq_true rfl) ?_
  intro p e s m args below meth c ls Qz E hl ret hS0
  have hx := E.1; have hb := E.2.1
  have hl : lv_has ls 4 [(0, .ref h0), (1, .int p1)] := hl
  refine lv_iconst (v := 0) hx hb dX12_allOf_0 rfl ?_
  refine lv_istore_n hx hb dX12_allOf_1 rfl hl (by decide) rfl (fun ls hl => ?_)
  have hl : lv_has ls 4 [(2, .int 0), (0, .ref h0), (1, .int p1)] := hl
  refine lv_iconst (v := 0) hx hb dX12_allOf_2 rfl ?_
  refine lv_istore_n hx hb dX12_allOf_3 rfl hl (by decide) rfl (fun ls hl => ?_)
  have hl : lv_has ls 4 [(3, .int 0), (2, .int 0), (0, .ref h0), (1, .int p1)] := hl
  have L4 : ∀ (n23 : Nat) (locs23 : List Loc) (v21 : Int32) (z21 : Int) (v22 : Int32) (z22 : Int) (ls : Array Slot), (36 - z21).toNat < n23 → v21.toInt = z21 → v22.toInt = z22 → z21 ≤ 36 → 0 ≤ z21 → va_S (AΓ Γ) H0 H0 locs23 → lv_has ls 4 [(3, .int v21), (2, .int v22), (0, .ref h0), (1, .int p1)] → W p l e (rmL 0) s m args below meth c H0 locs23 0 0 Qz (F0 m 4 ls []) := by
    intro n23
    induction n23 with
    | zero => intro locs23 v21 z21 v22 z22 ls hm23 ev21 ev22 iv23_0 iv23_1 hS23 hl; exact absurd hm23 (Nat.not_lt_zero _)
    | succ n23 ih23 =>
      intro locs23 v21 z21 v22 z22 ls hm23 ev21 ev22 iv23_0 iv23_1 hS23 hl
      refine lv_iload_n hx hb dX12_allOf_4 rfl (lv_at hl 0 rfl) ?_
      refine lv_bipush (v := 36) hx hb dX12_allOf_5 rfl ?_
      refine q_icmp_ge hx hb (a := z21) (b := 36) ev21 (by decide) (tgt := 27) dX12_allOf_7 rfl (fun c24 => ?_) (fun c24 => ?_)
      · refine lv_iload_n hx hb dX12_allOf_27 rfl (lv_at hl 1 rfl) ?_
        exact ret v22 H0 locs23 _ _ dX12_allOf_28 ⟨rfl, trivial⟩ hC0 hS23
      · refine lv_iload_n hx hb dX12_allOf_10 rfl (lv_at hl 1 rfl) ?_
        refine lv_aload_n hx hb dX12_allOf_11 rfl (lv_at hl 2 rfl) ?_
        refine q_getC E hC0 g0 fa_RX12_35 uc dX12_allOf_12 ?_
        refine lv_iload_n hx hb dX12_allOf_15 rfl (lv_at hl 3 rfl) ?_
        refine lv_iload_n hx hb dX12_allOf_16 rfl (lv_at hl 0 rfl) ?_
        refine lv_iadd hx hb dX12_allOf_17 (lv_topi (fun v25 ev25 => ?_))
        have ev25i : v25.toInt = (a1 + z21) := i_add ev25 e1 ev21 (by omega) (by omega)
        refine q_cald E hC0 (lo := -2147483648) (hi := 2147483647) gca (a := (a1 + z21)) ev25i (by omega) (by omega) (fun _ h => cT_any h) dX12_allOf_18 (fun v26 ev26 _ _ => ?_)
        refine lv_iadd hx hb dX12_allOf_19 (lv_topi (fun v27 ev27 => ?_))
        refine lv_istore_n hx hb dX12_allOf_20 rfl hl (by decide) rfl (fun ls hl => ?_)
        have hl : lv_has ls 4 [(2, .int v27), (3, .int v21), (0, .ref h0), (1, .int p1)] := hl
        obtain ⟨v28, ev28⟩ : ∃ z, z = v21 + Int32.ofInt 1 := ⟨_, rfl⟩
        have ev28i : v28.toInt = (z21 + 1) := i_add ev28 ev21 (by decide) (by omega) (by omega)
        refine lv_iinc hx hb dX12_allOf_21 hl (k := 1) rfl ev28.symm (by decide) rfl (fun ls hl => ?_)
        have hl : lv_has ls 4 [(3, .int v28), (2, .int v27), (0, .ref h0), (1, .int p1)] := hl
        refine lv_goto (tgt := 4) hx hb dX12_allOf_24 rfl ?_
        exact ih23 locs23 v28 ((z21 + 1)) v27 (v27.toInt) ls (by omega) ev28i rfl (by omega) (by omega) hS23 hl
  exact L4 _ [] 0 0 0 0 ls (Nat.lt_succ_self _) (by decide) (by decide) (by omega) (by omega) hS0 hl
