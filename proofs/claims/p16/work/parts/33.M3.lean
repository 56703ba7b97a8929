set_option maxRecDepth 100000 in
set_option maxHeartbeats 4000000 in
theorem m_X12_isTo (l : Launch) (X : xW) (Γ : Nat → Option Nat) (H0 : Heap) (hC0 : Conf X Γ H0) (h0 : Nat) (g0 : Γ h0 = some 11) (ca : Nat) (gca : Γ ca = some 64) (uc : ∀ a, Γ a = some 64 → a = ca) : Ctr l X Γ yX12_isTo cX12_isTo 1 (some .boolean) 1 [.ref h0] H0 (QI X Γ (fun v H1 => H1 = H0 ∧ ((v = 1 ∧ (WDM X H0 h0 (k3 19))) ∨ (v = 0 ∧ (¬ WDM X H0 h0 (k3 19)))))) := by
  refine q_enterZ (own := "SnowFortsModel") (by decide) rfl (Nat.le_of_ble_eq_true rfl) ?_
  intro p e s m args below meth c ls Qz E hl ret hS0
  have hx := E.1; have hb := E.2.1
  have hl : lv_has ls 1 [(0, .ref h0)] := hl
  refine lv_aload_n hx hb dX12_isTo_0 rfl (lv_at hl 0 rfl) ?_
  refine lv_bipush (v := 116) hx hb dX12_isTo_1 rfl ?_
  refine lv_bipush (v := 111) hx hb dX12_isTo_3 rfl ?_
  refine lv_iconst (v := 0) hx hb dX12_isTo_5 rfl ?_
  refine lv_iconst (v := 0) hx hb dX12_isTo_6 rfl ?_
  refine lv_iconst (v := 0) hx hb dX12_isTo_7 rfl ?_
  refine lv_iconst (v := 0) hx hb dX12_isTo_8 rfl ?_
  refine q_goJp (q_runS (As := [.int 116, .int 111, .int 0, .int 0, .int 0, .int 0]) (rest := [.ref h0]) E hS0 (m_X12_spelled l X Γ H0 hC0 116 (a0 := 116) (by decide) 111 (a1 := 111) (by decide) 0 (a2 := 0) (by decide) 0 (a3 := 0) (by decide) 0 (a4 := 0) (by decide) 0 (a5 := 0) (by decide) (by omega) (by omega) (by omega) (by omega) (by omega) (by omega) (by omega) (by omega) (by omega) (by omega) (by omega) (by omega)) cw_X12_spelled cl_RX12_145 rfl hl.1 rfl (show _ ≤ _ from by simp [Value.category]) (by decide) dX12_isTo_9) hS0 (fun v21 locs21 hr21 hS21 => ?_)
  have f21_0 := hr21
  have hsp : v21.toInt = k3 19 := f21_0.trans (by decide +kernel)
  refine q_goIp (q_runV (As := [.long v21]) (rest := []) E hC0 hS21 (m_X12_isWord l X Γ H0 hC0 h0 g0 v21 (a1 := v21.toInt) rfl ca gca uc) cw_X12_isWord cl_RX12_149 g0 ⟨rfl, rfl⟩ rfl hl.1 rfl (Nat.zero_le _) (by decide) dX12_isTo_12) hS21 (fun v22 locs22 hr22 hS22 => ?_)
  rcases hr22 with ⟨rfl, hw⟩ | ⟨rfl, hw⟩
  · have hw19 := hsp ▸ hw
    exact ret 1 H0 locs22 _ _ dX12_isTo_15 (Or.inr rfl) ⟨rfl, Or.inl ⟨rfl, (hsp ▸ hw)⟩⟩ hC0 hS22
  · have hw19 := hsp ▸ hw
    exact ret 0 H0 locs22 _ _ dX12_isTo_15 (Or.inl rfl) ⟨rfl, Or.inr ⟨rfl, (hsp ▸ hw)⟩⟩ hC0 hS22
set_option maxRecDepth 100000 in
set_option maxHeartbeats 4000000 in
theorem m_X12_isFrom (l : Launch) (X : xW) (Γ : Nat → Option Nat) (H0 : Heap) (hC0 : Conf X Γ H0) (h0 : Nat) (g0 : Γ h0 = some 11) (ca : Nat) (gca : Γ ca = some 64) (uc : ∀ a, Γ a = some 64 → a = ca) : Ctr l X Γ yX12_isFrom cX12_isFrom 1 (some .boolean) 1 [.ref h0] H0 (QI X Γ (fun v H1 => H1 = H0 ∧ ((v = 1 ∧ (WDM X H0 h0 (k3 21))) ∨ (v = 0 ∧ (¬ WDM X H0 h0 (k3 21)))))) := by
  refine q_enterZ (own := "SnowFortsModel") (by decide) rfl (Nat.le_of_ble_eq_true rfl) ?_
  intro p e s m args below meth c ls Qz E hl ret hS0
  have hx := E.1; have hb := E.2.1
  have hl : lv_has ls 1 [(0, .ref h0)] := hl
  refine lv_aload_n hx hb dX12_isFrom_0 rfl (lv_at hl 0 rfl) ?_
  refine lv_bipush (v := 102) hx hb dX12_isFrom_1 rfl ?_
  refine lv_bipush (v := 114) hx hb dX12_isFrom_3 rfl ?_
  refine lv_bipush (v := 111) hx hb dX12_isFrom_5 rfl ?_
  refine lv_bipush (v := 109) hx hb dX12_isFrom_7 rfl ?_
  refine lv_iconst (v := 0) hx hb dX12_isFrom_9 rfl ?_
  refine lv_iconst (v := 0) hx hb dX12_isFrom_10 rfl ?_
  refine q_goJp (q_runS (As := [.int 102, .int 114, .int 111, .int 109, .int 0, .int 0]) (rest := [.ref h0]) E hS0 (m_X12_spelled l X Γ H0 hC0 102 (a0 := 102) (by decide) 114 (a1 := 114) (by decide) 111 (a2 := 111) (by decide) 109 (a3 := 109) (by decide) 0 (a4 := 0) (by decide) 0 (a5 := 0) (by decide) (by omega) (by omega) (by omega) (by omega) (by omega) (by omega) (by omega) (by omega) (by omega) (by omega) (by omega) (by omega)) cw_X12_spelled cl_RX12_145 rfl hl.1 rfl (show _ ≤ _ from by simp [Value.category]) (by decide) dX12_isFrom_11) hS0 (fun v21 locs21 hr21 hS21 => ?_)
  have f21_0 := hr21
  have hsp : v21.toInt = k3 21 := f21_0.trans (by decide +kernel)
  refine q_goIp (q_runV (As := [.long v21]) (rest := []) E hC0 hS21 (m_X12_isWord l X Γ H0 hC0 h0 g0 v21 (a1 := v21.toInt) rfl ca gca uc) cw_X12_isWord cl_RX12_149 g0 ⟨rfl, rfl⟩ rfl hl.1 rfl (Nat.zero_le _) (by decide) dX12_isFrom_14) hS21 (fun v22 locs22 hr22 hS22 => ?_)
  rcases hr22 with ⟨rfl, hw⟩ | ⟨rfl, hw⟩
  · have hw21 := hsp ▸ hw
    exact ret 1 H0 locs22 _ _ dX12_isFrom_17 (Or.inr rfl) ⟨rfl, Or.inl ⟨rfl, (hsp ▸ hw)⟩⟩ hC0 hS22
  · have hw21 := hsp ▸ hw
    exact ret 0 H0 locs22 _ _ dX12_isFrom_17 (Or.inl rfl) ⟨rfl, Or.inr ⟨rfl, (hsp ▸ hw)⟩⟩ hC0 hS22
set_option maxRecDepth 100000 in
set_option maxHeartbeats 4000000 in
theorem m_X12_isBuild (l : Launch) (X : xW) (Γ : Nat → Option Nat) (H0 : Heap) (hC0 : Conf X Γ H0) (h0 : Nat) (g0 : Γ h0 = some 11) (ca : Nat) (gca : Γ ca = some 64) (uc : ∀ a, Γ a = some 64 → a = ca) : Ctr l X Γ yX12_isBuild cX12_isBuild 1 (some .boolean) 1 [.ref h0] H0 (QI X Γ (fun v H1 => H1 = H0 ∧ ((v = 1 ∧ (WDM X H0 h0 (k3 12))) ∨ (v = 0 ∧ (¬ WDM X H0 h0 (k3 12)))))) := by
  refine q_enterZ (own := "SnowFortsModel") (by decide) rfl (Nat.le_of_ble_eq_true rfl) ?_
  intro p e s m args below meth c ls Qz E hl ret hS0
  have hx := E.1; have hb := E.2.1
  have hl : lv_has ls 1 [(0, .ref h0)] := hl
  refine lv_aload_n hx hb dX12_isBuild_0 rfl (lv_at hl 0 rfl) ?_
  refine lv_bipush (v := 98) hx hb dX12_isBuild_1 rfl ?_
  refine lv_bipush (v := 117) hx hb dX12_isBuild_3 rfl ?_
  refine lv_bipush (v := 105) hx hb dX12_isBuild_5 rfl ?_
  refine lv_bipush (v := 108) hx hb dX12_isBuild_7 rfl ?_
  refine lv_bipush (v := 100) hx hb dX12_isBuild_9 rfl ?_
  refine lv_iconst (v := 0) hx hb dX12_isBuild_11 rfl ?_
  refine q_goJp (q_runS (As := [.int 98, .int 117, .int 105, .int 108, .int 100, .int 0]) (rest := [.ref h0]) E hS0 (m_X12_spelled l X Γ H0 hC0 98 (a0 := 98) (by decide) 117 (a1 := 117) (by decide) 105 (a2 := 105) (by decide) 108 (a3 := 108) (by decide) 100 (a4 := 100) (by decide) 0 (a5 := 0) (by decide) (by omega) (by omega) (by omega) (by omega) (by omega) (by omega) (by omega) (by omega) (by omega) (by omega) (by omega) (by omega)) cw_X12_spelled cl_RX12_145 rfl hl.1 rfl (show _ ≤ _ from by simp [Value.category]) (by decide) dX12_isBuild_12) hS0 (fun v21 locs21 hr21 hS21 => ?_)
  have f21_0 := hr21
  have hsp : v21.toInt = k3 12 := f21_0.trans (by decide +kernel)
  refine q_goIp (q_runV (As := [.long v21]) (rest := []) E hC0 hS21 (m_X12_isWord l X Γ H0 hC0 h0 g0 v21 (a1 := v21.toInt) rfl ca gca uc) cw_X12_isWord cl_RX12_149 g0 ⟨rfl, rfl⟩ rfl hl.1 rfl (Nat.zero_le _) (by decide) dX12_isBuild_15) hS21 (fun v22 locs22 hr22 hS22 => ?_)
  rcases hr22 with ⟨rfl, hw⟩ | ⟨rfl, hw⟩
  · have hw12 := hsp ▸ hw
    exact ret 1 H0 locs22 _ _ dX12_isBuild_18 (Or.inr rfl) ⟨rfl, Or.inl ⟨rfl, (hsp ▸ hw)⟩⟩ hC0 hS22
  · have hw12 := hsp ▸ hw
    exact ret 0 H0 locs22 _ _ dX12_isBuild_18 (Or.inl rfl) ⟨rfl, Or.inr ⟨rfl, (hsp ▸ hw)⟩⟩ hC0 hS22
set_option maxRecDepth 100000 in
set_option maxHeartbeats 4000000 in
theorem m_X12_isIce (l : Launch) (X : xW) (Γ : Nat → Option Nat) (H0 : Heap) (hC0 : Conf X Γ H0) (h0 : Nat) (g0 : Γ h0 = some 11) (ca : Nat) (gca : Γ ca = some 64) (uc : ∀ a, Γ a = some 64 → a = ca) : Ctr l X Γ yX12_isIce cX12_isIce 1 (some .boolean) 1 [.ref h0] H0 (QI X Γ (fun v H1 => H1 = H0 ∧ ((v = 1 ∧ (WDM X H0 h0 (k3 15))) ∨ (v = 0 ∧ (¬ WDM X H0 h0 (k3 15)))))) := by
  refine q_enterZ (own := "SnowFortsModel") (by decide) rfl (Nat.le_of_ble_eq_true rfl) ?_
  intro p e s m args below meth c ls Qz E hl ret hS0
  have hx := E.1; have hb := E.2.1
  have hl : lv_has ls 1 [(0, .ref h0)] := hl
  refine lv_aload_n hx hb dX12_isIce_0 rfl (lv_at hl 0 rfl) ?_
  refine lv_bipush (v := 105) hx hb dX12_isIce_1 rfl ?_
  refine lv_bipush (v := 99) hx hb dX12_isIce_3 rfl ?_
  refine lv_bipush (v := 101) hx hb dX12_isIce_5 rfl ?_
  refine lv_iconst (v := 0) hx hb dX12_isIce_7 rfl ?_
  refine lv_iconst (v := 0) hx hb dX12_isIce_8 rfl ?_
  refine lv_iconst (v := 0) hx hb dX12_isIce_9 rfl ?_
  refine q_goJp (q_runS (As := [.int 105, .int 99, .int 101, .int 0, .int 0, .int 0]) (rest := [.ref h0]) E hS0 (m_X12_spelled l X Γ H0 hC0 105 (a0 := 105) (by decide) 99 (a1 := 99) (by decide) 101 (a2 := 101) (by decide) 0 (a3 := 0) (by decide) 0 (a4 := 0) (by decide) 0 (a5 := 0) (by decide) (by omega) (by omega) (by omega) (by omega) (by omega) (by omega) (by omega) (by omega) (by omega) (by omega) (by omega) (by omega)) cw_X12_spelled cl_RX12_145 rfl hl.1 rfl (show _ ≤ _ from by simp [Value.category]) (by decide) dX12_isIce_10) hS0 (fun v21 locs21 hr21 hS21 => ?_)
  have f21_0 := hr21
  have hsp : v21.toInt = k3 15 := f21_0.trans (by decide +kernel)
  refine q_goIp (q_runV (As := [.long v21]) (rest := []) E hC0 hS21 (m_X12_isWord l X Γ H0 hC0 h0 g0 v21 (a1 := v21.toInt) rfl ca gca uc) cw_X12_isWord cl_RX12_149 g0 ⟨rfl, rfl⟩ rfl hl.1 rfl (Nat.zero_le _) (by decide) dX12_isIce_13) hS21 (fun v22 locs22 hr22 hS22 => ?_)
  rcases hr22 with ⟨rfl, hw⟩ | ⟨rfl, hw⟩
  · have hw15 := hsp ▸ hw
    exact ret 1 H0 locs22 _ _ dX12_isIce_16 (Or.inr rfl) ⟨rfl, Or.inl ⟨rfl, (hsp ▸ hw)⟩⟩ hC0 hS22
  · have hw15 := hsp ▸ hw
    exact ret 0 H0 locs22 _ _ dX12_isIce_16 (Or.inl rfl) ⟨rfl, Or.inr ⟨rfl, (hsp ▸ hw)⟩⟩ hC0 hS22
set_option maxRecDepth 100000 in
set_option maxHeartbeats 4000000 in
theorem m_X12_isSteal (l : Launch) (X : xW) (Γ : Nat → Option Nat) (H0 : Heap) (hC0 : Conf X Γ H0) (h0 : Nat) (g0 : Γ h0 = some 11) (ca : Nat) (gca : Γ ca = some 64) (uc : ∀ a, Γ a = some 64 → a = ca) : Ctr l X Γ yX12_isSteal cX12_isSteal 1 (some .boolean) 1 [.ref h0] H0 (QI X Γ (fun v H1 => H1 = H0 ∧ ((v = 1 ∧ (WDM X H0 h0 (k3 14))) ∨ (v = 0 ∧ (¬ WDM X H0 h0 (k3 14)))))) := by
  refine q_enterZ (own := "SnowFortsModel") (by decide) rfl (Nat.le_of_ble_eq_true rfl) ?_
  intro p e s m args below meth c ls Qz E hl ret hS0
  have hx := E.1; have hb := E.2.1
  have hl : lv_has ls 1 [(0, .ref h0)] := hl
  refine lv_aload_n hx hb dX12_isSteal_0 rfl (lv_at hl 0 rfl) ?_
  refine lv_bipush (v := 115) hx hb dX12_isSteal_1 rfl ?_
  refine lv_bipush (v := 116) hx hb dX12_isSteal_3 rfl ?_
  refine lv_bipush (v := 101) hx hb dX12_isSteal_5 rfl ?_
  refine lv_bipush (v := 97) hx hb dX12_isSteal_7 rfl ?_
  refine lv_bipush (v := 108) hx hb dX12_isSteal_9 rfl ?_
  refine lv_iconst (v := 0) hx hb dX12_isSteal_11 rfl ?_
  refine q_goJp (q_runS (As := [.int 115, .int 116, .int 101, .int 97, .int 108, .int 0]) (rest := [.ref h0]) E hS0 (m_X12_spelled l X Γ H0 hC0 115 (a0 := 115) (by decide) 116 (a1 := 116) (by decide) 101 (a2 := 101) (by decide) 97 (a3 := 97) (by decide) 108 (a4 := 108) (by decide) 0 (a5 := 0) (by decide) (by omega) (by omega) (by omega) (by omega) (by omega) (by omega) (by omega) (by omega) (by omega) (by omega) (by omega) (by omega)) cw_X12_spelled cl_RX12_145 rfl hl.1 rfl (show _ ≤ _ from by simp [Value.category]) (by decide) dX12_isSteal_12) hS0 (fun v21 locs21 hr21 hS21 => ?_)
  have f21_0 := hr21
  have hsp : v21.toInt = k3 14 := f21_0.trans (by decide +kernel)
  refine q_goIp (q_runV (As := [.long v21]) (rest := []) E hC0 hS21 (m_X12_isWord l X Γ H0 hC0 h0 g0 v21 (a1 := v21.toInt) rfl ca gca uc) cw_X12_isWord cl_RX12_149 g0 ⟨rfl, rfl⟩ rfl hl.1 rfl (Nat.zero_le _) (by decide) dX12_isSteal_15) hS21 (fun v22 locs22 hr22 hS22 => ?_)
  rcases hr22 with ⟨rfl, hw⟩ | ⟨rfl, hw⟩
  · have hw14 := hsp ▸ hw
    exact ret 1 H0 locs22 _ _ dX12_isSteal_18 (Or.inr rfl) ⟨rfl, Or.inl ⟨rfl, (hsp ▸ hw)⟩⟩ hC0 hS22
  · have hw14 := hsp ▸ hw
    exact ret 0 H0 locs22 _ _ dX12_isSteal_18 (Or.inl rfl) ⟨rfl, Or.inr ⟨rfl, (hsp ▸ hw)⟩⟩ hC0 hS22
set_option maxRecDepth 100000 in
set_option maxHeartbeats 4000000 in
theorem m_X12_stepWord (l : Launch) (X : xW) (Γ : Nat → Option Nat) (H0 : Heap) (hC0 : Conf X Γ H0) (h0 : Nat) (g0 : Γ h0 = some 11) (ca : Nat) (gca : Γ ca = some 64) (uc : ∀ a, Γ a = some 64 → a = ca) : Ctr l X Γ yX12_stepWord cX12_stepWord 1 (some .int) 2 [.ref h0] H0 (QI X Γ (fun v H1 => H1 = H0 ∧ ((-1 ≤ v.toInt) ∧ (v.toInt ≤ 9) ∧ (0 ≤ v.toInt ↔ KPL X H0 h0 STJ)))) := by
  refine q_enterI (own := "SnowFortsModel") (by decide) rfl (Nat.le_of_ble_eq_true rfl) ?_
  intro p e s m args below meth c ls Qz E hl ret hS0
  have hx := E.1; have hb := E.2.1
  have hl : lv_has ls 1 [(0, .ref h0)] := hl
  refine lv_aload_n hx hb dX12_stepWord_0 rfl (lv_at hl 0 rfl) ?_
  refine lv_bipush (v := 102) hx hb dX12_stepWord_1 rfl ?_
  refine lv_bipush (v := 97) hx hb dX12_stepWord_3 rfl ?_
  refine lv_bipush (v := 108) hx hb dX12_stepWord_5 rfl ?_
  refine lv_bipush (v := 108) hx hb dX12_stepWord_7 rfl ?_
  refine lv_iconst (v := 0) hx hb dX12_stepWord_9 rfl ?_
  refine lv_iconst (v := 0) hx hb dX12_stepWord_10 rfl ?_
  refine q_goJp (q_runS (As := [.int 102, .int 97, .int 108, .int 108, .int 0, .int 0]) (rest := [.ref h0]) E hS0 (m_X12_spelled l X Γ H0 hC0 102 (a0 := 102) (by decide) 97 (a1 := 97) (by decide) 108 (a2 := 108) (by decide) 108 (a3 := 108) (by decide) 0 (a4 := 0) (by decide) 0 (a5 := 0) (by decide) (by omega) (by omega) (by omega) (by omega) (by omega) (by omega) (by omega) (by omega) (by omega) (by omega) (by omega) (by omega)) cw_X12_spelled cl_RX12_145 rfl hl.1 rfl (show _ ≤ _ from by simp [Value.category]) (by decide) dX12_stepWord_11) hS0 (fun v21 locs21 hr21 hS21 => ?_)
  have f21_0 := hr21
  have hsp : v21.toInt = k3 16 := f21_0.trans (by decide +kernel)
  refine q_goIp (q_runV (As := [.long v21]) (rest := []) E hC0 hS21 (m_X12_isWord l X Γ H0 hC0 h0 g0 v21 (a1 := v21.toInt) rfl ca gca uc) cw_X12_isWord cl_RX12_149 g0 ⟨rfl, rfl⟩ rfl hl.1 rfl (Nat.zero_le _) (by decide) dX12_stepWord_14) hS21 (fun v22 locs22 hr22 hS22 => ?_)
  rcases hr22 with ⟨rfl, hw⟩ | ⟨rfl, hw⟩
  · have hw16 := hsp ▸ hw
    refine q_if_eq hx hb (a := 1) (by decide) (tgt := 22) dX12_stepWord_17 rfl (fun c23 => absurd c23 (by omega)) (fun c23 => ?_)
    refine lv_iconst (v := 0) hx hb dX12_stepWord_20 rfl ?_
    have hst : 0 ≤ (0 : Int32).toInt ↔ KPL X H0 h0 STJ := by have hcc : (0 : Int32).toInt = 0 := (show (0 : Int32).toInt = 0 from by decide); first | exact ⟨fun _ => ⟨16, by decide, hw16⟩, fun _ => by omega⟩ | exact ⟨fun _ => ⟨17, by decide, hw17⟩, fun _ => by omega⟩ | exact ⟨fun _ => ⟨18, by decide, hw18⟩, fun _ => by omega⟩ | exact ⟨fun _ => ⟨12, by decide, hw12⟩, fun _ => by omega⟩ | exact ⟨fun _ => ⟨15, by decide, hw15⟩, fun _ => by omega⟩ | exact ⟨fun _ => ⟨14, by decide, hw14⟩, fun _ => by omega⟩ | exact ⟨fun _ => ⟨20, by decide, hw20⟩, fun _ => by omega⟩ | exact ⟨fun _ => ⟨22, by decide, hw22⟩, fun _ => by omega⟩ | exact ⟨fun _ => ⟨26, by decide, hw26⟩, fun _ => by omega⟩ | exact ⟨fun _ => ⟨28, by decide, hw28⟩, fun _ => by omega⟩ | exact ⟨fun q => absurd q (by omega), fun q => absurd q (KPL.no10 hw16 hw17 hw18 hw12 hw15 hw14 hw20 hw22 hw26 hw28 rfl)⟩
    have c24 : (0 : Int32).toInt = 0 := (by decide)
    exact ret 0 H0 locs22 _ _ dX12_stepWord_21 ⟨rfl, ⟨by omega, by omega, hst⟩⟩ hC0 hS22
  · have hw16 := hsp ▸ hw
    refine q_if_eq hx hb (a := 0) (by decide) (tgt := 22) dX12_stepWord_17 rfl (fun c25 => ?_) (fun c25 => absurd c25 (by omega))
    refine lv_aload_n hx hb dX12_stepWord_22 rfl (lv_at hl 0 rfl) ?_
    refine lv_bipush (v := 116) hx hb dX12_stepWord_23 rfl ?_
    refine lv_bipush (v := 104) hx hb dX12_stepWord_25 rfl ?_
    refine lv_bipush (v := 97) hx hb dX12_stepWord_27 rfl ?_
    refine lv_bipush (v := 119) hx hb dX12_stepWord_29 rfl ?_
    refine lv_iconst (v := 0) hx hb dX12_stepWord_31 rfl ?_
    refine lv_iconst (v := 0) hx hb dX12_stepWord_32 rfl ?_
    refine q_goJp (q_runS (As := [.int 116, .int 104, .int 97, .int 119, .int 0, .int 0]) (rest := [.ref h0]) E hS22 (m_X12_spelled l X Γ H0 hC0 116 (a0 := 116) (by decide) 104 (a1 := 104) (by decide) 97 (a2 := 97) (by decide) 119 (a3 := 119) (by decide) 0 (a4 := 0) (by decide) 0 (a5 := 0) (by decide) (by omega) (by omega) (by omega) (by omega) (by omega) (by omega) (by omega) (by omega) (by omega) (by omega) (by omega) (by omega)) cw_X12_spelled cl_RX12_145 rfl hl.1 rfl (show _ ≤ _ from by simp [Value.category]) (by decide) dX12_stepWord_33) hS22 (fun v26 locs26 hr26 hS26 => ?_)
    have f26_0 := hr26
    have hsp : v26.toInt = k3 17 := f26_0.trans (by decide +kernel)
    refine q_goIp (q_runV (As := [.long v26]) (rest := []) E hC0 hS26 (m_X12_isWord l X Γ H0 hC0 h0 g0 v26 (a1 := v26.toInt) rfl ca gca uc) cw_X12_isWord cl_RX12_149 g0 ⟨rfl, rfl⟩ rfl hl.1 rfl (Nat.zero_le _) (by decide) dX12_stepWord_36) hS26 (fun v27 locs27 hr27 hS27 => ?_)
    rcases hr27 with ⟨rfl, hw⟩ | ⟨rfl, hw⟩
    · have hw17 := hsp ▸ hw
      refine q_if_eq hx hb (a := 1) (by decide) (tgt := 44) dX12_stepWord_39 rfl (fun c28 => absurd c28 (by omega)) (fun c28 => ?_)
      refine lv_iconst (v := 1) hx hb dX12_stepWord_42 rfl ?_
      have hst : 0 ≤ (1 : Int32).toInt ↔ KPL X H0 h0 STJ := by have hcc : (1 : Int32).toInt = 1 := (show (1 : Int32).toInt = 1 from by decide); first | exact ⟨fun _ => ⟨16, by decide, hw16⟩, fun _ => by omega⟩ | exact ⟨fun _ => ⟨17, by decide, hw17⟩, fun _ => by omega⟩ | exact ⟨fun _ => ⟨18, by decide, hw18⟩, fun _ => by omega⟩ | exact ⟨fun _ => ⟨12, by decide, hw12⟩, fun _ => by omega⟩ | exact ⟨fun _ => ⟨15, by decide, hw15⟩, fun _ => by omega⟩ | exact ⟨fun _ => ⟨14, by decide, hw14⟩, fun _ => by omega⟩ | exact ⟨fun _ => ⟨20, by decide, hw20⟩, fun _ => by omega⟩ | exact ⟨fun _ => ⟨22, by decide, hw22⟩, fun _ => by omega⟩ | exact ⟨fun _ => ⟨26, by decide, hw26⟩, fun _ => by omega⟩ | exact ⟨fun _ => ⟨28, by decide, hw28⟩, fun _ => by omega⟩ | exact ⟨fun q => absurd q (by omega), fun q => absurd q (KPL.no10 hw16 hw17 hw18 hw12 hw15 hw14 hw20 hw22 hw26 hw28 rfl)⟩
      have c29 : (1 : Int32).toInt = 1 := (by decide)
      exact ret 1 H0 locs27 _ _ dX12_stepWord_43 ⟨rfl, ⟨by omega, by omega, hst⟩⟩ hC0 hS27
    · have hw17 := hsp ▸ hw
      refine q_if_eq hx hb (a := 0) (by decide) (tgt := 44) dX12_stepWord_39 rfl (fun c30 => ?_) (fun c30 => absurd c30 (by omega))
      refine lv_aload_n hx hb dX12_stepWord_44 rfl (lv_at hl 0 rfl) ?_
      refine lv_bipush (v := 115) hx hb dX12_stepWord_45 rfl ?_
      refine lv_bipush (v := 116) hx hb dX12_stepWord_47 rfl ?_
      refine lv_bipush (v := 111) hx hb dX12_stepWord_49 rfl ?_
      refine lv_bipush (v := 114) hx hb dX12_stepWord_51 rfl ?_
      refine lv_bipush (v := 109) hx hb dX12_stepWord_53 rfl ?_
      refine lv_iconst (v := 0) hx hb dX12_stepWord_55 rfl ?_
      refine q_goJp (q_runS (As := [.int 115, .int 116, .int 111, .int 114, .int 109, .int 0]) (rest := [.ref h0]) E hS27 (m_X12_spelled l X Γ H0 hC0 115 (a0 := 115) (by decide) 116 (a1 := 116) (by decide) 111 (a2 := 111) (by decide) 114 (a3 := 114) (by decide) 109 (a4 := 109) (by decide) 0 (a5 := 0) (by decide) (by omega) (by omega) (by omega) (by omega) (by omega) (by omega) (by omega) (by omega) (by omega) (by omega) (by omega) (by omega)) cw_X12_spelled cl_RX12_145 rfl hl.1 rfl (show _ ≤ _ from by simp [Value.category]) (by decide) dX12_stepWord_56) hS27 (fun v31 locs31 hr31 hS31 => ?_)
      have f31_0 := hr31
      have hsp : v31.toInt = k3 18 := f31_0.trans (by decide +kernel)
      refine q_goIp (q_runV (As := [.long v31]) (rest := []) E hC0 hS31 (m_X12_isWord l X Γ H0 hC0 h0 g0 v31 (a1 := v31.toInt) rfl ca gca uc) cw_X12_isWord cl_RX12_149 g0 ⟨rfl, rfl⟩ rfl hl.1 rfl (Nat.zero_le _) (by decide) dX12_stepWord_59) hS31 (fun v32 locs32 hr32 hS32 => ?_)
      rcases hr32 with ⟨rfl, hw⟩ | ⟨rfl, hw⟩
      · have hw18 := hsp ▸ hw
        refine q_if_eq hx hb (a := 1) (by decide) (tgt := 67) dX12_stepWord_62 rfl (fun c33 => absurd c33 (by omega)) (fun c33 => ?_)
        refine lv_iconst (v := 2) hx hb dX12_stepWord_65 rfl ?_
        have hst : 0 ≤ (2 : Int32).toInt ↔ KPL X H0 h0 STJ := by have hcc : (2 : Int32).toInt = 2 := (show (2 : Int32).toInt = 2 from by decide); first | exact ⟨fun _ => ⟨16, by decide, hw16⟩, fun _ => by omega⟩ | exact ⟨fun _ => ⟨17, by decide, hw17⟩, fun _ => by omega⟩ | exact ⟨fun _ => ⟨18, by decide, hw18⟩, fun _ => by omega⟩ | exact ⟨fun _ => ⟨12, by decide, hw12⟩, fun _ => by omega⟩ | exact ⟨fun _ => ⟨15, by decide, hw15⟩, fun _ => by omega⟩ | exact ⟨fun _ => ⟨14, by decide, hw14⟩, fun _ => by omega⟩ | exact ⟨fun _ => ⟨20, by decide, hw20⟩, fun _ => by omega⟩ | exact ⟨fun _ => ⟨22, by decide, hw22⟩, fun _ => by omega⟩ | exact ⟨fun _ => ⟨26, by decide, hw26⟩, fun _ => by omega⟩ | exact ⟨fun _ => ⟨28, by decide, hw28⟩, fun _ => by omega⟩ | exact ⟨fun q => absurd q (by omega), fun q => absurd q (KPL.no10 hw16 hw17 hw18 hw12 hw15 hw14 hw20 hw22 hw26 hw28 rfl)⟩
        have c34 : (2 : Int32).toInt = 2 := (by decide)
        exact ret 2 H0 locs32 _ _ dX12_stepWord_66 ⟨rfl, ⟨by omega, by omega, hst⟩⟩ hC0 hS32
      · have hw18 := hsp ▸ hw
        refine q_if_eq hx hb (a := 0) (by decide) (tgt := 67) dX12_stepWord_62 rfl (fun c35 => ?_) (fun c35 => absurd c35 (by omega))
        refine lv_aload_n hx hb dX12_stepWord_67 rfl (lv_at hl 0 rfl) ?_
        refine q_goIp (q_runV (As := []) (rest := []) E hC0 hS32 (m_X12_isBuild l X Γ H0 hC0 h0 g0 ca gca uc) cw_X12_isBuild cl_RX12_153 g0 ⟨rfl, rfl⟩ rfl hl.1 rfl (Nat.zero_le _) (by decide) dX12_stepWord_68) hS32 (fun v36 locs36 hr36 hS36 => ?_)
        rcases hr36 with ⟨rfl, hw⟩ | ⟨rfl, hw⟩
        · have hw12 := hw
          refine q_if_eq hx hb (a := 1) (by decide) (tgt := 76) dX12_stepWord_71 rfl (fun c37 => absurd c37 (by omega)) (fun c37 => ?_)
          refine lv_iconst (v := 3) hx hb dX12_stepWord_74 rfl ?_
          have hst : 0 ≤ (3 : Int32).toInt ↔ KPL X H0 h0 STJ := by have hcc : (3 : Int32).toInt = 3 := (show (3 : Int32).toInt = 3 from by decide); first | exact ⟨fun _ => ⟨16, by decide, hw16⟩, fun _ => by omega⟩ | exact ⟨fun _ => ⟨17, by decide, hw17⟩, fun _ => by omega⟩ | exact ⟨fun _ => ⟨18, by decide, hw18⟩, fun _ => by omega⟩ | exact ⟨fun _ => ⟨12, by decide, hw12⟩, fun _ => by omega⟩ | exact ⟨fun _ => ⟨15, by decide, hw15⟩, fun _ => by omega⟩ | exact ⟨fun _ => ⟨14, by decide, hw14⟩, fun _ => by omega⟩ | exact ⟨fun _ => ⟨20, by decide, hw20⟩, fun _ => by omega⟩ | exact ⟨fun _ => ⟨22, by decide, hw22⟩, fun _ => by omega⟩ | exact ⟨fun _ => ⟨26, by decide, hw26⟩, fun _ => by omega⟩ | exact ⟨fun _ => ⟨28, by decide, hw28⟩, fun _ => by omega⟩ | exact ⟨fun q => absurd q (by omega), fun q => absurd q (KPL.no10 hw16 hw17 hw18 hw12 hw15 hw14 hw20 hw22 hw26 hw28 rfl)⟩
          have c38 : (3 : Int32).toInt = 3 := (by decide)
          exact ret 3 H0 locs36 _ _ dX12_stepWord_75 ⟨rfl, ⟨by omega, by omega, hst⟩⟩ hC0 hS36
        · have hw12 := hw
          refine q_if_eq hx hb (a := 0) (by decide) (tgt := 76) dX12_stepWord_71 rfl (fun c39 => ?_) (fun c39 => absurd c39 (by omega))
          refine lv_aload_n hx hb dX12_stepWord_76 rfl (lv_at hl 0 rfl) ?_
          refine q_goIp (q_runV (As := []) (rest := []) E hC0 hS36 (m_X12_isIce l X Γ H0 hC0 h0 g0 ca gca uc) cw_X12_isIce cl_RX12_157 g0 ⟨rfl, rfl⟩ rfl hl.1 rfl (Nat.zero_le _) (by decide) dX12_stepWord_77) hS36 (fun v40 locs40 hr40 hS40 => ?_)
          rcases hr40 with ⟨rfl, hw⟩ | ⟨rfl, hw⟩
          · have hw15 := hw
            refine q_if_eq hx hb (a := 1) (by decide) (tgt := 85) dX12_stepWord_80 rfl (fun c41 => absurd c41 (by omega)) (fun c41 => ?_)
            refine lv_iconst (v := 4) hx hb dX12_stepWord_83 rfl ?_
            have hst : 0 ≤ (4 : Int32).toInt ↔ KPL X H0 h0 STJ := by have hcc : (4 : Int32).toInt = 4 := (show (4 : Int32).toInt = 4 from by decide); first | exact ⟨fun _ => ⟨16, by decide, hw16⟩, fun _ => by omega⟩ | exact ⟨fun _ => ⟨17, by decide, hw17⟩, fun _ => by omega⟩ | exact ⟨fun _ => ⟨18, by decide, hw18⟩, fun _ => by omega⟩ | exact ⟨fun _ => ⟨12, by decide, hw12⟩, fun _ => by omega⟩ | exact ⟨fun _ => ⟨15, by decide, hw15⟩, fun _ => by omega⟩ | exact ⟨fun _ => ⟨14, by decide, hw14⟩, fun _ => by omega⟩ | exact ⟨fun _ => ⟨20, by decide, hw20⟩, fun _ => by omega⟩ | exact ⟨fun _ => ⟨22, by decide, hw22⟩, fun _ => by omega⟩ | exact ⟨fun _ => ⟨26, by decide, hw26⟩, fun _ => by omega⟩ | exact ⟨fun _ => ⟨28, by decide, hw28⟩, fun _ => by omega⟩ | exact ⟨fun q => absurd q (by omega), fun q => absurd q (KPL.no10 hw16 hw17 hw18 hw12 hw15 hw14 hw20 hw22 hw26 hw28 rfl)⟩
            have c42 : (4 : Int32).toInt = 4 := (by decide)
            exact ret 4 H0 locs40 _ _ dX12_stepWord_84 ⟨rfl, ⟨by omega, by omega, hst⟩⟩ hC0 hS40
          · have hw15 := hw
            refine q_if_eq hx hb (a := 0) (by decide) (tgt := 85) dX12_stepWord_80 rfl (fun c43 => ?_) (fun c43 => absurd c43 (by omega))
            refine lv_aload_n hx hb dX12_stepWord_85 rfl (lv_at hl 0 rfl) ?_
            refine q_goIp (q_runV (As := []) (rest := []) E hC0 hS40 (m_X12_isSteal l X Γ H0 hC0 h0 g0 ca gca uc) cw_X12_isSteal cl_RX12_160 g0 ⟨rfl, rfl⟩ rfl hl.1 rfl (Nat.zero_le _) (by decide) dX12_stepWord_86) hS40 (fun v44 locs44 hr44 hS44 => ?_)
            rcases hr44 with ⟨rfl, hw⟩ | ⟨rfl, hw⟩
            · have hw14 := hw
              refine q_if_eq hx hb (a := 1) (by decide) (tgt := 94) dX12_stepWord_89 rfl (fun c45 => absurd c45 (by omega)) (fun c45 => ?_)
              refine lv_iconst (v := 5) hx hb dX12_stepWord_92 rfl ?_
              have hst : 0 ≤ (5 : Int32).toInt ↔ KPL X H0 h0 STJ := by have hcc : (5 : Int32).toInt = 5 := (show (5 : Int32).toInt = 5 from by decide); first | exact ⟨fun _ => ⟨16, by decide, hw16⟩, fun _ => by omega⟩ | exact ⟨fun _ => ⟨17, by decide, hw17⟩, fun _ => by omega⟩ | exact ⟨fun _ => ⟨18, by decide, hw18⟩, fun _ => by omega⟩ | exact ⟨fun _ => ⟨12, by decide, hw12⟩, fun _ => by omega⟩ | exact ⟨fun _ => ⟨15, by decide, hw15⟩, fun _ => by omega⟩ | exact ⟨fun _ => ⟨14, by decide, hw14⟩, fun _ => by omega⟩ | exact ⟨fun _ => ⟨20, by decide, hw20⟩, fun _ => by omega⟩ | exact ⟨fun _ => ⟨22, by decide, hw22⟩, fun _ => by omega⟩ | exact ⟨fun _ => ⟨26, by decide, hw26⟩, fun _ => by omega⟩ | exact ⟨fun _ => ⟨28, by decide, hw28⟩, fun _ => by omega⟩ | exact ⟨fun q => absurd q (by omega), fun q => absurd q (KPL.no10 hw16 hw17 hw18 hw12 hw15 hw14 hw20 hw22 hw26 hw28 rfl)⟩
              have c46 : (5 : Int32).toInt = 5 := (by decide)
              exact ret 5 H0 locs44 _ _ dX12_stepWord_93 ⟨rfl, ⟨by omega, by omega, hst⟩⟩ hC0 hS44
            · have hw14 := hw
              refine q_if_eq hx hb (a := 0) (by decide) (tgt := 94) dX12_stepWord_89 rfl (fun c47 => ?_) (fun c47 => absurd c47 (by omega))
              refine lv_aload_n hx hb dX12_stepWord_94 rfl (lv_at hl 0 rfl) ?_
              refine lv_bipush (v := 110) hx hb dX12_stepWord_95 rfl ?_
              refine lv_bipush (v := 105) hx hb dX12_stepWord_97 rfl ?_
              refine lv_bipush (v := 103) hx hb dX12_stepWord_99 rfl ?_
              refine lv_bipush (v := 104) hx hb dX12_stepWord_101 rfl ?_
              refine lv_bipush (v := 116) hx hb dX12_stepWord_103 rfl ?_
              refine lv_iconst (v := 0) hx hb dX12_stepWord_105 rfl ?_
              refine q_goJp (q_runS (As := [.int 110, .int 105, .int 103, .int 104, .int 116, .int 0]) (rest := [.ref h0]) E hS44 (m_X12_spelled l X Γ H0 hC0 110 (a0 := 110) (by decide) 105 (a1 := 105) (by decide) 103 (a2 := 103) (by decide) 104 (a3 := 104) (by decide) 116 (a4 := 116) (by decide) 0 (a5 := 0) (by decide) (by omega) (by omega) (by omega) (by omega) (by omega) (by omega) (by omega) (by omega) (by omega) (by omega) (by omega) (by omega)) cw_X12_spelled cl_RX12_145 rfl hl.1 rfl (show _ ≤ _ from by simp [Value.category]) (by decide) dX12_stepWord_106) hS44 (fun v48 locs48 hr48 hS48 => ?_)
              have f48_0 := hr48
              have hsp : v48.toInt = k3 20 := f48_0.trans (by decide +kernel)
              refine q_goIp (q_runV (As := [.long v48]) (rest := []) E hC0 hS48 (m_X12_isWord l X Γ H0 hC0 h0 g0 v48 (a1 := v48.toInt) rfl ca gca uc) cw_X12_isWord cl_RX12_149 g0 ⟨rfl, rfl⟩ rfl hl.1 rfl (Nat.zero_le _) (by decide) dX12_stepWord_109) hS48 (fun v49 locs49 hr49 hS49 => ?_)
              rcases hr49 with ⟨rfl, hw⟩ | ⟨rfl, hw⟩
              · have hw20 := hsp ▸ hw
                refine q_if_eq hx hb (a := 1) (by decide) (tgt := 118) dX12_stepWord_112 rfl (fun c50 => absurd c50 (by omega)) (fun c50 => ?_)
                refine lv_bipush (v := 6) hx hb dX12_stepWord_115 rfl ?_
                have hst : 0 ≤ (6 : Int32).toInt ↔ KPL X H0 h0 STJ := by have hcc : (6 : Int32).toInt = 6 := (show (6 : Int32).toInt = 6 from by decide); first | exact ⟨fun _ => ⟨16, by decide, hw16⟩, fun _ => by omega⟩ | exact ⟨fun _ => ⟨17, by decide, hw17⟩, fun _ => by omega⟩ | exact ⟨fun _ => ⟨18, by decide, hw18⟩, fun _ => by omega⟩ | exact ⟨fun _ => ⟨12, by decide, hw12⟩, fun _ => by omega⟩ | exact ⟨fun _ => ⟨15, by decide, hw15⟩, fun _ => by omega⟩ | exact ⟨fun _ => ⟨14, by decide, hw14⟩, fun _ => by omega⟩ | exact ⟨fun _ => ⟨20, by decide, hw20⟩, fun _ => by omega⟩ | exact ⟨fun _ => ⟨22, by decide, hw22⟩, fun _ => by omega⟩ | exact ⟨fun _ => ⟨26, by decide, hw26⟩, fun _ => by omega⟩ | exact ⟨fun _ => ⟨28, by decide, hw28⟩, fun _ => by omega⟩ | exact ⟨fun q => absurd q (by omega), fun q => absurd q (KPL.no10 hw16 hw17 hw18 hw12 hw15 hw14 hw20 hw22 hw26 hw28 rfl)⟩
                have c51 : (6 : Int32).toInt = 6 := (by decide)
                exact ret 6 H0 locs49 _ _ dX12_stepWord_117 ⟨rfl, ⟨by omega, by omega, hst⟩⟩ hC0 hS49
              · have hw20 := hsp ▸ hw
                refine q_if_eq hx hb (a := 0) (by decide) (tgt := 118) dX12_stepWord_112 rfl (fun c52 => ?_) (fun c52 => absurd c52 (by omega))
                refine lv_aload_n hx hb dX12_stepWord_118 rfl (lv_at hl 0 rfl) ?_
                refine lv_bipush (v := 119) hx hb dX12_stepWord_119 rfl ?_
                refine lv_bipush (v := 104) hx hb dX12_stepWord_121 rfl ?_
                refine lv_bipush (v := 101) hx hb dX12_stepWord_123 rfl ?_
                refine lv_bipush (v := 110) hx hb dX12_stepWord_125 rfl ?_
                refine lv_iconst (v := 0) hx hb dX12_stepWord_127 rfl ?_
                refine lv_iconst (v := 0) hx hb dX12_stepWord_128 rfl ?_
                refine q_goJp (q_runS (As := [.int 119, .int 104, .int 101, .int 110, .int 0, .int 0]) (rest := [.ref h0]) E hS49 (m_X12_spelled l X Γ H0 hC0 119 (a0 := 119) (by decide) 104 (a1 := 104) (by decide) 101 (a2 := 101) (by decide) 110 (a3 := 110) (by decide) 0 (a4 := 0) (by decide) 0 (a5 := 0) (by decide) (by omega) (by omega) (by omega) (by omega) (by omega) (by omega) (by omega) (by omega) (by omega) (by omega) (by omega) (by omega)) cw_X12_spelled cl_RX12_145 rfl hl.1 rfl (show _ ≤ _ from by simp [Value.category]) (by decide) dX12_stepWord_129) hS49 (fun v53 locs53 hr53 hS53 => ?_)
                have f53_0 := hr53
                have hsp : v53.toInt = k3 22 := f53_0.trans (by decide +kernel)
                refine q_goIp (q_runV (As := [.long v53]) (rest := []) E hC0 hS53 (m_X12_isWord l X Γ H0 hC0 h0 g0 v53 (a1 := v53.toInt) rfl ca gca uc) cw_X12_isWord cl_RX12_149 g0 ⟨rfl, rfl⟩ rfl hl.1 rfl (Nat.zero_le _) (by decide) dX12_stepWord_132) hS53 (fun v54 locs54 hr54 hS54 => ?_)
                rcases hr54 with ⟨rfl, hw⟩ | ⟨rfl, hw⟩
                · have hw22 := hsp ▸ hw
                  refine q_if_eq hx hb (a := 1) (by decide) (tgt := 141) dX12_stepWord_135 rfl (fun c55 => absurd c55 (by omega)) (fun c55 => ?_)
                  refine lv_bipush (v := 7) hx hb dX12_stepWord_138 rfl ?_
                  have hst : 0 ≤ (7 : Int32).toInt ↔ KPL X H0 h0 STJ := by have hcc : (7 : Int32).toInt = 7 := (show (7 : Int32).toInt = 7 from by decide); first | exact ⟨fun _ => ⟨16, by decide, hw16⟩, fun _ => by omega⟩ | exact ⟨fun _ => ⟨17, by decide, hw17⟩, fun _ => by omega⟩ | exact ⟨fun _ => ⟨18, by decide, hw18⟩, fun _ => by omega⟩ | exact ⟨fun _ => ⟨12, by decide, hw12⟩, fun _ => by omega⟩ | exact ⟨fun _ => ⟨15, by decide, hw15⟩, fun _ => by omega⟩ | exact ⟨fun _ => ⟨14, by decide, hw14⟩, fun _ => by omega⟩ | exact ⟨fun _ => ⟨20, by decide, hw20⟩, fun _ => by omega⟩ | exact ⟨fun _ => ⟨22, by decide, hw22⟩, fun _ => by omega⟩ | exact ⟨fun _ => ⟨26, by decide, hw26⟩, fun _ => by omega⟩ | exact ⟨fun _ => ⟨28, by decide, hw28⟩, fun _ => by omega⟩ | exact ⟨fun q => absurd q (by omega), fun q => absurd q (KPL.no10 hw16 hw17 hw18 hw12 hw15 hw14 hw20 hw22 hw26 hw28 rfl)⟩
                  have c56 : (7 : Int32).toInt = 7 := (by decide)
                  exact ret 7 H0 locs54 _ _ dX12_stepWord_140 ⟨rfl, ⟨by omega, by omega, hst⟩⟩ hC0 hS54
                · have hw22 := hsp ▸ hw
                  refine q_if_eq hx hb (a := 0) (by decide) (tgt := 141) dX12_stepWord_135 rfl (fun c57 => ?_) (fun c57 => absurd c57 (by omega))
                  refine lv_aload_n hx hb dX12_stepWord_141 rfl (lv_at hl 0 rfl) ?_
                  refine lv_bipush (v := 108) hx hb dX12_stepWord_142 rfl ?_
                  refine lv_bipush (v := 111) hx hb dX12_stepWord_144 rfl ?_
                  refine lv_bipush (v := 111) hx hb dX12_stepWord_146 rfl ?_
                  refine lv_bipush (v := 112) hx hb dX12_stepWord_148 rfl ?_
                  refine lv_iconst (v := 0) hx hb dX12_stepWord_150 rfl ?_
                  refine lv_iconst (v := 0) hx hb dX12_stepWord_151 rfl ?_
                  refine q_goJp (q_runS (As := [.int 108, .int 111, .int 111, .int 112, .int 0, .int 0]) (rest := [.ref h0]) E hS54 (m_X12_spelled l X Γ H0 hC0 108 (a0 := 108) (by decide) 111 (a1 := 111) (by decide) 111 (a2 := 111) (by decide) 112 (a3 := 112) (by decide) 0 (a4 := 0) (by decide) 0 (a5 := 0) (by decide) (by omega) (by omega) (by omega) (by omega) (by omega) (by omega) (by omega) (by omega) (by omega) (by omega) (by omega) (by omega)) cw_X12_spelled cl_RX12_145 rfl hl.1 rfl (show _ ≤ _ from by simp [Value.category]) (by decide) dX12_stepWord_152) hS54 (fun v58 locs58 hr58 hS58 => ?_)
                  have f58_0 := hr58
                  have hsp : v58.toInt = k3 26 := f58_0.trans (by decide +kernel)
                  refine q_goIp (q_runV (As := [.long v58]) (rest := []) E hC0 hS58 (m_X12_isWord l X Γ H0 hC0 h0 g0 v58 (a1 := v58.toInt) rfl ca gca uc) cw_X12_isWord cl_RX12_149 g0 ⟨rfl, rfl⟩ rfl hl.1 rfl (Nat.zero_le _) (by decide) dX12_stepWord_155) hS58 (fun v59 locs59 hr59 hS59 => ?_)
                  rcases hr59 with ⟨rfl, hw⟩ | ⟨rfl, hw⟩
                  · have hw26 := hsp ▸ hw
                    refine q_if_eq hx hb (a := 1) (by decide) (tgt := 164) dX12_stepWord_158 rfl (fun c60 => absurd c60 (by omega)) (fun c60 => ?_)
                    refine lv_bipush (v := 8) hx hb dX12_stepWord_161 rfl ?_
                    have hst : 0 ≤ (8 : Int32).toInt ↔ KPL X H0 h0 STJ := by have hcc : (8 : Int32).toInt = 8 := (show (8 : Int32).toInt = 8 from by decide); first | exact ⟨fun _ => ⟨16, by decide, hw16⟩, fun _ => by omega⟩ | exact ⟨fun _ => ⟨17, by decide, hw17⟩, fun _ => by omega⟩ | exact ⟨fun _ => ⟨18, by decide, hw18⟩, fun _ => by omega⟩ | exact ⟨fun _ => ⟨12, by decide, hw12⟩, fun _ => by omega⟩ | exact ⟨fun _ => ⟨15, by decide, hw15⟩, fun _ => by omega⟩ | exact ⟨fun _ => ⟨14, by decide, hw14⟩, fun _ => by omega⟩ | exact ⟨fun _ => ⟨20, by decide, hw20⟩, fun _ => by omega⟩ | exact ⟨fun _ => ⟨22, by decide, hw22⟩, fun _ => by omega⟩ | exact ⟨fun _ => ⟨26, by decide, hw26⟩, fun _ => by omega⟩ | exact ⟨fun _ => ⟨28, by decide, hw28⟩, fun _ => by omega⟩ | exact ⟨fun q => absurd q (by omega), fun q => absurd q (KPL.no10 hw16 hw17 hw18 hw12 hw15 hw14 hw20 hw22 hw26 hw28 rfl)⟩
                    have c61 : (8 : Int32).toInt = 8 := (by decide)
                    exact ret 8 H0 locs59 _ _ dX12_stepWord_163 ⟨rfl, ⟨by omega, by omega, hst⟩⟩ hC0 hS59
                  · have hw26 := hsp ▸ hw
                    refine q_if_eq hx hb (a := 0) (by decide) (tgt := 164) dX12_stepWord_158 rfl (fun c62 => ?_) (fun c62 => absurd c62 (by omega))
                    refine lv_aload_n hx hb dX12_stepWord_164 rfl (lv_at hl 0 rfl) ?_
                    refine lv_bipush (v := 115) hx hb dX12_stepWord_165 rfl ?_
                    refine lv_bipush (v := 116) hx hb dX12_stepWord_167 rfl ?_
                    refine lv_bipush (v := 111) hx hb dX12_stepWord_169 rfl ?_
                    refine lv_bipush (v := 112) hx hb dX12_stepWord_171 rfl ?_
                    refine lv_iconst (v := 0) hx hb dX12_stepWord_173 rfl ?_
                    refine lv_iconst (v := 0) hx hb dX12_stepWord_174 rfl ?_
                    refine q_goJp (q_runS (As := [.int 115, .int 116, .int 111, .int 112, .int 0, .int 0]) (rest := [.ref h0]) E hS59 (m_X12_spelled l X Γ H0 hC0 115 (a0 := 115) (by decide) 116 (a1 := 116) (by decide) 111 (a2 := 111) (by decide) 112 (a3 := 112) (by decide) 0 (a4 := 0) (by decide) 0 (a5 := 0) (by decide) (by omega) (by omega) (by omega) (by omega) (by omega) (by omega) (by omega) (by omega) (by omega) (by omega) (by omega) (by omega)) cw_X12_spelled cl_RX12_145 rfl hl.1 rfl (show _ ≤ _ from by simp [Value.category]) (by decide) dX12_stepWord_175) hS59 (fun v63 locs63 hr63 hS63 => ?_)
                    have f63_0 := hr63
                    have hsp : v63.toInt = k3 28 := f63_0.trans (by decide +kernel)
                    refine q_goIp (q_runV (As := [.long v63]) (rest := []) E hC0 hS63 (m_X12_isWord l X Γ H0 hC0 h0 g0 v63 (a1 := v63.toInt) rfl ca gca uc) cw_X12_isWord cl_RX12_149 g0 ⟨rfl, rfl⟩ rfl hl.1 rfl (Nat.zero_le _) (by decide) dX12_stepWord_178) hS63 (fun v64 locs64 hr64 hS64 => ?_)
                    rcases hr64 with ⟨rfl, hw⟩ | ⟨rfl, hw⟩
                    · have hw28 := hsp ▸ hw
                      refine q_if_eq hx hb (a := 1) (by decide) (tgt := 189) dX12_stepWord_181 rfl (fun c65 => absurd c65 (by omega)) (fun c65 => ?_)
                      refine lv_bipush (v := 9) hx hb dX12_stepWord_184 rfl ?_
                      refine lv_goto (tgt := 190) hx hb dX12_stepWord_186 rfl ?_
                      have hst : 0 ≤ (9 : Int32).toInt ↔ KPL X H0 h0 STJ := by have hcc : (9 : Int32).toInt = 9 := (show (9 : Int32).toInt = 9 from by decide); first | exact ⟨fun _ => ⟨16, by decide, hw16⟩, fun _ => by omega⟩ | exact ⟨fun _ => ⟨17, by decide, hw17⟩, fun _ => by omega⟩ | exact ⟨fun _ => ⟨18, by decide, hw18⟩, fun _ => by omega⟩ | exact ⟨fun _ => ⟨12, by decide, hw12⟩, fun _ => by omega⟩ | exact ⟨fun _ => ⟨15, by decide, hw15⟩, fun _ => by omega⟩ | exact ⟨fun _ => ⟨14, by decide, hw14⟩, fun _ => by omega⟩ | exact ⟨fun _ => ⟨20, by decide, hw20⟩, fun _ => by omega⟩ | exact ⟨fun _ => ⟨22, by decide, hw22⟩, fun _ => by omega⟩ | exact ⟨fun _ => ⟨26, by decide, hw26⟩, fun _ => by omega⟩ | exact ⟨fun _ => ⟨28, by decide, hw28⟩, fun _ => by omega⟩ | exact ⟨fun q => absurd q (by omega), fun q => absurd q (KPL.no10 hw16 hw17 hw18 hw12 hw15 hw14 hw20 hw22 hw26 hw28 rfl)⟩
                      have c66 : (9 : Int32).toInt = 9 := (by decide)
                      exact ret 9 H0 locs64 _ _ dX12_stepWord_190 ⟨rfl, ⟨by omega, by omega, hst⟩⟩ hC0 hS64
                    · have hw28 := hsp ▸ hw
                      refine q_if_eq hx hb (a := 0) (by decide) (tgt := 189) dX12_stepWord_181 rfl (fun c67 => ?_) (fun c67 => absurd c67 (by omega))
                      refine lv_iconst (v := (-1)) hx hb dX12_stepWord_189 rfl ?_
                      have hst : 0 ≤ ((-1) : Int32).toInt ↔ KPL X H0 h0 STJ := by have hcc : ((-1) : Int32).toInt = (-1) := (show ((-1) : Int32).toInt = (-1) from by decide); first | exact ⟨fun _ => ⟨16, by decide, hw16⟩, fun _ => by omega⟩ | exact ⟨fun _ => ⟨17, by decide, hw17⟩, fun _ => by omega⟩ | exact ⟨fun _ => ⟨18, by decide, hw18⟩, fun _ => by omega⟩ | exact ⟨fun _ => ⟨12, by decide, hw12⟩, fun _ => by omega⟩ | exact ⟨fun _ => ⟨15, by decide, hw15⟩, fun _ => by omega⟩ | exact ⟨fun _ => ⟨14, by decide, hw14⟩, fun _ => by omega⟩ | exact ⟨fun _ => ⟨20, by decide, hw20⟩, fun _ => by omega⟩ | exact ⟨fun _ => ⟨22, by decide, hw22⟩, fun _ => by omega⟩ | exact ⟨fun _ => ⟨26, by decide, hw26⟩, fun _ => by omega⟩ | exact ⟨fun _ => ⟨28, by decide, hw28⟩, fun _ => by omega⟩ | exact ⟨fun q => absurd q (by omega), fun q => absurd q (KPL.no10 hw16 hw17 hw18 hw12 hw15 hw14 hw20 hw22 hw26 hw28 rfl)⟩
                      have c68 : ((-1) : Int32).toInt = (-1) := (by decide)
                      exact ret (-1) H0 locs64 _ _ dX12_stepWord_190 ⟨rfl, ⟨by omega, by omega, hst⟩⟩ hC0 hS64
set_option maxRecDepth 100000 in
set_option maxHeartbeats 4000000 in
theorem m_X12_isWall (l : Launch) (X : xW) (Γ : Nat → Option Nat) (H0 : Heap) (hC0 : Conf X Γ H0) (h0 : Nat) (g0 : Γ h0 = some 11) (ca : Nat) (gca : Γ ca = some 64) (uc : ∀ a, Γ a = some 64 → a = ca) : Ctr l X Γ yX12_isWall cX12_isWall 1 (some .boolean) 1 [.ref h0] H0 (QI X Γ (fun v H1 => H1 = H0 ∧ ((v = 1 ∧ (WDM X H0 h0 (k3 6))) ∨ (v = 0 ∧ (¬ WDM X H0 h0 (k3 6)))))) := by
  refine q_enterZ (own := "SnowFortsModel") (by decide) rfl (Nat.le_of_ble_eq_true rfl) ?_
  intro p e s m args below meth c ls Qz E hl ret hS0
  have hx := E.1; have hb := E.2.1
  have hl : lv_has ls 1 [(0, .ref h0)] := hl
  refine lv_aload_n hx hb dX12_isWall_0 rfl (lv_at hl 0 rfl) ?_
  refine lv_bipush (v := 119) hx hb dX12_isWall_1 rfl ?_
  refine lv_bipush (v := 97) hx hb dX12_isWall_3 rfl ?_
  refine lv_bipush (v := 108) hx hb dX12_isWall_5 rfl ?_
  refine lv_bipush (v := 108) hx hb dX12_isWall_7 rfl ?_
  refine lv_iconst (v := 0) hx hb dX12_isWall_9 rfl ?_
  refine lv_iconst (v := 0) hx hb dX12_isWall_10 rfl ?_
  refine q_goJp (q_runS (As := [.int 119, .int 97, .int 108, .int 108, .int 0, .int 0]) (rest := [.ref h0]) E hS0 (m_X12_spelled l X Γ H0 hC0 119 (a0 := 119) (by decide) 97 (a1 := 97) (by decide) 108 (a2 := 108) (by decide) 108 (a3 := 108) (by decide) 0 (a4 := 0) (by decide) 0 (a5 := 0) (by decide) (by omega) (by omega) (by omega) (by omega) (by omega) (by omega) (by omega) (by omega) (by omega) (by omega) (by omega) (by omega)) cw_X12_spelled cl_RX12_145 rfl hl.1 rfl (show _ ≤ _ from by simp [Value.category]) (by decide) dX12_isWall_11) hS0 (fun v21 locs21 hr21 hS21 => ?_)
  have f21_0 := hr21
  have hsp : v21.toInt = k3 6 := f21_0.trans (by decide +kernel)
  refine q_goIp (q_runV (As := [.long v21]) (rest := []) E hC0 hS21 (m_X12_isWord l X Γ H0 hC0 h0 g0 v21 (a1 := v21.toInt) rfl ca gca uc) cw_X12_isWord cl_RX12_149 g0 ⟨rfl, rfl⟩ rfl hl.1 rfl (Nat.zero_le _) (by decide) dX12_isWall_14) hS21 (fun v22 locs22 hr22 hS22 => ?_)
  rcases hr22 with ⟨rfl, hw⟩ | ⟨rfl, hw⟩
  · have hw6 := hsp ▸ hw
    exact ret 1 H0 locs22 _ _ dX12_isWall_17 (Or.inr rfl) ⟨rfl, Or.inl ⟨rfl, (hsp ▸ hw)⟩⟩ hC0 hS22
  · have hw6 := hsp ▸ hw
    exact ret 0 H0 locs22 _ _ dX12_isWall_17 (Or.inl rfl) ⟨rfl, Or.inr ⟨rfl, (hsp ▸ hw)⟩⟩ hC0 hS22
set_option maxRecDepth 100000 in
set_option maxHeartbeats 4000000 in
theorem m_X12_testWord (l : Launch) (X : xW) (Γ : Nat → Option Nat) (H0 : Heap) (hC0 : Conf X Γ H0) (h0 : Nat) (g0 : Γ h0 = some 11) (ca : Nat) (gca : Γ ca = some 64) (uc : ∀ a, Γ a = some 64 → a = ca) : Ctr l X Γ yX12_testWord cX12_testWord 1 (some .int) 2 [.ref h0] H0 (QI X Γ (fun v H1 => H1 = H0 ∧ ((-1 ≤ v.toInt) ∧ (v.toInt ≤ 3) ∧ (0 ≤ v.toInt ↔ KPL X H0 h0 TSJ)))) := by
  refine q_enterI (own := "SnowFortsModel") (by decide) rfl (Nat.le_of_ble_eq_true rfl) ?_
  intro p e s m args below meth c ls Qz E hl ret hS0
  have hx := E.1; have hb := E.2.1
  have hl : lv_has ls 1 [(0, .ref h0)] := hl
  refine lv_aload_n hx hb dX12_testWord_0 rfl (lv_at hl 0 rfl) ?_
  refine lv_bipush (v := 100) hx hb dX12_testWord_1 rfl ?_
  refine lv_bipush (v := 97) hx hb dX12_testWord_3 rfl ?_
  refine lv_bipush (v := 121) hx hb dX12_testWord_5 rfl ?_
  refine lv_iconst (v := 0) hx hb dX12_testWord_7 rfl ?_
  refine lv_iconst (v := 0) hx hb dX12_testWord_8 rfl ?_
  refine lv_iconst (v := 0) hx hb dX12_testWord_9 rfl ?_
  refine q_goJp (q_runS (As := [.int 100, .int 97, .int 121, .int 0, .int 0, .int 0]) (rest := [.ref h0]) E hS0 (m_X12_spelled l X Γ H0 hC0 100 (a0 := 100) (by decide) 97 (a1 := 97) (by decide) 121 (a2 := 121) (by decide) 0 (a3 := 0) (by decide) 0 (a4 := 0) (by decide) 0 (a5 := 0) (by decide) (by omega) (by omega) (by omega) (by omega) (by omega) (by omega) (by omega) (by omega) (by omega) (by omega) (by omega) (by omega)) cw_X12_spelled cl_RX12_145 rfl hl.1 rfl (show _ ≤ _ from by simp [Value.category]) (by decide) dX12_testWord_10) hS0 (fun v21 locs21 hr21 hS21 => ?_)
  have f21_0 := hr21
  have hsp : v21.toInt = k3 23 := f21_0.trans (by decide +kernel)
  refine q_goIp (q_runV (As := [.long v21]) (rest := []) E hC0 hS21 (m_X12_isWord l X Γ H0 hC0 h0 g0 v21 (a1 := v21.toInt) rfl ca gca uc) cw_X12_isWord cl_RX12_149 g0 ⟨rfl, rfl⟩ rfl hl.1 rfl (Nat.zero_le _) (by decide) dX12_testWord_13) hS21 (fun v22 locs22 hr22 hS22 => ?_)
  rcases hr22 with ⟨rfl, hw⟩ | ⟨rfl, hw⟩
  · have hw23 := hsp ▸ hw
    refine q_if_eq hx hb (a := 1) (by decide) (tgt := 21) dX12_testWord_16 rfl (fun c23 => absurd c23 (by omega)) (fun c23 => ?_)
    refine lv_iconst (v := 0) hx hb dX12_testWord_19 rfl ?_
    have hst : 0 ≤ (0 : Int32).toInt ↔ KPL X H0 h0 TSJ := by have hcc : (0 : Int32).toInt = 0 := (show (0 : Int32).toInt = 0 from by decide); first | exact ⟨fun _ => ⟨23, by decide, hw23⟩, fun _ => by omega⟩ | exact ⟨fun _ => ⟨6, by decide, hw6⟩, fun _ => by omega⟩ | exact ⟨fun _ => ⟨24, by decide, hw24⟩, fun _ => by omega⟩ | exact ⟨fun _ => ⟨25, by decide, hw25⟩, fun _ => by omega⟩ | exact ⟨fun q => absurd q (by omega), fun q => absurd q (KPL.no4 hw23 hw6 hw24 hw25 rfl)⟩
    have c24 : (0 : Int32).toInt = 0 := (by decide)
    exact ret 0 H0 locs22 _ _ dX12_testWord_20 ⟨rfl, ⟨by omega, by omega, hst⟩⟩ hC0 hS22
  · have hw23 := hsp ▸ hw
    refine q_if_eq hx hb (a := 0) (by decide) (tgt := 21) dX12_testWord_16 rfl (fun c25 => ?_) (fun c25 => absurd c25 (by omega))
    refine lv_aload_n hx hb dX12_testWord_21 rfl (lv_at hl 0 rfl) ?_
    refine q_goIp (q_runV (As := []) (rest := []) E hC0 hS22 (m_X12_isWall l X Γ H0 hC0 h0 g0 ca gca uc) cw_X12_isWall cl_RX12_163 g0 ⟨rfl, rfl⟩ rfl hl.1 rfl (Nat.zero_le _) (by decide) dX12_testWord_22) hS22 (fun v26 locs26 hr26 hS26 => ?_)
    rcases hr26 with ⟨rfl, hw⟩ | ⟨rfl, hw⟩
    · have hw6 := hw
      refine q_if_eq hx hb (a := 1) (by decide) (tgt := 30) dX12_testWord_25 rfl (fun c27 => absurd c27 (by omega)) (fun c27 => ?_)
      refine lv_iconst (v := 1) hx hb dX12_testWord_28 rfl ?_
      have hst : 0 ≤ (1 : Int32).toInt ↔ KPL X H0 h0 TSJ := by have hcc : (1 : Int32).toInt = 1 := (show (1 : Int32).toInt = 1 from by decide); first | exact ⟨fun _ => ⟨23, by decide, hw23⟩, fun _ => by omega⟩ | exact ⟨fun _ => ⟨6, by decide, hw6⟩, fun _ => by omega⟩ | exact ⟨fun _ => ⟨24, by decide, hw24⟩, fun _ => by omega⟩ | exact ⟨fun _ => ⟨25, by decide, hw25⟩, fun _ => by omega⟩ | exact ⟨fun q => absurd q (by omega), fun q => absurd q (KPL.no4 hw23 hw6 hw24 hw25 rfl)⟩
      have c28 : (1 : Int32).toInt = 1 := (by decide)
      exact ret 1 H0 locs26 _ _ dX12_testWord_29 ⟨rfl, ⟨by omega, by omega, hst⟩⟩ hC0 hS26
    · have hw6 := hw
      refine q_if_eq hx hb (a := 0) (by decide) (tgt := 30) dX12_testWord_25 rfl (fun c29 => ?_) (fun c29 => absurd c29 (by omega))
      refine lv_aload_n hx hb dX12_testWord_30 rfl (lv_at hl 0 rfl) ?_
      refine lv_bipush (v := 98) hx hb dX12_testWord_31 rfl ?_
      refine lv_bipush (v := 114) hx hb dX12_testWord_33 rfl ?_
      refine lv_bipush (v := 101) hx hb dX12_testWord_35 rfl ?_
      refine lv_bipush (v := 97) hx hb dX12_testWord_37 rfl ?_
      refine lv_bipush (v := 99) hx hb dX12_testWord_39 rfl ?_
      refine lv_bipush (v := 104) hx hb dX12_testWord_41 rfl ?_
      refine q_goJp (q_runS (As := [.int 98, .int 114, .int 101, .int 97, .int 99, .int 104]) (rest := [.ref h0]) E hS26 (m_X12_spelled l X Γ H0 hC0 98 (a0 := 98) (by decide) 114 (a1 := 114) (by decide) 101 (a2 := 101) (by decide) 97 (a3 := 97) (by decide) 99 (a4 := 99) (by decide) 104 (a5 := 104) (by decide) (by omega) (by omega) (by omega) (by omega) (by omega) (by omega) (by omega) (by omega) (by omega) (by omega) (by omega) (by omega)) cw_X12_spelled cl_RX12_145 rfl hl.1 rfl (show _ ≤ _ from by simp [Value.category]) (by decide) dX12_testWord_43) hS26 (fun v30 locs30 hr30 hS30 => ?_)
      have f30_0 := hr30
      have hsp : v30.toInt = k3 24 := f30_0.trans (by decide +kernel)
      refine q_goIp (q_runV (As := [.long v30]) (rest := []) E hC0 hS30 (m_X12_isWord l X Γ H0 hC0 h0 g0 v30 (a1 := v30.toInt) rfl ca gca uc) cw_X12_isWord cl_RX12_149 g0 ⟨rfl, rfl⟩ rfl hl.1 rfl (Nat.zero_le _) (by decide) dX12_testWord_46) hS30 (fun v31 locs31 hr31 hS31 => ?_)
      rcases hr31 with ⟨rfl, hw⟩ | ⟨rfl, hw⟩
      · have hw24 := hsp ▸ hw
        refine q_if_eq hx hb (a := 1) (by decide) (tgt := 54) dX12_testWord_49 rfl (fun c32 => absurd c32 (by omega)) (fun c32 => ?_)
        refine lv_iconst (v := 2) hx hb dX12_testWord_52 rfl ?_
        have hst : 0 ≤ (2 : Int32).toInt ↔ KPL X H0 h0 TSJ := by have hcc : (2 : Int32).toInt = 2 := (show (2 : Int32).toInt = 2 from by decide); first | exact ⟨fun _ => ⟨23, by decide, hw23⟩, fun _ => by omega⟩ | exact ⟨fun _ => ⟨6, by decide, hw6⟩, fun _ => by omega⟩ | exact ⟨fun _ => ⟨24, by decide, hw24⟩, fun _ => by omega⟩ | exact ⟨fun _ => ⟨25, by decide, hw25⟩, fun _ => by omega⟩ | exact ⟨fun q => absurd q (by omega), fun q => absurd q (KPL.no4 hw23 hw6 hw24 hw25 rfl)⟩
        have c33 : (2 : Int32).toInt = 2 := (by decide)
        exact ret 2 H0 locs31 _ _ dX12_testWord_53 ⟨rfl, ⟨by omega, by omega, hst⟩⟩ hC0 hS31
      · have hw24 := hsp ▸ hw
        refine q_if_eq hx hb (a := 0) (by decide) (tgt := 54) dX12_testWord_49 rfl (fun c34 => ?_) (fun c34 => absurd c34 (by omega))
        refine lv_aload_n hx hb dX12_testWord_54 rfl (lv_at hl 0 rfl) ?_
        refine lv_bipush (v := 119) hx hb dX12_testWord_55 rfl ?_
        refine lv_bipush (v := 97) hx hb dX12_testWord_57 rfl ?_
        refine lv_bipush (v := 121) hx hb dX12_testWord_59 rfl ?_
        refine lv_iconst (v := 0) hx hb dX12_testWord_61 rfl ?_
        refine lv_iconst (v := 0) hx hb dX12_testWord_62 rfl ?_
        refine lv_iconst (v := 0) hx hb dX12_testWord_63 rfl ?_
        refine q_goJp (q_runS (As := [.int 119, .int 97, .int 121, .int 0, .int 0, .int 0]) (rest := [.ref h0]) E hS31 (m_X12_spelled l X Γ H0 hC0 119 (a0 := 119) (by decide) 97 (a1 := 97) (by decide) 121 (a2 := 121) (by decide) 0 (a3 := 0) (by decide) 0 (a4 := 0) (by decide) 0 (a5 := 0) (by decide) (by omega) (by omega) (by omega) (by omega) (by omega) (by omega) (by omega) (by omega) (by omega) (by omega) (by omega) (by omega)) cw_X12_spelled cl_RX12_145 rfl hl.1 rfl (show _ ≤ _ from by simp [Value.category]) (by decide) dX12_testWord_64) hS31 (fun v35 locs35 hr35 hS35 => ?_)
        have f35_0 := hr35
        have hsp : v35.toInt = k3 25 := f35_0.trans (by decide +kernel)
        refine q_goIp (q_runV (As := [.long v35]) (rest := []) E hC0 hS35 (m_X12_isWord l X Γ H0 hC0 h0 g0 v35 (a1 := v35.toInt) rfl ca gca uc) cw_X12_isWord cl_RX12_149 g0 ⟨rfl, rfl⟩ rfl hl.1 rfl (Nat.zero_le _) (by decide) dX12_testWord_67) hS35 (fun v36 locs36 hr36 hS36 => ?_)
        rcases hr36 with ⟨rfl, hw⟩ | ⟨rfl, hw⟩
        · have hw25 := hsp ▸ hw
          refine q_if_eq hx hb (a := 1) (by decide) (tgt := 77) dX12_testWord_70 rfl (fun c37 => absurd c37 (by omega)) (fun c37 => ?_)
          refine lv_iconst (v := 3) hx hb dX12_testWord_73 rfl ?_
          refine lv_goto (tgt := 78) hx hb dX12_testWord_74 rfl ?_
          have hst : 0 ≤ (3 : Int32).toInt ↔ KPL X H0 h0 TSJ := by have hcc : (3 : Int32).toInt = 3 := (show (3 : Int32).toInt = 3 from by decide); first | exact ⟨fun _ => ⟨23, by decide, hw23⟩, fun _ => by omega⟩ | exact ⟨fun _ => ⟨6, by decide, hw6⟩, fun _ => by omega⟩ | exact ⟨fun _ => ⟨24, by decide, hw24⟩, fun _ => by omega⟩ | exact ⟨fun _ => ⟨25, by decide, hw25⟩, fun _ => by omega⟩ | exact ⟨fun q => absurd q (by omega), fun q => absurd q (KPL.no4 hw23 hw6 hw24 hw25 rfl)⟩
          have c38 : (3 : Int32).toInt = 3 := (by decide)
          exact ret 3 H0 locs36 _ _ dX12_testWord_78 ⟨rfl, ⟨by omega, by omega, hst⟩⟩ hC0 hS36
        · have hw25 := hsp ▸ hw
          refine q_if_eq hx hb (a := 0) (by decide) (tgt := 77) dX12_testWord_70 rfl (fun c39 => ?_) (fun c39 => absurd c39 (by omega))
          refine lv_iconst (v := (-1)) hx hb dX12_testWord_77 rfl ?_
          have hst : 0 ≤ ((-1) : Int32).toInt ↔ KPL X H0 h0 TSJ := by have hcc : ((-1) : Int32).toInt = (-1) := (show ((-1) : Int32).toInt = (-1) from by decide); first | exact ⟨fun _ => ⟨23, by decide, hw23⟩, fun _ => by omega⟩ | exact ⟨fun _ => ⟨6, by decide, hw6⟩, fun _ => by omega⟩ | exact ⟨fun _ => ⟨24, by decide, hw24⟩, fun _ => by omega⟩ | exact ⟨fun _ => ⟨25, by decide, hw25⟩, fun _ => by omega⟩ | exact ⟨fun q => absurd q (by omega), fun q => absurd q (KPL.no4 hw23 hw6 hw24 hw25 rfl)⟩
          have c40 : ((-1) : Int32).toInt = (-1) := (by decide)
          exact ret (-1) H0 locs36 _ _ dX12_testWord_78 ⟨rfl, ⟨by omega, by omega, hst⟩⟩ hC0 hS36
set_option maxRecDepth 100000 in
set_option maxHeartbeats 4000000 in
theorem m_X12_isEnd (l : Launch) (X : xW) (Γ : Nat → Option Nat) (H0 : Heap) (hC0 : Conf X Γ H0) (h0 : Nat) (g0 : Γ h0 = some 11) (ca : Nat) (gca : Γ ca = some 64) (uc : ∀ a, Γ a = some 64 → a = ca) : Ctr l X Γ yX12_isEnd cX12_isEnd 1 (some .boolean) 1 [.ref h0] H0 (QI X Γ (fun v H1 => H1 = H0 ∧ ((v = 1 ∧ (WDM X H0 h0 (k3 27))) ∨ (v = 0 ∧ (¬ WDM X H0 h0 (k3 27)))))) := by
  refine q_enterZ (own := "SnowFortsModel") (by decide) rfl (Nat.le_of_ble_eq_true rfl) ?_
  intro p e s m args below meth c ls Qz E hl ret hS0
  have hx := E.1; have hb := E.2.1
  have hl : lv_has ls 1 [(0, .ref h0)] := hl
  refine lv_aload_n hx hb dX12_isEnd_0 rfl (lv_at hl 0 rfl) ?_
  refine lv_bipush (v := 101) hx hb dX12_isEnd_1 rfl ?_
  refine lv_bipush (v := 110) hx hb dX12_isEnd_3 rfl ?_
  refine lv_bipush (v := 100) hx hb dX12_isEnd_5 rfl ?_
  refine lv_iconst (v := 0) hx hb dX12_isEnd_7 rfl ?_
  refine lv_iconst (v := 0) hx hb dX12_isEnd_8 rfl ?_
  refine lv_iconst (v := 0) hx hb dX12_isEnd_9 rfl ?_
  refine q_goJp (q_runS (As := [.int 101, .int 110, .int 100, .int 0, .int 0, .int 0]) (rest := [.ref h0]) E hS0 (m_X12_spelled l X Γ H0 hC0 101 (a0 := 101) (by decide) 110 (a1 := 110) (by decide) 100 (a2 := 100) (by decide) 0 (a3 := 0) (by decide) 0 (a4 := 0) (by decide) 0 (a5 := 0) (by decide) (by omega) (by omega) (by omega) (by omega) (by omega) (by omega) (by omega) (by omega) (by omega) (by omega) (by omega) (by omega)) cw_X12_spelled cl_RX12_145 rfl hl.1 rfl (show _ ≤ _ from by simp [Value.category]) (by decide) dX12_isEnd_10) hS0 (fun v21 locs21 hr21 hS21 => ?_)
  have f21_0 := hr21
  have hsp : v21.toInt = k3 27 := f21_0.trans (by decide +kernel)
  refine q_goIp (q_runV (As := [.long v21]) (rest := []) E hC0 hS21 (m_X12_isWord l X Γ H0 hC0 h0 g0 v21 (a1 := v21.toInt) rfl ca gca uc) cw_X12_isWord cl_RX12_149 g0 ⟨rfl, rfl⟩ rfl hl.1 rfl (Nat.zero_le _) (by decide) dX12_isEnd_13) hS21 (fun v22 locs22 hr22 hS22 => ?_)
  rcases hr22 with ⟨rfl, hw⟩ | ⟨rfl, hw⟩
  · have hw27 := hsp ▸ hw
    exact ret 1 H0 locs22 _ _ dX12_isEnd_16 (Or.inr rfl) ⟨rfl, Or.inl ⟨rfl, (hsp ▸ hw)⟩⟩ hC0 hS22
  · have hw27 := hsp ▸ hw
    exact ret 0 H0 locs22 _ _ dX12_isEnd_16 (Or.inl rfl) ⟨rfl, Or.inr ⟨rfl, (hsp ▸ hw)⟩⟩ hC0 hS22
set_option maxRecDepth 100000 in
set_option maxHeartbeats 4000000 in
theorem m_X12_isKept (l : Launch) (X : xW) (Γ : Nat → Option Nat) (H0 : Heap) (hC0 : Conf X Γ H0) (h0 : Nat) (g0 : Γ h0 = some 11) (ca : Nat) (gca : Γ ca = some 64) (uc : ∀ a, Γ a = some 64 → a = ca) : Ctr l X Γ yX12_isKept cX12_isKept 1 (some .boolean) 3 [.ref h0] H0 (QI X Γ (fun v H1 => H1 = H0 ∧ ((v = 1 ∧ (KPM X H0 h0)) ∨ (v = 0 ∧ (¬ KPM X H0 h0))))) := by
  refine q_enterZ (own := "SnowFortsModel") (by decide) rfl (Nat.le_of_ble_eq_true rfl) ?_
  intro p e s m args below meth c ls Qz E hl ret hS0
  have hx := E.1; have hb := E.2.1
  have hl : lv_has ls 1 [(0, .ref h0)] := hl
  refine lv_aload_n hx hb dX12_isKept_0 rfl (lv_at hl 0 rfl) ?_
  refine q_goIp (q_runV (As := []) (rest := []) E hC0 hS0 (m_X12_isWide l X Γ H0 hC0 h0 g0 ca gca uc) cw_X12_isWide cl_RX12_166 g0 ⟨rfl, rfl⟩ rfl hl.1 rfl (Nat.zero_le _) (by decide) dX12_isKept_1) hS0 (fun v21 locs21 hr21 hS21 => ?_)
  rcases hr21 with ⟨rfl, hw⟩ | ⟨rfl, hw⟩
  · have hw0 := hw
    refine q_if_ne hx hb (a := 1) (by decide) (tgt := 84) dX12_isKept_4 rfl (fun c22 => ?_) (fun c22 => absurd c22 (by omega))
    refine lv_iconst (v := 1) hx hb dX12_isKept_84 rfl ?_
    exact ret 1 H0 locs21 _ _ dX12_isKept_85 (Or.inr rfl) ⟨rfl, Or.inl ⟨rfl, (by first | exact ⟨_, (by decide), hw⟩ | exact KPL.kp (hs1.mp (by omega)) (by decide) | exact KPL.kp (hs2.mp (by omega)) (by decide))⟩⟩ hC0 hS21
  · have hw0 := hw
    refine q_if_ne hx hb (a := 0) (by decide) (tgt := 84) dX12_isKept_4 rfl (fun c23 => absurd c23 (by omega)) (fun c23 => ?_)
    refine lv_aload_n hx hb dX12_isKept_7 rfl (lv_at hl 0 rfl) ?_
    refine q_goIp (q_runV (As := []) (rest := []) E hC0 hS21 (m_X12_isHigh l X Γ H0 hC0 h0 g0 ca gca uc) cw_X12_isHigh cl_RX12_169 g0 ⟨rfl, rfl⟩ rfl hl.1 rfl (Nat.zero_le _) (by decide) dX12_isKept_8) hS21 (fun v24 locs24 hr24 hS24 => ?_)
    rcases hr24 with ⟨rfl, hw⟩ | ⟨rfl, hw⟩
    · have hw1 := hw
      refine q_if_ne hx hb (a := 1) (by decide) (tgt := 84) dX12_isKept_11 rfl (fun c25 => ?_) (fun c25 => absurd c25 (by omega))
      refine lv_iconst (v := 1) hx hb dX12_isKept_84 rfl ?_
      exact ret 1 H0 locs24 _ _ dX12_isKept_85 (Or.inr rfl) ⟨rfl, Or.inl ⟨rfl, (by first | exact ⟨_, (by decide), hw⟩ | exact KPL.kp (hs1.mp (by omega)) (by decide) | exact KPL.kp (hs2.mp (by omega)) (by decide))⟩⟩ hC0 hS24
    · have hw1 := hw
      refine q_if_ne hx hb (a := 0) (by decide) (tgt := 84) dX12_isKept_11 rfl (fun c26 => absurd c26 (by omega)) (fun c26 => ?_)
      refine lv_aload_n hx hb dX12_isKept_14 rfl (lv_at hl 0 rfl) ?_
      refine q_goIp (q_runV (As := []) (rest := []) E hC0 hS24 (m_X12_isSchool l X Γ H0 hC0 h0 g0 ca gca uc) cw_X12_isSchool cl_RX12_172 g0 ⟨rfl, rfl⟩ rfl hl.1 rfl (Nat.zero_le _) (by decide) dX12_isKept_15) hS24 (fun v27 locs27 hr27 hS27 => ?_)
      rcases hr27 with ⟨rfl, hw⟩ | ⟨rfl, hw⟩
      · have hw2 := hw
        refine q_if_ne hx hb (a := 1) (by decide) (tgt := 84) dX12_isKept_18 rfl (fun c28 => ?_) (fun c28 => absurd c28 (by omega))
        refine lv_iconst (v := 1) hx hb dX12_isKept_84 rfl ?_
        exact ret 1 H0 locs27 _ _ dX12_isKept_85 (Or.inr rfl) ⟨rfl, Or.inl ⟨rfl, (by first | exact ⟨_, (by decide), hw⟩ | exact KPL.kp (hs1.mp (by omega)) (by decide) | exact KPL.kp (hs2.mp (by omega)) (by decide))⟩⟩ hC0 hS27
      · have hw2 := hw
        refine q_if_ne hx hb (a := 0) (by decide) (tgt := 84) dX12_isKept_18 rfl (fun c29 => absurd c29 (by omega)) (fun c29 => ?_)
        refine lv_aload_n hx hb dX12_isKept_21 rfl (lv_at hl 0 rfl) ?_
        refine q_goIp (q_runV (As := []) (rest := []) E hC0 hS27 (m_X12_isHands l X Γ H0 hC0 h0 g0 ca gca uc) cw_X12_isHands cl_RX12_175 g0 ⟨rfl, rfl⟩ rfl hl.1 rfl (Nat.zero_le _) (by decide) dX12_isKept_22) hS27 (fun v30 locs30 hr30 hS30 => ?_)
        rcases hr30 with ⟨rfl, hw⟩ | ⟨rfl, hw⟩
        · have hw3 := hw
          refine q_if_ne hx hb (a := 1) (by decide) (tgt := 84) dX12_isKept_25 rfl (fun c31 => ?_) (fun c31 => absurd c31 (by omega))
          refine lv_iconst (v := 1) hx hb dX12_isKept_84 rfl ?_
          exact ret 1 H0 locs30 _ _ dX12_isKept_85 (Or.inr rfl) ⟨rfl, Or.inl ⟨rfl, (by first | exact ⟨_, (by decide), hw⟩ | exact KPL.kp (hs1.mp (by omega)) (by decide) | exact KPL.kp (hs2.mp (by omega)) (by decide))⟩⟩ hC0 hS30
        · have hw3 := hw
          refine q_if_ne hx hb (a := 0) (by decide) (tgt := 84) dX12_isKept_25 rfl (fun c32 => absurd c32 (by omega)) (fun c32 => ?_)
          refine lv_aload_n hx hb dX12_isKept_28 rfl (lv_at hl 0 rfl) ?_
          refine q_goIp (q_runV (As := []) (rest := []) E hC0 hS30 (m_X12_isSnow l X Γ H0 hC0 h0 g0 ca gca uc) cw_X12_isSnow cl_RX12_178 g0 ⟨rfl, rfl⟩ rfl hl.1 rfl (Nat.zero_le _) (by decide) dX12_isKept_29) hS30 (fun v33 locs33 hr33 hS33 => ?_)
          rcases hr33 with ⟨rfl, hw⟩ | ⟨rfl, hw⟩
          · have hw4 := hw
            refine q_if_ne hx hb (a := 1) (by decide) (tgt := 84) dX12_isKept_32 rfl (fun c34 => ?_) (fun c34 => absurd c34 (by omega))
            refine lv_iconst (v := 1) hx hb dX12_isKept_84 rfl ?_
            exact ret 1 H0 locs33 _ _ dX12_isKept_85 (Or.inr rfl) ⟨rfl, Or.inl ⟨rfl, (by first | exact ⟨_, (by decide), hw⟩ | exact KPL.kp (hs1.mp (by omega)) (by decide) | exact KPL.kp (hs2.mp (by omega)) (by decide))⟩⟩ hC0 hS33
          · have hw4 := hw
            refine q_if_ne hx hb (a := 0) (by decide) (tgt := 84) dX12_isKept_32 rfl (fun c35 => absurd c35 (by omega)) (fun c35 => ?_)
            refine lv_aload_n hx hb dX12_isKept_35 rfl (lv_at hl 0 rfl) ?_
            refine q_goIp (q_runV (As := []) (rest := []) E hC0 hS33 (m_X12_isDeep l X Γ H0 hC0 h0 g0 ca gca uc) cw_X12_isDeep cl_RX12_181 g0 ⟨rfl, rfl⟩ rfl hl.1 rfl (Nat.zero_le _) (by decide) dX12_isKept_36) hS33 (fun v36 locs36 hr36 hS36 => ?_)
            rcases hr36 with ⟨rfl, hw⟩ | ⟨rfl, hw⟩
            · have hw5 := hw
              refine q_if_ne hx hb (a := 1) (by decide) (tgt := 84) dX12_isKept_39 rfl (fun c37 => ?_) (fun c37 => absurd c37 (by omega))
              refine lv_iconst (v := 1) hx hb dX12_isKept_84 rfl ?_
              exact ret 1 H0 locs36 _ _ dX12_isKept_85 (Or.inr rfl) ⟨rfl, Or.inl ⟨rfl, (by first | exact ⟨_, (by decide), hw⟩ | exact KPL.kp (hs1.mp (by omega)) (by decide) | exact KPL.kp (hs2.mp (by omega)) (by decide))⟩⟩ hC0 hS36
            · have hw5 := hw
              refine q_if_ne hx hb (a := 0) (by decide) (tgt := 84) dX12_isKept_39 rfl (fun c38 => absurd c38 (by omega)) (fun c38 => ?_)
              refine lv_aload_n hx hb dX12_isKept_42 rfl (lv_at hl 0 rfl) ?_
              refine q_goIp (q_runV (As := []) (rest := []) E hC0 hS36 (m_X12_isTall l X Γ H0 hC0 h0 g0 ca gca uc) cw_X12_isTall cl_RX12_184 g0 ⟨rfl, rfl⟩ rfl hl.1 rfl (Nat.zero_le _) (by decide) dX12_isKept_43) hS36 (fun v39 locs39 hr39 hS39 => ?_)
              rcases hr39 with ⟨rfl, hw⟩ | ⟨rfl, hw⟩
              · have hw7 := hw
                refine q_if_ne hx hb (a := 1) (by decide) (tgt := 84) dX12_isKept_46 rfl (fun c40 => ?_) (fun c40 => absurd c40 (by omega))
                refine lv_iconst (v := 1) hx hb dX12_isKept_84 rfl ?_
                exact ret 1 H0 locs39 _ _ dX12_isKept_85 (Or.inr rfl) ⟨rfl, Or.inl ⟨rfl, (by first | exact ⟨_, (by decide), hw⟩ | exact KPL.kp (hs1.mp (by omega)) (by decide) | exact KPL.kp (hs2.mp (by omega)) (by decide))⟩⟩ hC0 hS39
              · have hw7 := hw
                refine q_if_ne hx hb (a := 0) (by decide) (tgt := 84) dX12_isKept_46 rfl (fun c41 => absurd c41 (by omega)) (fun c41 => ?_)
                refine lv_aload_n hx hb dX12_isKept_49 rfl (lv_at hl 0 rfl) ?_
                refine q_goIp (q_runV (As := []) (rest := []) E hC0 hS39 (m_X12_isSun l X Γ H0 hC0 h0 g0 ca gca uc) cw_X12_isSun cl_RX12_187 g0 ⟨rfl, rfl⟩ rfl hl.1 rfl (Nat.zero_le _) (by decide) dX12_isKept_50) hS39 (fun v42 locs42 hr42 hS42 => ?_)
                rcases hr42 with ⟨rfl, hw⟩ | ⟨rfl, hw⟩
                · have hw8 := hw
                  refine q_if_ne hx hb (a := 1) (by decide) (tgt := 84) dX12_isKept_53 rfl (fun c43 => ?_) (fun c43 => absurd c43 (by omega))
                  refine lv_iconst (v := 1) hx hb dX12_isKept_84 rfl ?_
                  exact ret 1 H0 locs42 _ _ dX12_isKept_85 (Or.inr rfl) ⟨rfl, Or.inl ⟨rfl, (by first | exact ⟨_, (by decide), hw⟩ | exact KPL.kp (hs1.mp (by omega)) (by decide) | exact KPL.kp (hs2.mp (by omega)) (by decide))⟩⟩ hC0 hS42
                · have hw8 := hw
                  refine q_if_ne hx hb (a := 0) (by decide) (tgt := 84) dX12_isKept_53 rfl (fun c44 => absurd c44 (by omega)) (fun c44 => ?_)
                  refine lv_aload_n hx hb dX12_isKept_56 rfl (lv_at hl 0 rfl) ?_
                  refine q_goIp (q_runV (As := []) (rest := []) E hC0 hS42 (m_X12_isBy l X Γ H0 hC0 h0 g0 ca gca uc) cw_X12_isBy cl_RX12_190 g0 ⟨rfl, rfl⟩ rfl hl.1 rfl (Nat.zero_le _) (by decide) dX12_isKept_57) hS42 (fun v45 locs45 hr45 hS45 => ?_)
                  rcases hr45 with ⟨rfl, hw⟩ | ⟨rfl, hw⟩
                  · have hw9 := hw
                    refine q_if_ne hx hb (a := 1) (by decide) (tgt := 84) dX12_isKept_60 rfl (fun c46 => ?_) (fun c46 => absurd c46 (by omega))
                    refine lv_iconst (v := 1) hx hb dX12_isKept_84 rfl ?_
                    exact ret 1 H0 locs45 _ _ dX12_isKept_85 (Or.inr rfl) ⟨rfl, Or.inl ⟨rfl, (by first | exact ⟨_, (by decide), hw⟩ | exact KPL.kp (hs1.mp (by omega)) (by decide) | exact KPL.kp (hs2.mp (by omega)) (by decide))⟩⟩ hC0 hS45
                  · have hw9 := hw
                    refine q_if_ne hx hb (a := 0) (by decide) (tgt := 84) dX12_isKept_60 rfl (fun c47 => absurd c47 (by omega)) (fun c47 => ?_)
                    refine lv_aload_n hx hb dX12_isKept_63 rfl (lv_at hl 0 rfl) ?_
                    refine q_goIp (q_runV (As := []) (rest := []) E hC0 hS45 (m_X12_isNo l X Γ H0 hC0 h0 g0 ca gca uc) cw_X12_isNo cl_RX12_193 g0 ⟨rfl, rfl⟩ rfl hl.1 rfl (Nat.zero_le _) (by decide) dX12_isKept_64) hS45 (fun v48 locs48 hr48 hS48 => ?_)
                    rcases hr48 with ⟨rfl, hw⟩ | ⟨rfl, hw⟩
                    · have hw10 := hw
                      refine q_if_ne hx hb (a := 1) (by decide) (tgt := 84) dX12_isKept_67 rfl (fun c49 => ?_) (fun c49 => absurd c49 (by omega))
                      refine lv_iconst (v := 1) hx hb dX12_isKept_84 rfl ?_
                      exact ret 1 H0 locs48 _ _ dX12_isKept_85 (Or.inr rfl) ⟨rfl, Or.inl ⟨rfl, (by first | exact ⟨_, (by decide), hw⟩ | exact KPL.kp (hs1.mp (by omega)) (by decide) | exact KPL.kp (hs2.mp (by omega)) (by decide))⟩⟩ hC0 hS48
                    · have hw10 := hw
                      refine q_if_ne hx hb (a := 0) (by decide) (tgt := 84) dX12_isKept_67 rfl (fun c50 => absurd c50 (by omega)) (fun c50 => ?_)
                      refine lv_aload_n hx hb dX12_isKept_70 rfl (lv_at hl 0 rfl) ?_
                      refine q_goIp (q_runV (As := []) (rest := []) E hC0 hS48 (m_X12_isAbove l X Γ H0 hC0 h0 g0 ca gca uc) cw_X12_isAbove cl_RX12_196 g0 ⟨rfl, rfl⟩ rfl hl.1 rfl (Nat.zero_le _) (by decide) dX12_isKept_71) hS48 (fun v51 locs51 hr51 hS51 => ?_)
                      rcases hr51 with ⟨rfl, hw⟩ | ⟨rfl, hw⟩
                      · have hw11 := hw
                        refine q_if_ne hx hb (a := 1) (by decide) (tgt := 84) dX12_isKept_74 rfl (fun c52 => ?_) (fun c52 => absurd c52 (by omega))
                        refine lv_iconst (v := 1) hx hb dX12_isKept_84 rfl ?_
                        exact ret 1 H0 locs51 _ _ dX12_isKept_85 (Or.inr rfl) ⟨rfl, Or.inl ⟨rfl, (by first | exact ⟨_, (by decide), hw⟩ | exact KPL.kp (hs1.mp (by omega)) (by decide) | exact KPL.kp (hs2.mp (by omega)) (by decide))⟩⟩ hC0 hS51
                      · have hw11 := hw
                        refine q_if_ne hx hb (a := 0) (by decide) (tgt := 84) dX12_isKept_74 rfl (fun c53 => absurd c53 (by omega)) (fun c53 => ?_)
                        refine lv_aload_n hx hb dX12_isKept_77 rfl (lv_at hl 0 rfl) ?_
                        refine q_goIp (q_runV (As := []) (rest := []) E hC0 hS51 (m_X12_isBehind l X Γ H0 hC0 h0 g0 ca gca uc) cw_X12_isBehind cl_RX12_199 g0 ⟨rfl, rfl⟩ rfl hl.1 rfl (Nat.zero_le _) (by decide) dX12_isKept_78) hS51 (fun v54 locs54 hr54 hS54 => ?_)
                        rcases hr54 with ⟨rfl, hw⟩ | ⟨rfl, hw⟩
                        · have hw13 := hw
                          refine q_if_eq hx hb (a := 1) (by decide) (tgt := 86) dX12_isKept_81 rfl (fun c55 => absurd c55 (by omega)) (fun c55 => ?_)
                          refine lv_iconst (v := 1) hx hb dX12_isKept_84 rfl ?_
                          exact ret 1 H0 locs54 _ _ dX12_isKept_85 (Or.inr rfl) ⟨rfl, Or.inl ⟨rfl, (by first | exact ⟨_, (by decide), hw⟩ | exact KPL.kp (hs1.mp (by omega)) (by decide) | exact KPL.kp (hs2.mp (by omega)) (by decide))⟩⟩ hC0 hS54
                        · have hw13 := hw
                          refine q_if_eq hx hb (a := 0) (by decide) (tgt := 86) dX12_isKept_81 rfl (fun c56 => ?_) (fun c56 => absurd c56 (by omega))
                          refine lv_aload_n hx hb dX12_isKept_86 rfl (lv_at hl 0 rfl) ?_
                          refine q_goIp (q_runV (As := []) (rest := []) E hC0 hS54 (m_X12_isTo l X Γ H0 hC0 h0 g0 ca gca uc) cw_X12_isTo cl_RX12_202 g0 ⟨rfl, rfl⟩ rfl hl.1 rfl (Nat.zero_le _) (by decide) dX12_isKept_87) hS54 (fun v57 locs57 hr57 hS57 => ?_)
                          rcases hr57 with ⟨rfl, hw⟩ | ⟨rfl, hw⟩
                          · have hw19 := hw
                            refine q_if_ne hx hb (a := 1) (by decide) (tgt := 121) dX12_isKept_90 rfl (fun c58 => ?_) (fun c58 => absurd c58 (by omega))
                            refine lv_iconst (v := 1) hx hb dX12_isKept_121 rfl ?_
                            refine lv_goto (tgt := 126) hx hb dX12_isKept_122 rfl ?_
                            exact ret 1 H0 locs57 _ _ dX12_isKept_126 (Or.inr rfl) ⟨rfl, Or.inl ⟨rfl, (by first | exact ⟨_, (by decide), hw⟩ | exact KPL.kp (hs1.mp (by omega)) (by decide) | exact KPL.kp (hs2.mp (by omega)) (by decide))⟩⟩ hC0 hS57
                          · have hw19 := hw
                            refine q_if_ne hx hb (a := 0) (by decide) (tgt := 121) dX12_isKept_90 rfl (fun c59 => absurd c59 (by omega)) (fun c59 => ?_)
                            refine lv_aload_n hx hb dX12_isKept_93 rfl (lv_at hl 0 rfl) ?_
                            refine q_goIp (q_runV (As := []) (rest := []) E hC0 hS57 (m_X12_isFrom l X Γ H0 hC0 h0 g0 ca gca uc) cw_X12_isFrom cl_RX12_205 g0 ⟨rfl, rfl⟩ rfl hl.1 rfl (Nat.zero_le _) (by decide) dX12_isKept_94) hS57 (fun v60 locs60 hr60 hS60 => ?_)
                            rcases hr60 with ⟨rfl, hw⟩ | ⟨rfl, hw⟩
                            · have hw21 := hw
                              refine q_if_ne hx hb (a := 1) (by decide) (tgt := 121) dX12_isKept_97 rfl (fun c61 => ?_) (fun c61 => absurd c61 (by omega))
                              refine lv_iconst (v := 1) hx hb dX12_isKept_121 rfl ?_
                              refine lv_goto (tgt := 126) hx hb dX12_isKept_122 rfl ?_
                              exact ret 1 H0 locs60 _ _ dX12_isKept_126 (Or.inr rfl) ⟨rfl, Or.inl ⟨rfl, (by first | exact ⟨_, (by decide), hw⟩ | exact KPL.kp (hs1.mp (by omega)) (by decide) | exact KPL.kp (hs2.mp (by omega)) (by decide))⟩⟩ hC0 hS60
                            · have hw21 := hw
                              refine q_if_ne hx hb (a := 0) (by decide) (tgt := 121) dX12_isKept_97 rfl (fun c62 => absurd c62 (by omega)) (fun c62 => ?_)
                              refine lv_aload_n hx hb dX12_isKept_100 rfl (lv_at hl 0 rfl) ?_
                              refine q_goIp (q_runV (As := []) (rest := []) E hC0 hS60 (m_X12_stepWord l X Γ H0 hC0 h0 g0 ca gca uc) cw_X12_stepWord cl_RX12_208 g0 ⟨rfl, rfl⟩ rfl hl.1 rfl (Nat.zero_le _) (by decide) dX12_isKept_101) hS60 (fun v63 locs63 hr63 hS63 => ?_)
                              obtain ⟨f63_0, f63_1, f63_2⟩ := hr63
                              have hs1 := f63_2
                              refine q_if_ge hx hb (a := v63.toInt) rfl (tgt := 121) dX12_isKept_104 rfl (fun c64 => ?_) (fun c64 => ?_)
                              · refine lv_iconst (v := 1) hx hb dX12_isKept_121 rfl ?_
                                refine lv_goto (tgt := 126) hx hb dX12_isKept_122 rfl ?_
                                exact ret 1 H0 locs63 _ _ dX12_isKept_126 (Or.inr rfl) ⟨rfl, Or.inl ⟨rfl, (by first | exact ⟨_, (by decide), hw⟩ | exact KPL.kp (hs1.mp (by omega)) (by decide) | exact KPL.kp (hs2.mp (by omega)) (by decide))⟩⟩ hC0 hS63
                              · refine lv_aload_n hx hb dX12_isKept_107 rfl (lv_at hl 0 rfl) ?_
                                refine q_goIp (q_runV (As := []) (rest := []) E hC0 hS63 (m_X12_testWord l X Γ H0 hC0 h0 g0 ca gca uc) cw_X12_testWord cl_RX12_212 g0 ⟨rfl, rfl⟩ rfl hl.1 rfl (Nat.zero_le _) (by decide) dX12_isKept_108) hS63 (fun v65 locs65 hr65 hS65 => ?_)
                                obtain ⟨f65_0, f65_1, f65_2⟩ := hr65
                                have hs2 := f65_2
                                refine q_if_ge hx hb (a := v65.toInt) rfl (tgt := 121) dX12_isKept_111 rfl (fun c66 => ?_) (fun c66 => ?_)
                                · refine lv_iconst (v := 1) hx hb dX12_isKept_121 rfl ?_
                                  refine lv_goto (tgt := 126) hx hb dX12_isKept_122 rfl ?_
                                  exact ret 1 H0 locs65 _ _ dX12_isKept_126 (Or.inr rfl) ⟨rfl, Or.inl ⟨rfl, (by first | exact ⟨_, (by decide), hw⟩ | exact KPL.kp (hs1.mp (by omega)) (by decide) | exact KPL.kp (hs2.mp (by omega)) (by decide))⟩⟩ hC0 hS65
                                · refine lv_aload_n hx hb dX12_isKept_114 rfl (lv_at hl 0 rfl) ?_
                                  refine q_goIp (q_runV (As := []) (rest := []) E hC0 hS65 (m_X12_isEnd l X Γ H0 hC0 h0 g0 ca gca uc) cw_X12_isEnd cl_RX12_215 g0 ⟨rfl, rfl⟩ rfl hl.1 rfl (Nat.zero_le _) (by decide) dX12_isKept_115) hS65 (fun v67 locs67 hr67 hS67 => ?_)
                                  rcases hr67 with ⟨rfl, hw⟩ | ⟨rfl, hw⟩
                                  · have hw27 := hw
                                    refine q_if_eq hx hb (a := 1) (by decide) (tgt := 125) dX12_isKept_118 rfl (fun c68 => absurd c68 (by omega)) (fun c68 => ?_)
                                    refine lv_iconst (v := 1) hx hb dX12_isKept_121 rfl ?_
                                    refine lv_goto (tgt := 126) hx hb dX12_isKept_122 rfl ?_
                                    exact ret 1 H0 locs67 _ _ dX12_isKept_126 (Or.inr rfl) ⟨rfl, Or.inl ⟨rfl, (by first | exact ⟨_, (by decide), hw⟩ | exact KPL.kp (hs1.mp (by omega)) (by decide) | exact KPL.kp (hs2.mp (by omega)) (by decide))⟩⟩ hC0 hS67
                                  · have hw27 := hw
                                    refine q_if_eq hx hb (a := 0) (by decide) (tgt := 125) dX12_isKept_118 rfl (fun c69 => ?_) (fun c69 => absurd c69 (by omega))
                                    refine lv_iconst (v := 0) hx hb dX12_isKept_125 rfl ?_
                                    exact ret 0 H0 locs67 _ _ dX12_isKept_126 (Or.inl rfl) ⟨rfl, Or.inr ⟨rfl, (KPM.not (fun j hj => by simp only [List.mem_cons, List.not_mem_nil, or_false] at hj; rcases hj with rfl | rfl | rfl | rfl | rfl | rfl | rfl | rfl | rfl | rfl | rfl | rfl | rfl | rfl | rfl; exact hw0; exact hw1; exact hw2; exact hw3; exact hw4; exact hw5; exact hw7; exact hw8; exact hw9; exact hw10; exact hw11; exact hw13; exact hw19; exact hw21; exact hw27) (fun q => absurd (hs1.mpr q) (by omega)) (fun q => absurd (hs2.mpr q) (by omega)))⟩⟩ hC0 hS67
set_option maxRecDepth 100000 in
set_option maxHeartbeats 4000000 in
theorem m_X12_readSchool (l : Launch) (X : xW) (Γ : Nat → Option Nat) (H0 : Heap) (hC0 : Conf X Γ H0) (h0 : Nat) (g0 : Γ h0 = some 11) (ca : Nat) (gca : Γ ca = some 64) (uc : ∀ a, Γ a = some 64 → a = ca) (tq : Nat) (htq : sR H0 h0 (X.1.2 11 7) = some tq) (gtq : Γ tq = some 63) (kd vl w3 : Nat → Int) (pos : Nat → Nat) (N i : Nat) (S : YSt) (mc : MC X H0 h0 tq kd vl w3 pos N i) (ym : YSM X Γ H0 h0 ca kd vl w3 N S) (r0 : (sI H0 h0 (X.1.2 11 12)).toInt = 0) (r1 : okW kd vl 2 i) : Ctr l X Γ yX12_readSchool cX12_readSchool 2 none 4 [.ref h0] H0 (QV X Γ (fun H1 => Kp X Γ [1, 6, 7, 8, 9, 10, 11, 12, 14, 16, 17, 19, 22, 24, 26, 28, 30, 38] H0 H1 ∧ (((sI H0 h0 (X.1.2 11 16)).toInt ≤ (sI H1 h0 (X.1.2 11 16)).toInt) ∧ ((sI H0 h0 (X.1.2 11 16)).toInt < (sI H1 h0 (X.1.2 11 16)).toInt + tk (sI H1 h0 (X.1.2 11 14)).toInt + 2000 * (sI H1 h0 (X.1.2 11 12)).toInt) ∧ ((sI H0 h0 (X.1.2 11 12)).toInt ≤ 7 * (sI H1 h0 (X.1.2 11 12)).toInt) ∧ (0 ≤ (sI H1 h0 (X.1.2 11 12)).toInt) ∧ (((sI H1 h0 (X.1.2 11 12)).toInt = 0 ∧ ∃ (S1 : YSt) (i1 : Nat), gSchool kd vl S i S1 i1 ∧ MC X H1 h0 tq kd vl w3 pos N i1 ∧ YSM X Γ H1 h0 ca kd vl w3 N S1) ∨ ((sI H1 h0 (X.1.2 11 12)).toInt ≠ 0 ∧ ∀ (S1 : YSt) (i1 : Nat), ¬ gSchool kd vl S i S1 i1))))) := by
  refine q_enterV (own := "SnowFortsModel") (by decide) rfl (Nat.le_of_ble_eq_true rfl) ?_
  intro p e s m args below meth c ls Qz E hl ret hS0
  have hx := E.1; have hb := E.2.1
  have hKp0 : Kp X Γ [1, 6, 7, 8, 9, 10, 11, 12, 14, 16, 17, 19, 22, 24, 26, 28, 30, 38] H0 H0 := Kp.rf
  have hl : lv_has ls 2 [(0, .ref h0)] := hl
  have hz1 := f_bd hC0 g0 (ci := 11) (k := 16) rfl rfl
  have hz2 := f_bd hC0 g0 (ci := 11) (k := 12) rfl rfl
  have y30 := ym.2.2.1; have y40 := ym.2.2.2.1
  refine lv_aload_n hx hb dX12_readSchool_0 rfl (lv_at hl 0 rfl) ?_
  refine q_getC E hC0 g0 fa_RX12_35 uc dX12_readSchool_1 ?_
  refine lv_sipush (v := 2082) hx hb dX12_readSchool_4 rfl ?_
  refine q_cald E hC0 (lo := 0) (hi := 2) gca (a := 2082) (show (2082 : Int32).toInt = 2082 from by decide) (by omega) (by omega) (cr_n2 (by omega) (by omega)) dX12_readSchool_7 (fun v21 ev21 lv21 uv21 => ?_)
  have m22 : (sI H0 ca (2082 : Int).toNat).toInt = v21.toInt := congrArg Int32.toInt ev21
  refine lv_istore_n hx hb dX12_readSchool_8 rfl hl (by decide) rfl (fun ls hl => ?_)
  have hl : lv_has ls 2 [(1, .int v21), (0, .ref h0)] := hl
  refine lv_iload_n hx hb dX12_readSchool_9 rfl (lv_at hl 0 rfl) ?_
  refine lv_iconst (v := 2) hx hb dX12_readSchool_10 rfl ?_
  refine q_icmp_ne hx hb (a := v21.toInt) (b := 2) rfl (by decide) (tgt := 24) dX12_readSchool_11 rfl (fun c23 => ?_) (fun c23 => ?_)
  · refine lv_aload_n hx hb dX12_readSchool_24 rfl (lv_at hl 1 rfl) ?_
    refine q_getI E hC0 g0 fa_RX12_218 dX12_readSchool_25 (fun v24 ev24 lv24 uv24 => ?_)
    have m25 : (sI H0 h0 (X.1.2 11 12)).toInt = v24.toInt := (congrArg Int32.toInt ev24).trans rfl
    refine q_if_le hx hb (a := v24.toInt) rfl (tgt := 32) dX12_readSchool_28 rfl (fun c26 => ?_) (fun c26 => ?_)
    · refine lv_aload_n hx hb dX12_readSchool_32 rfl (lv_at hl 1 rfl) ?_
      refine q_goV (q_runV (As := []) (rest := []) E hC0 hS0 (m_X12_next l X Γ H0 hC0 h0 g0 ca gca uc tq htq gtq) cw_X12_next cl_RX12_228 g0 ⟨rfl, rfl⟩ rfl hl.1 rfl (Nat.zero_le _) (by decide) dX12_readSchool_33) hS0 (fun H27 locs27 hr27 hC27 hS27 => ?_)
      obtain ⟨hp27, hr27⟩ := hr27
      have hKp27 := hKp0.tr (hp27.mono rfl)
      have ym := ym.kp hp27 g0 gca rfl rfl
      obtain ⟨f27_0, f27_1, f27_2, f27_3, f27_4, f27_5⟩ := hr27
      have mc := f27_5 kd vl w3 pos N i mc (by have := r1.1; omega)
      refine lv_aload_n hx hb dX12_readSchool_36 rfl (lv_at hl 1 rfl) ?_
      refine q_getI E hC27 g0 fa_RX12_120 dX12_readSchool_37 (fun v28 ev28 _ _ => ?_)
      have m29 : (sI H27 h0 (X.1.2 11 14)).toInt = v28.toInt := (congrArg Int32.toInt ev28).trans rfl
      refine lv_iconst (v := 1) hx hb dX12_readSchool_40 rfl ?_
      refine q_icmp_ne hx hb (a := v28.toInt) (b := 1) rfl (by decide) (tgt := 60) dX12_readSchool_41 rfl (fun c30 => ?_) (fun c30 => ?_)
      · have hno : ∀ (S1 : YSt) (i1 : Nat), ¬ gSchool kd vl S i S1 i1 := fun S1 i1 q => mc.noM (by first | exact Or.inl (by omega) | exact Or.inr (Or.inl (by omega)) | exact Or.inr (Or.inr hkp)) q.2.1
        refine lv_aload_n hx hb dX12_readSchool_60 rfl (lv_at hl 1 rfl) ?_
        refine q_goV (q_runV (As := []) (rest := []) E hC27 hS27 (m_X12_wrong l X Γ H27 hC27 h0 g0 ca gca uc) cw_X12_wrong cl_RX12_231 g0 ⟨rfl, rfl⟩ rfl hl.1 rfl (Nat.zero_le _) (by decide) dX12_readSchool_61) hS27 (fun H31 locs31 hr31 hC31 hS31 => ?_)
        obtain ⟨hp31, hr31⟩ := hr31
        have hKp31 := hKp27.tr (hp31.mono rfl)
        have ym := ym.kp hp31 g0 gca rfl rfl
        obtain ⟨f31_0, f31_1, f31_2, f31_3⟩ := hr31
        refine lv_aload_n hx hb dX12_readSchool_64 rfl (lv_at hl 1 rfl) ?_
        refine q_getI E hC31 g0 fa_RX12_218 dX12_readSchool_65 (fun v32 ev32 lv32 uv32 => ?_)
        have m33 : (sI H31 h0 (X.1.2 11 12)).toInt = v32.toInt := (congrArg Int32.toInt ev32).trans rfl
        refine q_if_ne hx hb (a := v32.toInt) rfl (tgt := 99) dX12_readSchool_68 rfl (fun c34 => ?_) (fun c34 => absurd c34 (by omega))
        refine lv_aload_n hx hb dX12_readSchool_99 rfl (lv_at hl 1 rfl) ?_
        refine q_getI E hC31 g0 fa_RX12_218 dX12_readSchool_100 (fun v35 ev35 lv35 uv35 => ?_)
        have qv35 := ev32.symm.trans ev35; subst qv35
        refine q_if_le hx hb (a := v32.toInt) rfl (tgt := 107) dX12_readSchool_103 rfl (fun c36 => absurd c36 (by omega)) (fun c36 => ?_)
        have hz8 := tk_nn (sI H31 h0 (X.1.2 11 14)).toInt
        have hpost : ((sI H31 h0 (X.1.2 11 12)).toInt = 0 ∧ ∃ (S1 : YSt) (i1 : Nat), gSchool kd vl S i S1 i1 ∧ MC X H31 h0 tq kd vl w3 pos N i1 ∧ YSM X Γ H31 h0 ca kd vl w3 N S1) ∨ ((sI H31 h0 (X.1.2 11 12)).toInt ≠ 0 ∧ ∀ (S1 : YSt) (i1 : Nat), ¬ gSchool kd vl S i S1 i1) := by first | (exfalso; omega) | exact Or.inr ⟨by omega, hno⟩ | exact Or.inl ⟨by omega, _, _, ⟨by omega, hm, hne, hQ.1.2, hQ.2, rfl, rfl⟩, mc, ym⟩ | exact Or.inr ⟨by omega, fun S1 i1 q => HD.no hd (by omega) ⟨⟨trivial, q.2.2.2.1⟩, q.2.2.2.2.1⟩⟩
        exact ret H31 locs31 _ _ dX12_readSchool_106 ⟨hKp31, ⟨by omega, by omega, by omega, by omega, hpost⟩⟩ hC31 hS31
      · refine lv_aload_n hx hb dX12_readSchool_44 rfl (lv_at hl 1 rfl) ?_
        refine q_getI E hC27 g0 fa_RX12_133 dX12_readSchool_45 (fun v37 ev37 _ _ => ?_)
        have m38 : (sI H27 h0 (X.1.2 11 18)).toInt = v37.toInt := (congrArg Int32.toInt ev37).trans rfl
        refine lv_bipush (v := 8) hx hb dX12_readSchool_48 rfl ?_
        refine q_icmp_gt hx hb (a := v37.toInt) (b := 8) rfl (by decide) (tgt := 60) dX12_readSchool_50 rfl (fun c39 => ?_) (fun c39 => ?_)
        · have hno : ∀ (S1 : YSt) (i1 : Nat), ¬ gSchool kd vl S i S1 i1 := fun S1 i1 q => mc.noM (by first | exact Or.inl (by omega) | exact Or.inr (Or.inl (by omega)) | exact Or.inr (Or.inr hkp)) q.2.1
          refine lv_aload_n hx hb dX12_readSchool_60 rfl (lv_at hl 1 rfl) ?_
          refine q_goV (q_runV (As := []) (rest := []) E hC27 hS27 (m_X12_wrong l X Γ H27 hC27 h0 g0 ca gca uc) cw_X12_wrong cl_RX12_231 g0 ⟨rfl, rfl⟩ rfl hl.1 rfl (Nat.zero_le _) (by decide) dX12_readSchool_61) hS27 (fun H40 locs40 hr40 hC40 hS40 => ?_)
          obtain ⟨hp40, hr40⟩ := hr40
          have hKp40 := hKp27.tr (hp40.mono rfl)
          have ym := ym.kp hp40 g0 gca rfl rfl
          obtain ⟨f40_0, f40_1, f40_2, f40_3⟩ := hr40
          refine lv_aload_n hx hb dX12_readSchool_64 rfl (lv_at hl 1 rfl) ?_
          refine q_getI E hC40 g0 fa_RX12_218 dX12_readSchool_65 (fun v41 ev41 lv41 uv41 => ?_)
          have m42 : (sI H40 h0 (X.1.2 11 12)).toInt = v41.toInt := (congrArg Int32.toInt ev41).trans rfl
          refine q_if_ne hx hb (a := v41.toInt) rfl (tgt := 99) dX12_readSchool_68 rfl (fun c43 => ?_) (fun c43 => absurd c43 (by omega))
          refine lv_aload_n hx hb dX12_readSchool_99 rfl (lv_at hl 1 rfl) ?_
          refine q_getI E hC40 g0 fa_RX12_218 dX12_readSchool_100 (fun v44 ev44 lv44 uv44 => ?_)
          have qv44 := ev41.symm.trans ev44; subst qv44
          refine q_if_le hx hb (a := v41.toInt) rfl (tgt := 107) dX12_readSchool_103 rfl (fun c45 => absurd c45 (by omega)) (fun c45 => ?_)
          have hz8 := tk_nn (sI H40 h0 (X.1.2 11 14)).toInt
          have hpost : ((sI H40 h0 (X.1.2 11 12)).toInt = 0 ∧ ∃ (S1 : YSt) (i1 : Nat), gSchool kd vl S i S1 i1 ∧ MC X H40 h0 tq kd vl w3 pos N i1 ∧ YSM X Γ H40 h0 ca kd vl w3 N S1) ∨ ((sI H40 h0 (X.1.2 11 12)).toInt ≠ 0 ∧ ∀ (S1 : YSt) (i1 : Nat), ¬ gSchool kd vl S i S1 i1) := by first | (exfalso; omega) | exact Or.inr ⟨by omega, hno⟩ | exact Or.inl ⟨by omega, _, _, ⟨by omega, hm, hne, hQ.1.2, hQ.2, rfl, rfl⟩, mc, ym⟩ | exact Or.inr ⟨by omega, fun S1 i1 q => HD.no hd (by omega) ⟨⟨trivial, q.2.2.2.1⟩, q.2.2.2.2.1⟩⟩
          exact ret H40 locs40 _ _ dX12_readSchool_106 ⟨hKp40, ⟨by omega, by omega, by omega, by omega, hpost⟩⟩ hC40 hS40
        · refine lv_aload_n hx hb dX12_readSchool_53 rfl (lv_at hl 1 rfl) ?_
          refine q_goIp (q_runV (As := []) (rest := []) E hC27 hS27 (m_X12_isKept l X Γ H27 hC27 h0 g0 ca gca uc) cw_X12_isKept cl_RX12_241 g0 ⟨rfl, rfl⟩ rfl hl.1 rfl (Nat.zero_le _) (by decide) dX12_readSchool_54) hS27 (fun v46 locs46 hr46 hS46 => ?_)
          rcases hr46 with ⟨rfl, hkp⟩ | ⟨rfl, hkp⟩
          · refine q_if_eq hx hb (a := 1) (by decide) (tgt := 64) dX12_readSchool_57 rfl (fun c47 => absurd c47 (by omega)) (fun c47 => ?_)
            have hno : ∀ (S1 : YSt) (i1 : Nat), ¬ gSchool kd vl S i S1 i1 := fun S1 i1 q => mc.noM (by first | exact Or.inl (by omega) | exact Or.inr (Or.inl (by omega)) | exact Or.inr (Or.inr hkp)) q.2.1
            refine lv_aload_n hx hb dX12_readSchool_60 rfl (lv_at hl 1 rfl) ?_
            refine q_goV (q_runV (As := []) (rest := []) E hC27 hS46 (m_X12_wrong l X Γ H27 hC27 h0 g0 ca gca uc) cw_X12_wrong cl_RX12_231 g0 ⟨rfl, rfl⟩ rfl hl.1 rfl (Nat.zero_le _) (by decide) dX12_readSchool_61) hS46 (fun H48 locs48 hr48 hC48 hS48 => ?_)
            obtain ⟨hp48, hr48⟩ := hr48
            have hKp48 := hKp27.tr (hp48.mono rfl)
            have ym := ym.kp hp48 g0 gca rfl rfl
            obtain ⟨f48_0, f48_1, f48_2, f48_3⟩ := hr48
            refine lv_aload_n hx hb dX12_readSchool_64 rfl (lv_at hl 1 rfl) ?_
            refine q_getI E hC48 g0 fa_RX12_218 dX12_readSchool_65 (fun v49 ev49 lv49 uv49 => ?_)
            have m50 : (sI H48 h0 (X.1.2 11 12)).toInt = v49.toInt := (congrArg Int32.toInt ev49).trans rfl
            refine q_if_ne hx hb (a := v49.toInt) rfl (tgt := 99) dX12_readSchool_68 rfl (fun c51 => ?_) (fun c51 => absurd c51 (by omega))
            refine lv_aload_n hx hb dX12_readSchool_99 rfl (lv_at hl 1 rfl) ?_
            refine q_getI E hC48 g0 fa_RX12_218 dX12_readSchool_100 (fun v52 ev52 lv52 uv52 => ?_)
            have qv52 := ev49.symm.trans ev52; subst qv52
            refine q_if_le hx hb (a := v49.toInt) rfl (tgt := 107) dX12_readSchool_103 rfl (fun c53 => absurd c53 (by omega)) (fun c53 => ?_)
            have hz8 := tk_nn (sI H48 h0 (X.1.2 11 14)).toInt
            have hpost : ((sI H48 h0 (X.1.2 11 12)).toInt = 0 ∧ ∃ (S1 : YSt) (i1 : Nat), gSchool kd vl S i S1 i1 ∧ MC X H48 h0 tq kd vl w3 pos N i1 ∧ YSM X Γ H48 h0 ca kd vl w3 N S1) ∨ ((sI H48 h0 (X.1.2 11 12)).toInt ≠ 0 ∧ ∀ (S1 : YSt) (i1 : Nat), ¬ gSchool kd vl S i S1 i1) := by first | (exfalso; omega) | exact Or.inr ⟨by omega, hno⟩ | exact Or.inl ⟨by omega, _, _, ⟨by omega, hm, hne, hQ.1.2, hQ.2, rfl, rfl⟩, mc, ym⟩ | exact Or.inr ⟨by omega, fun S1 i1 q => HD.no hd (by omega) ⟨⟨trivial, q.2.2.2.1⟩, q.2.2.2.2.1⟩⟩
            exact ret H48 locs48 _ _ dX12_readSchool_106 ⟨hKp48, ⟨by omega, by omega, by omega, by omega, hpost⟩⟩ hC48 hS48
          · have hm := mc.isM (by omega) (by omega) hkp
            refine q_if_eq hx hb (a := 0) (by decide) (tgt := 64) dX12_readSchool_57 rfl (fun c54 => ?_) (fun c54 => absurd c54 (by omega))
            refine lv_aload_n hx hb dX12_readSchool_64 rfl (lv_at hl 1 rfl) ?_
            refine q_getI E hC27 g0 fa_RX12_218 dX12_readSchool_65 (fun v55 ev55 lv55 uv55 => ?_)
            have m56 : (sI H27 h0 (X.1.2 11 12)).toInt = v55.toInt := (congrArg Int32.toInt ev55).trans rfl
            refine q_if_ne hx hb (a := v55.toInt) rfl (tgt := 99) dX12_readSchool_68 rfl (fun c57 => ?_) (fun c57 => ?_)
            · refine lv_aload_n hx hb dX12_readSchool_99 rfl (lv_at hl 1 rfl) ?_
              refine q_getI E hC27 g0 fa_RX12_218 dX12_readSchool_100 (fun v58 ev58 lv58 uv58 => ?_)
              have qv58 := ev55.symm.trans ev58; subst qv58
              refine q_if_le hx hb (a := v55.toInt) rfl (tgt := 107) dX12_readSchool_103 rfl (fun c59 => absurd c59 (by omega)) (fun c59 => ?_)
              have hz8 := tk_nn (sI H27 h0 (X.1.2 11 14)).toInt
              have hpost : ((sI H27 h0 (X.1.2 11 12)).toInt = 0 ∧ ∃ (S1 : YSt) (i1 : Nat), gSchool kd vl S i S1 i1 ∧ MC X H27 h0 tq kd vl w3 pos N i1 ∧ YSM X Γ H27 h0 ca kd vl w3 N S1) ∨ ((sI H27 h0 (X.1.2 11 12)).toInt ≠ 0 ∧ ∀ (S1 : YSt) (i1 : Nat), ¬ gSchool kd vl S i S1 i1) := by first | (exfalso; omega) | exact Or.inr ⟨by omega, hno⟩ | exact Or.inl ⟨by omega, _, _, ⟨by omega, hm, hne, hQ.1.2, hQ.2, rfl, rfl⟩, mc, ym⟩ | exact Or.inr ⟨by omega, fun S1 i1 q => HD.no hd (by omega) ⟨⟨trivial, q.2.2.2.1⟩, q.2.2.2.2.1⟩⟩
              exact ret H27 locs46 _ _ dX12_readSchool_106 ⟨hKp27, ⟨by omega, by omega, by omega, by omega, hpost⟩⟩ hC27 hS46
            · refine lv_iload_n hx hb dX12_readSchool_71 rfl (lv_at hl 0 rfl) ?_
              refine lv_iconst (v := 1) hx hb dX12_readSchool_72 rfl ?_
              refine q_icmp_ne hx hb (a := v21.toInt) (b := 1) rfl (by decide) (tgt := 99) dX12_readSchool_73 rfl (fun c60 => ?_) (fun c60 => ?_)
              · refine lv_aload_n hx hb dX12_readSchool_99 rfl (lv_at hl 1 rfl) ?_
                refine q_getI E hC27 g0 fa_RX12_218 dX12_readSchool_100 (fun v61 ev61 lv61 uv61 => ?_)
                have qv61 := ev55.symm.trans ev61; subst qv61
                refine q_if_le hx hb (a := v55.toInt) rfl (tgt := 107) dX12_readSchool_103 rfl (fun c62 => ?_) (fun c62 => absurd c62 (by omega))
                have hne : S.2.2.1 = 1 → vl (i + 1) ≠ vl S.2.2.2.1 := fun q1 q2 => by first | omega | (have a0 := (mc.nm hm hwn.2.1 hwn.2.2).mp q2; have a1 := mc.tok.2.2.2.2.2 hm.1; have a2 := hwn.1; have a3 := congrArg Int64.toInt hw1; have a4 := congrArg Int64.toInt hw2x; omega)
                refine lv_aload_n hx hb dX12_readSchool_107 rfl (lv_at hl 1 rfl) ?_
                refine q_getR E hC27 g0 fa_RX12_44 dX12_readSchool_108 (fun q63 eq63 gq63 => ?_)
                have hwse3 := eq63; have hwsg3 := gq63
                refine lv_iload_n hx hb dX12_readSchool_111 rfl (lv_at hl 0 rfl) ?_
                refine lv_aload_n hx hb dX12_readSchool_112 rfl (lv_at hl 1 rfl) ?_
                refine q_getJ E hC27 g0 fa_RX12_126 dX12_readSchool_113 (fun v64 ev64 => ?_)
                have hw5 := ev64
                have htk := mc.tok.2.2.2.2.2 hm.1; have htN := mc.2.1
                refine q_last2 E hC27 hS46 gq63 (by decide) rfl rfl (fun _ => rfl) (a := v21.toInt) rfl (by omega) (by omega) dX12_readSchool_116 (fun H65 locs65 hC65 hS65 U65 => ?_)
                have hKp65 := Kp.upA gq63 rfl (by decide) rfl U65 hKp27
                have mc := mc.ne U65 g0 gtq gq63 (by decide)
                have m66 : (sI H65 h0 (X.1.2 11 12)).toInt = (sI H27 h0 (X.1.2 11 12)).toInt := congrArg Int32.toInt (up_nI U65 (ne_k g0 gq63 (by decide)))
                have m67 : (sI H65 h0 (X.1.2 11 14)).toInt = (sI H27 h0 (X.1.2 11 14)).toInt := congrArg Int32.toInt (up_nI U65 (ne_k g0 gq63 (by decide)))
                have m68 := congrArg tk m67
                have m69 : (sI H65 h0 (X.1.2 11 16)).toInt = (sI H27 h0 (X.1.2 11 16)).toInt := congrArg Int32.toInt (up_nI U65 (ne_k g0 gq63 (by decide)))
                have m70 : (sI H65 h0 (X.1.2 11 18)).toInt = (sI H27 h0 (X.1.2 11 18)).toInt := congrArg Int32.toInt (up_nI U65 (ne_k g0 gq63 (by decide)))
                have m71 : (sI H65 h0 (X.1.2 11 17)).toInt = (sI H27 h0 (X.1.2 11 17)).toInt := congrArg Int32.toInt (up_nI U65 (ne_k g0 gq63 (by decide)))
                have hyw := ym.word U65 g0 gca hwse3 hwsg3 (nm := i + 1) (by omega) (by have a4 := congrArg Int64.toInt hw5; omega) hm htN
                have ym := hyw.1
                have yn := hyw.2
                refine lv_aload_n hx hb dX12_readSchool_117 rfl (lv_at hl 1 rfl) ?_
                refine q_goV (q_runV (As := []) (rest := []) E hC65 hS65 (m_X12_next l X Γ H65 hC65 h0 g0 ca gca uc tq ((kp_R hKp65 g0 (ci := 11) (k := 7) rfl (by decide) rfl).trans htq) gtq) cw_X12_next cl_RX12_228 g0 ⟨rfl, rfl⟩ rfl hl.1 rfl (Nat.zero_le _) (by decide) dX12_readSchool_118) hS65 (fun H72 locs72 hr72 hC72 hS72 => ?_)
                obtain ⟨hp72, hr72⟩ := hr72
                have hKp72 := hKp65.tr (hp72.mono rfl)
                have ym := ym.kp hp72 g0 gca rfl rfl
                have yn := yn.kp hp72 g0 rfl
                obtain ⟨f72_0, f72_1, f72_2, f72_3, f72_4, f72_5⟩ := hr72
                have mc := f72_5 kd vl w3 pos N (i + 1) mc (by have := hm.1; omega)
                refine lv_aload_n hx hb dX12_readSchool_121 rfl (lv_at hl 1 rfl) ?_
                refine lv_aload_n hx hb dX12_readSchool_122 rfl (lv_at hl 1 rfl) ?_
                refine q_goIp (q_runV (As := []) (rest := [.ref h0]) E hC72 hS72 (m_X12_isHands l X Γ H72 hC72 h0 g0 ca gca uc) cw_X12_isHands cl_RX12_175 g0 ⟨rfl, rfl⟩ rfl hl.1 rfl (show _ ≤ _ from by simp [Value.category]) (by decide) dX12_readSchool_123) hS72 (fun v73 locs73 hr73 hS73 => ?_)
                have b73 : (v73.toInt = 1 ∧ _) ∨ (v73.toInt = 0 ∧ _) := hr73.imp (fun h => ⟨by rw [h.1]; decide, h.2⟩) (fun h => ⟨by rw [h.1]; decide, h.2⟩)
                have hbz := b73
                refine q_goV (q_runV (As := [.int v73]) (rest := []) E hC72 hS73 (m_X12_must l X Γ H72 hC72 h0 g0 v73 (a1 := v73.toInt) rfl ca gca uc tq ((kp_R hKp72 g0 (ci := 11) (k := 7) rfl (by decide) rfl).trans htq) gtq (by omega) (by omega)) cw_X12_must cl_RX12_244 g0 ⟨rfl, rfl⟩ rfl hl.1 rfl (Nat.zero_le _) (by decide) dX12_readSchool_126) hS73 (fun H74 locs74 hr74 hC74 hS74 => ?_)
                obtain ⟨hp74, hr74⟩ := hr74
                have hKp74 := hKp72.tr (hp74.mono rfl)
                have yn := yn.kp hp74 g0 rfl
                obtain ⟨f74_0, f74_1, f74_2, f74_3, f74_4, f74_5⟩ := hr74
                have hd := HD.must (HD.of (by omega) mc ym) hp74 g0 gca (by first | exact hbz | exact Or.inl ⟨rfl, hw⟩ | exact Or.inr ⟨rfl, hw⟩) f74_5 f74_2 (by omega) rfl rfl (by decide)
                refine lv_aload_n hx hb dX12_readSchool_129 rfl (lv_at hl 1 rfl) ?_
                refine q_getC E hC74 g0 fa_RX12_35 uc dX12_readSchool_130 ?_
                refine lv_sipush (v := 2092) hx hb dX12_readSchool_133 rfl ?_
                refine lv_iload_n hx hb dX12_readSchool_136 rfl (lv_at hl 0 rfl) ?_
                refine lv_iadd hx hb dX12_readSchool_137 (lv_topi (fun v75 ev75 => ?_))
                have ev75i : v75.toInt = (2092 + v21.toInt) := i_add ev75 (by decide) rfl (by omega) (by omega)
                refine lv_aload_n hx hb dX12_readSchool_138 rfl (lv_at hl 1 rfl) ?_
                refine lv_iconst (v := 0) hx hb dX12_readSchool_139 rfl ?_
                refine lv_bipush (v := 40) hx hb dX12_readSchool_140 rfl ?_
                refine q_goI (q_runV (As := [.int 0, .int 40]) (rest := [.int v75, .ref ca]) E hC74 hS74 (m_X12_count l X Γ H74 hC74 h0 g0 0 (a1 := 0) (by decide) 40 (a2 := 40) (by decide) ca gca uc tq ((kp_R hKp74 g0 (ci := 11) (k := 7) rfl (by decide) rfl).trans htq) gtq (by omega) (by omega) (by omega) (by omega)) cw_X12_count cl_RX12_248 g0 ⟨rfl, rfl⟩ rfl hl.1 rfl (show _ ≤ _ from by simp [Value.category]) (by decide) dX12_readSchool_142) hS74 (fun v76 H76 locs76 hr76 hC76 hS76 => ?_)
                obtain ⟨hp76, hr76⟩ := hr76
                have hKp76 := hKp74.tr (hp76.mono rfl)
                have yn := yn.kp hp76 g0 rfl
                obtain ⟨f76_0, f76_1, f76_2, f76_3, f76_4, f76_5, f76_6, f76_7, f76_8⟩ := hr76
                have hdc := HD.count hd hp76 g0 gca f76_8 f76_2 (by omega) rfl rfl
                have hd := hdc.1
                refine q_cast E hC76 hS76 gca (a := (2092 + v21.toInt)) ev75i (by omega) (by omega) (cs_n12 (a := (2092 + v21.toInt)) (b := v76.toInt) (by omega) (by omega) rfl (by omega) (by omega)) dX12_readSchool_145 (fun H77 locs77 hC77 hS77 U77 => ?_)
                have hKp77 := Kp.upD gca rfl rfl (fun _ => ⟨fun _ => nd4 (by omega) (by omega), fun _ => by unfold dpu; omega, fun _ => by unfold dpn; omega⟩) U77 hKp76
                have yn := yn.up U77 g0 gca
                have hd := HD.map hd (congrArg Int32.toInt (up_nI U77 (ne_k g0 gca (by decide)))) (fun _ mc ym => ⟨mc.ne U77 g0 gtq gca (by decide), ym.up U77 g0 gca (by omega)⟩)
                have m78 : (sI H77 h0 (X.1.2 11 12)).toInt = (sI H76 h0 (X.1.2 11 12)).toInt := congrArg Int32.toInt (up_nI U77 (ne_k g0 gca (by decide)))
                have m79 : (sI H77 h0 (X.1.2 11 14)).toInt = (sI H76 h0 (X.1.2 11 14)).toInt := congrArg Int32.toInt (up_nI U77 (ne_k g0 gca (by decide)))
                have m80 := congrArg tk m79
                have m81 : (sI H77 h0 (X.1.2 11 16)).toInt = (sI H76 h0 (X.1.2 11 16)).toInt := congrArg Int32.toInt (up_nI U77 (ne_k g0 gca (by decide)))
                have m82 : (sI H77 h0 (X.1.2 11 18)).toInt = (sI H76 h0 (X.1.2 11 18)).toInt := congrArg Int32.toInt (up_nI U77 (ne_k g0 gca (by decide)))
                have m83 : (sI H77 h0 (X.1.2 11 17)).toInt = (sI H76 h0 (X.1.2 11 17)).toInt := congrArg Int32.toInt (up_nI U77 (ne_k g0 gca (by decide)))
                have e84 := up_I U77
                refine lv_aload_n hx hb dX12_readSchool_146 rfl (lv_at hl 1 rfl) ?_
                have e86 := (up_nI U65 (ne_k g0 gq63 (by decide))).trans ev55
                refine q_getI E hC77 g0 fa_RX12_218 dX12_readSchool_147 (fun v85 ev85 lv85 uv85 => ?_)
                have m87 : (sI H77 h0 (X.1.2 11 12)).toInt = v85.toInt := (congrArg Int32.toInt ev85).trans rfl
                refine q_if_ne hx hb (a := v85.toInt) rfl (tgt := 165) dX12_readSchool_150 rfl (fun c88 => ?_) (fun c88 => ?_)
                · have hz8 := tk_nn (sI H77 h0 (X.1.2 11 14)).toInt
                  have hpost : ((sI H77 h0 (X.1.2 11 12)).toInt = 0 ∧ ∃ (S1 : YSt) (i1 : Nat), gSchool kd vl S i S1 i1 ∧ MC X H77 h0 tq kd vl w3 pos N i1 ∧ YSM X Γ H77 h0 ca kd vl w3 N S1) ∨ ((sI H77 h0 (X.1.2 11 12)).toInt ≠ 0 ∧ ∀ (S1 : YSt) (i1 : Nat), ¬ gSchool kd vl S i S1 i1) := by first | (exfalso; omega) | exact Or.inr ⟨by omega, hno⟩ | exact Or.inl ⟨by omega, _, _, ⟨by omega, hm, hne, hQ.1.2, hQ.2, rfl, rfl⟩, mc, ym⟩ | exact Or.inr ⟨by omega, fun S1 i1 q => HD.no hd (by omega) ⟨⟨trivial, q.2.2.2.1⟩, q.2.2.2.2.1⟩⟩
                  exact ret H77 locs77 _ _ dX12_readSchool_165 ⟨hKp77, ⟨by omega, by omega, by omega, by omega, hpost⟩⟩ hC77 hS77
                · obtain ⟨hQ, mc, ym⟩ := HD.live hd (by omega)
                  have mc := mc
                  have ym := ym
                  have y31 := ym.2.2.1
                  refine lv_aload_n hx hb dX12_readSchool_153 rfl (lv_at hl 1 rfl) ?_
                  refine q_getC E hC77 g0 fa_RX12_35 uc dX12_readSchool_154 ?_
                  refine lv_sipush (v := 2082) hx hb dX12_readSchool_157 rfl ?_
                  refine lv_dup2_11 hx hb dX12_readSchool_160 rfl rfl ?_
                  have e90 := (kp_c (j := (2082 : Int).toNat) hp27 gca rfl).trans ev21
                  have e91 := (up_nI (a' := ca) (j' := (2082 : Int).toNat) U65 (ne_k gca gq63 (by decide))).trans e90
                  have e92 := (kp_c (j := (2082 : Int).toNat) hp72 gca rfl).trans e91
                  have e93 := (kp_c (j := (2082 : Int).toNat) hp74 gca rfl).trans e92
                  have e94 := (kp_c (j := (2082 : Int).toNat) hp76 gca rfl).trans e93
                  have e95 := (up_nI (a' := ca) (j' := (2082 : Int).toNat) U77 (fun h => by have h2 := h.2; omega)).trans e94
                  refine q_cald E hC77 (lo := 0) (hi := 2) gca (a := 2082) (show (2082 : Int32).toInt = 2082 from by decide) (by omega) (by omega) (cr_n2 (by omega) (by omega)) dX12_readSchool_161 (fun v89 ev89 lv89 uv89 => ?_)
                  have qv89 := e95.symm.trans ev89; subst qv89
                  refine lv_iconst (v := 1) hx hb dX12_readSchool_162 rfl ?_
                  refine lv_iadd hx hb dX12_readSchool_163 (lv_topi (fun v96 ev96 => ?_))
                  have ev96i : v96.toInt = (v21.toInt + 1) := i_add ev96 rfl (by decide) (by omega) (by omega)
                  refine q_cast E hC77 hS77 gca (a := 2082) (show (2082 : Int32).toInt = 2082 from by decide) (by omega) (by omega) (cs_n2 (a := 2082) (b := (v21.toInt + 1)) (by omega) (by omega) ev96i (by omega) (by omega)) dX12_readSchool_164 (fun H97 locs97 hC97 hS97 U97 => ?_)
                  have hKp97 := Kp.upD gca rfl rfl (fun _ => ⟨fun _ => nd4 (by omega) (by omega), fun _ => by unfold dpu; omega, fun _ => by unfold dpn; omega⟩) U97 hKp77
                  have mc := mc.ne U97 g0 gtq gca (by decide)
                  have m98 : (sI H97 h0 (X.1.2 11 12)).toInt = (sI H77 h0 (X.1.2 11 12)).toInt := congrArg Int32.toInt (up_nI U97 (ne_k g0 gca (by decide)))
                  have m99 : (sI H97 h0 (X.1.2 11 14)).toInt = (sI H77 h0 (X.1.2 11 14)).toInt := congrArg Int32.toInt (up_nI U97 (ne_k g0 gca (by decide)))
                  have m100 := congrArg tk m99
                  have m101 : (sI H97 h0 (X.1.2 11 16)).toInt = (sI H77 h0 (X.1.2 11 16)).toInt := congrArg Int32.toInt (up_nI U97 (ne_k g0 gca (by decide)))
                  have m102 : (sI H97 h0 (X.1.2 11 18)).toInt = (sI H77 h0 (X.1.2 11 18)).toInt := congrArg Int32.toInt (up_nI U97 (ne_k g0 gca (by decide)))
                  have m103 : (sI H97 h0 (X.1.2 11 17)).toInt = (sI H77 h0 (X.1.2 11 17)).toInt := congrArg Int32.toInt (up_nI U97 (ne_k g0 gca (by decide)))
                  have ym := ym.school U97 g0 gca rfl (by omega) yn
                  have e104 := up_I U97
                  have hz8 := tk_nn (sI H97 h0 (X.1.2 11 14)).toInt
                  have hpost : ((sI H97 h0 (X.1.2 11 12)).toInt = 0 ∧ ∃ (S1 : YSt) (i1 : Nat), gSchool kd vl S i S1 i1 ∧ MC X H97 h0 tq kd vl w3 pos N i1 ∧ YSM X Γ H97 h0 ca kd vl w3 N S1) ∨ ((sI H97 h0 (X.1.2 11 12)).toInt ≠ 0 ∧ ∀ (S1 : YSt) (i1 : Nat), ¬ gSchool kd vl S i S1 i1) := by first | (exfalso; omega) | exact Or.inr ⟨by omega, hno⟩ | exact Or.inl ⟨by omega, _, _, ⟨by omega, hm, hne, hQ.1.2, hQ.2, rfl, rfl⟩, mc, ym⟩ | exact Or.inr ⟨by omega, fun S1 i1 q => HD.no hd (by omega) ⟨⟨trivial, q.2.2.2.1⟩, q.2.2.2.2.1⟩⟩
                  exact ret H97 locs97 _ _ dX12_readSchool_165 ⟨hKp97, ⟨by omega, by omega, by omega, by omega, hpost⟩⟩ hC97 hS97
              · refine lv_aload_n hx hb dX12_readSchool_76 rfl (lv_at hl 1 rfl) ?_
                refine q_getR E hC27 g0 fa_RX12_44 dX12_readSchool_77 (fun q105 eq105 gq105 => ?_)
                have hwse := eq105; have hwsg := gq105
                have hwn := ym.ws hwse (by omega)
                refine lv_iconst (v := 0) hx hb dX12_readSchool_80 rfl ?_
                refine q_lald2 E hC27 gq105 rfl rfl (fun _ => rfl) (a := 0) (show (0 : Int32).toInt = 0 from by decide) (by omega) (by omega) dX12_readSchool_81 (fun v106 ev106 => ?_)
                have hw1 : sJ H27 _ 0 = v106 := ev106
                refine lv_aload_n hx hb dX12_readSchool_82 rfl (lv_at hl 1 rfl) ?_
                refine q_getJ E hC27 g0 fa_RX12_126 dX12_readSchool_83 (fun v107 ev107 => ?_)
                have hw2x := ev107
                refine q_lcmp_ne hx hb (a := v106.toInt) (b := v107.toInt) rfl rfl (tgt := 99) dX12_readSchool_86 dX12_readSchool_87 rfl (fun c108 => ?_) (fun c108 => ?_)
                · refine lv_aload_n hx hb dX12_readSchool_99 rfl (lv_at hl 1 rfl) ?_
                  refine q_getI E hC27 g0 fa_RX12_218 dX12_readSchool_100 (fun v109 ev109 lv109 uv109 => ?_)
                  have qv109 := ev55.symm.trans ev109; subst qv109
                  refine q_if_le hx hb (a := v55.toInt) rfl (tgt := 107) dX12_readSchool_103 rfl (fun c110 => ?_) (fun c110 => absurd c110 (by omega))
                  have hne : S.2.2.1 = 1 → vl (i + 1) ≠ vl S.2.2.2.1 := fun q1 q2 => by first | omega | (have a0 := (mc.nm hm hwn.2.1 hwn.2.2).mp q2; have a1 := mc.tok.2.2.2.2.2 hm.1; have a2 := hwn.1; have a3 := congrArg Int64.toInt hw1; have a4 := congrArg Int64.toInt hw2x; omega)
                  refine lv_aload_n hx hb dX12_readSchool_107 rfl (lv_at hl 1 rfl) ?_
                  refine q_getR E hC27 g0 fa_RX12_44 dX12_readSchool_108 (fun q111 eq111 gq111 => ?_)
                  have hwse3 := eq111; have hwsg3 := gq111
                  refine lv_iload_n hx hb dX12_readSchool_111 rfl (lv_at hl 0 rfl) ?_
                  refine lv_aload_n hx hb dX12_readSchool_112 rfl (lv_at hl 1 rfl) ?_
                  refine q_getJ E hC27 g0 fa_RX12_126 dX12_readSchool_113 (fun v112 ev112 => ?_)
                  have hw5 := ev112
                  have htk := mc.tok.2.2.2.2.2 hm.1; have htN := mc.2.1
                  refine q_last2 E hC27 hS46 gq111 (by decide) rfl rfl (fun _ => rfl) (a := v21.toInt) rfl (by omega) (by omega) dX12_readSchool_116 (fun H113 locs113 hC113 hS113 U113 => ?_)
                  have hKp113 := Kp.upA gq111 rfl (by decide) rfl U113 hKp27
                  have mc := mc.ne U113 g0 gtq gq111 (by decide)
                  have m114 : (sI H113 h0 (X.1.2 11 12)).toInt = (sI H27 h0 (X.1.2 11 12)).toInt := congrArg Int32.toInt (up_nI U113 (ne_k g0 gq111 (by decide)))
                  have m115 : (sI H113 h0 (X.1.2 11 14)).toInt = (sI H27 h0 (X.1.2 11 14)).toInt := congrArg Int32.toInt (up_nI U113 (ne_k g0 gq111 (by decide)))
                  have m116 := congrArg tk m115
                  have m117 : (sI H113 h0 (X.1.2 11 16)).toInt = (sI H27 h0 (X.1.2 11 16)).toInt := congrArg Int32.toInt (up_nI U113 (ne_k g0 gq111 (by decide)))
                  have m118 : (sI H113 h0 (X.1.2 11 18)).toInt = (sI H27 h0 (X.1.2 11 18)).toInt := congrArg Int32.toInt (up_nI U113 (ne_k g0 gq111 (by decide)))
                  have m119 : (sI H113 h0 (X.1.2 11 17)).toInt = (sI H27 h0 (X.1.2 11 17)).toInt := congrArg Int32.toInt (up_nI U113 (ne_k g0 gq111 (by decide)))
                  have hyw := ym.word U113 g0 gca hwse3 hwsg3 (nm := i + 1) (by omega) (by have a4 := congrArg Int64.toInt hw5; omega) hm htN
                  have ym := hyw.1
                  have yn := hyw.2
                  refine lv_aload_n hx hb dX12_readSchool_117 rfl (lv_at hl 1 rfl) ?_
                  refine q_goV (q_runV (As := []) (rest := []) E hC113 hS113 (m_X12_next l X Γ H113 hC113 h0 g0 ca gca uc tq ((kp_R hKp113 g0 (ci := 11) (k := 7) rfl (by decide) rfl).trans htq) gtq) cw_X12_next cl_RX12_228 g0 ⟨rfl, rfl⟩ rfl hl.1 rfl (Nat.zero_le _) (by decide) dX12_readSchool_118) hS113 (fun H120 locs120 hr120 hC120 hS120 => ?_)
                  obtain ⟨hp120, hr120⟩ := hr120
                  have hKp120 := hKp113.tr (hp120.mono rfl)
                  have ym := ym.kp hp120 g0 gca rfl rfl
                  have yn := yn.kp hp120 g0 rfl
                  obtain ⟨f120_0, f120_1, f120_2, f120_3, f120_4, f120_5⟩ := hr120
                  have mc := f120_5 kd vl w3 pos N (i + 1) mc (by have := hm.1; omega)
                  refine lv_aload_n hx hb dX12_readSchool_121 rfl (lv_at hl 1 rfl) ?_
                  refine lv_aload_n hx hb dX12_readSchool_122 rfl (lv_at hl 1 rfl) ?_
                  refine q_goIp (q_runV (As := []) (rest := [.ref h0]) E hC120 hS120 (m_X12_isHands l X Γ H120 hC120 h0 g0 ca gca uc) cw_X12_isHands cl_RX12_175 g0 ⟨rfl, rfl⟩ rfl hl.1 rfl (show _ ≤ _ from by simp [Value.category]) (by decide) dX12_readSchool_123) hS120 (fun v121 locs121 hr121 hS121 => ?_)
                  have b121 : (v121.toInt = 1 ∧ _) ∨ (v121.toInt = 0 ∧ _) := hr121.imp (fun h => ⟨by rw [h.1]; decide, h.2⟩) (fun h => ⟨by rw [h.1]; decide, h.2⟩)
                  have hbz := b121
                  refine q_goV (q_runV (As := [.int v121]) (rest := []) E hC120 hS121 (m_X12_must l X Γ H120 hC120 h0 g0 v121 (a1 := v121.toInt) rfl ca gca uc tq ((kp_R hKp120 g0 (ci := 11) (k := 7) rfl (by decide) rfl).trans htq) gtq (by omega) (by omega)) cw_X12_must cl_RX12_244 g0 ⟨rfl, rfl⟩ rfl hl.1 rfl (Nat.zero_le _) (by decide) dX12_readSchool_126) hS121 (fun H122 locs122 hr122 hC122 hS122 => ?_)
                  obtain ⟨hp122, hr122⟩ := hr122
                  have hKp122 := hKp120.tr (hp122.mono rfl)
                  have yn := yn.kp hp122 g0 rfl
                  obtain ⟨f122_0, f122_1, f122_2, f122_3, f122_4, f122_5⟩ := hr122
                  have hd := HD.must (HD.of (by omega) mc ym) hp122 g0 gca (by first | exact hbz | exact Or.inl ⟨rfl, hw⟩ | exact Or.inr ⟨rfl, hw⟩) f122_5 f122_2 (by omega) rfl rfl (by decide)
                  refine lv_aload_n hx hb dX12_readSchool_129 rfl (lv_at hl 1 rfl) ?_
                  refine q_getC E hC122 g0 fa_RX12_35 uc dX12_readSchool_130 ?_
                  refine lv_sipush (v := 2092) hx hb dX12_readSchool_133 rfl ?_
                  refine lv_iload_n hx hb dX12_readSchool_136 rfl (lv_at hl 0 rfl) ?_
                  refine lv_iadd hx hb dX12_readSchool_137 (lv_topi (fun v123 ev123 => ?_))
                  have ev123i : v123.toInt = (2092 + v21.toInt) := i_add ev123 (by decide) rfl (by omega) (by omega)
                  refine lv_aload_n hx hb dX12_readSchool_138 rfl (lv_at hl 1 rfl) ?_
                  refine lv_iconst (v := 0) hx hb dX12_readSchool_139 rfl ?_
                  refine lv_bipush (v := 40) hx hb dX12_readSchool_140 rfl ?_
                  refine q_goI (q_runV (As := [.int 0, .int 40]) (rest := [.int v123, .ref ca]) E hC122 hS122 (m_X12_count l X Γ H122 hC122 h0 g0 0 (a1 := 0) (by decide) 40 (a2 := 40) (by decide) ca gca uc tq ((kp_R hKp122 g0 (ci := 11) (k := 7) rfl (by decide) rfl).trans htq) gtq (by omega) (by omega) (by omega) (by omega)) cw_X12_count cl_RX12_248 g0 ⟨rfl, rfl⟩ rfl hl.1 rfl (show _ ≤ _ from by simp [Value.category]) (by decide) dX12_readSchool_142) hS122 (fun v124 H124 locs124 hr124 hC124 hS124 => ?_)
                  obtain ⟨hp124, hr124⟩ := hr124
                  have hKp124 := hKp122.tr (hp124.mono rfl)
                  have yn := yn.kp hp124 g0 rfl
                  obtain ⟨f124_0, f124_1, f124_2, f124_3, f124_4, f124_5, f124_6, f124_7, f124_8⟩ := hr124
                  have hdc := HD.count hd hp124 g0 gca f124_8 f124_2 (by omega) rfl rfl
                  have hd := hdc.1
                  refine q_cast E hC124 hS124 gca (a := (2092 + v21.toInt)) ev123i (by omega) (by omega) (cs_n12 (a := (2092 + v21.toInt)) (b := v124.toInt) (by omega) (by omega) rfl (by omega) (by omega)) dX12_readSchool_145 (fun H125 locs125 hC125 hS125 U125 => ?_)
                  have hKp125 := Kp.upD gca rfl rfl (fun _ => ⟨fun _ => nd4 (by omega) (by omega), fun _ => by unfold dpu; omega, fun _ => by unfold dpn; omega⟩) U125 hKp124
                  have yn := yn.up U125 g0 gca
                  have hd := HD.map hd (congrArg Int32.toInt (up_nI U125 (ne_k g0 gca (by decide)))) (fun _ mc ym => ⟨mc.ne U125 g0 gtq gca (by decide), ym.up U125 g0 gca (by omega)⟩)
                  have m126 : (sI H125 h0 (X.1.2 11 12)).toInt = (sI H124 h0 (X.1.2 11 12)).toInt := congrArg Int32.toInt (up_nI U125 (ne_k g0 gca (by decide)))
                  have m127 : (sI H125 h0 (X.1.2 11 14)).toInt = (sI H124 h0 (X.1.2 11 14)).toInt := congrArg Int32.toInt (up_nI U125 (ne_k g0 gca (by decide)))
                  have m128 := congrArg tk m127
                  have m129 : (sI H125 h0 (X.1.2 11 16)).toInt = (sI H124 h0 (X.1.2 11 16)).toInt := congrArg Int32.toInt (up_nI U125 (ne_k g0 gca (by decide)))
                  have m130 : (sI H125 h0 (X.1.2 11 18)).toInt = (sI H124 h0 (X.1.2 11 18)).toInt := congrArg Int32.toInt (up_nI U125 (ne_k g0 gca (by decide)))
                  have m131 : (sI H125 h0 (X.1.2 11 17)).toInt = (sI H124 h0 (X.1.2 11 17)).toInt := congrArg Int32.toInt (up_nI U125 (ne_k g0 gca (by decide)))
                  have e132 := up_I U125
                  refine lv_aload_n hx hb dX12_readSchool_146 rfl (lv_at hl 1 rfl) ?_
                  have e134 := (up_nI U113 (ne_k g0 gq111 (by decide))).trans ev55
                  refine q_getI E hC125 g0 fa_RX12_218 dX12_readSchool_147 (fun v133 ev133 lv133 uv133 => ?_)
                  have m135 : (sI H125 h0 (X.1.2 11 12)).toInt = v133.toInt := (congrArg Int32.toInt ev133).trans rfl
                  refine q_if_ne hx hb (a := v133.toInt) rfl (tgt := 165) dX12_readSchool_150 rfl (fun c136 => ?_) (fun c136 => ?_)
                  · have hz8 := tk_nn (sI H125 h0 (X.1.2 11 14)).toInt
                    have hpost : ((sI H125 h0 (X.1.2 11 12)).toInt = 0 ∧ ∃ (S1 : YSt) (i1 : Nat), gSchool kd vl S i S1 i1 ∧ MC X H125 h0 tq kd vl w3 pos N i1 ∧ YSM X Γ H125 h0 ca kd vl w3 N S1) ∨ ((sI H125 h0 (X.1.2 11 12)).toInt ≠ 0 ∧ ∀ (S1 : YSt) (i1 : Nat), ¬ gSchool kd vl S i S1 i1) := by first | (exfalso; omega) | exact Or.inr ⟨by omega, hno⟩ | exact Or.inl ⟨by omega, _, _, ⟨by omega, hm, hne, hQ.1.2, hQ.2, rfl, rfl⟩, mc, ym⟩ | exact Or.inr ⟨by omega, fun S1 i1 q => HD.no hd (by omega) ⟨⟨trivial, q.2.2.2.1⟩, q.2.2.2.2.1⟩⟩
                    exact ret H125 locs125 _ _ dX12_readSchool_165 ⟨hKp125, ⟨by omega, by omega, by omega, by omega, hpost⟩⟩ hC125 hS125
                  · obtain ⟨hQ, mc, ym⟩ := HD.live hd (by omega)
                    have mc := mc
                    have ym := ym
                    have y31 := ym.2.2.1
                    refine lv_aload_n hx hb dX12_readSchool_153 rfl (lv_at hl 1 rfl) ?_
                    refine q_getC E hC125 g0 fa_RX12_35 uc dX12_readSchool_154 ?_
                    refine lv_sipush (v := 2082) hx hb dX12_readSchool_157 rfl ?_
                    refine lv_dup2_11 hx hb dX12_readSchool_160 rfl rfl ?_
                    have e138 := (kp_c (j := (2082 : Int).toNat) hp27 gca rfl).trans ev21
                    have e139 := (up_nI (a' := ca) (j' := (2082 : Int).toNat) U113 (ne_k gca gq111 (by decide))).trans e138
                    have e140 := (kp_c (j := (2082 : Int).toNat) hp120 gca rfl).trans e139
                    have e141 := (kp_c (j := (2082 : Int).toNat) hp122 gca rfl).trans e140
                    have e142 := (kp_c (j := (2082 : Int).toNat) hp124 gca rfl).trans e141
                    have e143 := (up_nI (a' := ca) (j' := (2082 : Int).toNat) U125 (fun h => by have h2 := h.2; omega)).trans e142
                    refine q_cald E hC125 (lo := 0) (hi := 2) gca (a := 2082) (show (2082 : Int32).toInt = 2082 from by decide) (by omega) (by omega) (cr_n2 (by omega) (by omega)) dX12_readSchool_161 (fun v137 ev137 lv137 uv137 => ?_)
                    have qv137 := e143.symm.trans ev137; subst qv137
                    refine lv_iconst (v := 1) hx hb dX12_readSchool_162 rfl ?_
                    refine lv_iadd hx hb dX12_readSchool_163 (lv_topi (fun v144 ev144 => ?_))
                    have ev144i : v144.toInt = (v21.toInt + 1) := i_add ev144 rfl (by decide) (by omega) (by omega)
                    refine q_cast E hC125 hS125 gca (a := 2082) (show (2082 : Int32).toInt = 2082 from by decide) (by omega) (by omega) (cs_n2 (a := 2082) (b := (v21.toInt + 1)) (by omega) (by omega) ev144i (by omega) (by omega)) dX12_readSchool_164 (fun H145 locs145 hC145 hS145 U145 => ?_)
                    have hKp145 := Kp.upD gca rfl rfl (fun _ => ⟨fun _ => nd4 (by omega) (by omega), fun _ => by unfold dpu; omega, fun _ => by unfold dpn; omega⟩) U145 hKp125
                    have mc := mc.ne U145 g0 gtq gca (by decide)
                    have m146 : (sI H145 h0 (X.1.2 11 12)).toInt = (sI H125 h0 (X.1.2 11 12)).toInt := congrArg Int32.toInt (up_nI U145 (ne_k g0 gca (by decide)))
                    have m147 : (sI H145 h0 (X.1.2 11 14)).toInt = (sI H125 h0 (X.1.2 11 14)).toInt := congrArg Int32.toInt (up_nI U145 (ne_k g0 gca (by decide)))
                    have m148 := congrArg tk m147
                    have m149 : (sI H145 h0 (X.1.2 11 16)).toInt = (sI H125 h0 (X.1.2 11 16)).toInt := congrArg Int32.toInt (up_nI U145 (ne_k g0 gca (by decide)))
                    have m150 : (sI H145 h0 (X.1.2 11 18)).toInt = (sI H125 h0 (X.1.2 11 18)).toInt := congrArg Int32.toInt (up_nI U145 (ne_k g0 gca (by decide)))
                    have m151 : (sI H145 h0 (X.1.2 11 17)).toInt = (sI H125 h0 (X.1.2 11 17)).toInt := congrArg Int32.toInt (up_nI U145 (ne_k g0 gca (by decide)))
                    have ym := ym.school U145 g0 gca rfl (by omega) yn
                    have e152 := up_I U145
                    have hz8 := tk_nn (sI H145 h0 (X.1.2 11 14)).toInt
                    have hpost : ((sI H145 h0 (X.1.2 11 12)).toInt = 0 ∧ ∃ (S1 : YSt) (i1 : Nat), gSchool kd vl S i S1 i1 ∧ MC X H145 h0 tq kd vl w3 pos N i1 ∧ YSM X Γ H145 h0 ca kd vl w3 N S1) ∨ ((sI H145 h0 (X.1.2 11 12)).toInt ≠ 0 ∧ ∀ (S1 : YSt) (i1 : Nat), ¬ gSchool kd vl S i S1 i1) := by first | (exfalso; omega) | exact Or.inr ⟨by omega, hno⟩ | exact Or.inl ⟨by omega, _, _, ⟨by omega, hm, hne, hQ.1.2, hQ.2, rfl, rfl⟩, mc, ym⟩ | exact Or.inr ⟨by omega, fun S1 i1 q => HD.no hd (by omega) ⟨⟨trivial, q.2.2.2.1⟩, q.2.2.2.2.1⟩⟩
                    exact ret H145 locs145 _ _ dX12_readSchool_165 ⟨hKp145, ⟨by omega, by omega, by omega, by omega, hpost⟩⟩ hC145 hS145
                · have hno : ∀ (S1 : YSt) (i1 : Nat), ¬ gSchool kd vl S i S1 i1 := fun S1 i1 q => q.2.2.1 (by omega) ((mc.nm hm hwn.2.1 hwn.2.2).mpr (by have a1 := mc.tok.2.2.2.2.2 hm.1; have a2 := hwn.1; have a3 := congrArg Int64.toInt hw1; have a4 := congrArg Int64.toInt hw2x; omega))
                  refine lv_aload_n hx hb dX12_readSchool_90 rfl (lv_at hl 1 rfl) ?_
                  refine lv_iconst (v := 3) hx hb dX12_readSchool_91 rfl ?_
                  refine lv_aload_n hx hb dX12_readSchool_92 rfl (lv_at hl 1 rfl) ?_
                  refine q_getI E hC27 g0 fa_RX12_114 dX12_readSchool_93 (fun v153 ev153 lv153 uv153 => ?_)
                  refine q_goV (q_runV (As := [.int 3, .int v153]) (rest := []) E hC27 hS46 (m_X12_fail l X Γ H27 hC27 h0 g0 3 (a1 := 3) (by decide) v153 (a2 := v153.toInt) rfl ca gca uc (by omega) (by omega)) cw_X12_fail cl_RX12_224 g0 ⟨rfl, rfl⟩ rfl hl.1 rfl (Nat.zero_le _) (by decide) dX12_readSchool_96) hS46 (fun H154 locs154 hr154 hC154 hS154 => ?_)
                  obtain ⟨hp154, hr154⟩ := hr154
                  have hKp154 := hKp27.tr (hp154.mono rfl)
                  have ym := ym.kp hp154 g0 gca rfl rfl
                  obtain ⟨f154_0, f154_1, f154_2, f154_3⟩ := hr154
                  refine lv_aload_n hx hb dX12_readSchool_99 rfl (lv_at hl 1 rfl) ?_
                  refine q_getI E hC154 g0 fa_RX12_218 dX12_readSchool_100 (fun v155 ev155 lv155 uv155 => ?_)
                  have m156 : (sI H154 h0 (X.1.2 11 12)).toInt = v155.toInt := (congrArg Int32.toInt ev155).trans rfl
                  refine q_if_le hx hb (a := v155.toInt) rfl (tgt := 107) dX12_readSchool_103 rfl (fun c157 => absurd c157 (by omega)) (fun c157 => ?_)
                  have hz8 := tk_nn (sI H154 h0 (X.1.2 11 14)).toInt
                  have hpost : ((sI H154 h0 (X.1.2 11 12)).toInt = 0 ∧ ∃ (S1 : YSt) (i1 : Nat), gSchool kd vl S i S1 i1 ∧ MC X H154 h0 tq kd vl w3 pos N i1 ∧ YSM X Γ H154 h0 ca kd vl w3 N S1) ∨ ((sI H154 h0 (X.1.2 11 12)).toInt ≠ 0 ∧ ∀ (S1 : YSt) (i1 : Nat), ¬ gSchool kd vl S i S1 i1) := by first | (exfalso; omega) | exact Or.inr ⟨by omega, hno⟩ | exact Or.inl ⟨by omega, _, _, ⟨by omega, hm, hne, hQ.1.2, hQ.2, rfl, rfl⟩, mc, ym⟩ | exact Or.inr ⟨by omega, fun S1 i1 q => HD.no hd (by omega) ⟨⟨trivial, q.2.2.2.1⟩, q.2.2.2.2.1⟩⟩
                  exact ret H154 locs154 _ _ dX12_readSchool_106 ⟨hKp154, ⟨by omega, by omega, by omega, by omega, hpost⟩⟩ hC154 hS154
    · have hz8 := tk_nn (sI H0 h0 (X.1.2 11 14)).toInt
      have hpost : ((sI H0 h0 (X.1.2 11 12)).toInt = 0 ∧ ∃ (S1 : YSt) (i1 : Nat), gSchool kd vl S i S1 i1 ∧ MC X H0 h0 tq kd vl w3 pos N i1 ∧ YSM X Γ H0 h0 ca kd vl w3 N S1) ∨ ((sI H0 h0 (X.1.2 11 12)).toInt ≠ 0 ∧ ∀ (S1 : YSt) (i1 : Nat), ¬ gSchool kd vl S i S1 i1) := by first | (exfalso; omega) | exact Or.inr ⟨by omega, hno⟩ | exact Or.inl ⟨by omega, _, _, ⟨by omega, hm, hne, hQ.1.2, hQ.2, rfl, rfl⟩, mc, ym⟩ | exact Or.inr ⟨by omega, fun S1 i1 q => HD.no hd (by omega) ⟨⟨trivial, q.2.2.2.1⟩, q.2.2.2.2.1⟩⟩
      exact ret H0 [] _ _ dX12_readSchool_31 ⟨hKp0, ⟨by omega, by omega, by omega, by omega, hpost⟩⟩ hC0 hS0
  · refine lv_aload_n hx hb dX12_readSchool_14 rfl (lv_at hl 1 rfl) ?_
    refine lv_bipush (v := 6) hx hb dX12_readSchool_15 rfl ?_
    refine lv_aload_n hx hb dX12_readSchool_17 rfl (lv_at hl 1 rfl) ?_
    refine q_getI E hC0 g0 fa_RX12_114 dX12_readSchool_18 (fun v158 ev158 lv158 uv158 => ?_)
    refine q_goV (q_runV (As := [.int 6, .int v158]) (rest := []) E hC0 hS0 (m_X12_fail l X Γ H0 hC0 h0 g0 6 (a1 := 6) (by decide) v158 (a2 := v158.toInt) rfl ca gca uc (by omega) (by omega)) cw_X12_fail cl_RX12_224 g0 ⟨rfl, rfl⟩ rfl hl.1 rfl (Nat.zero_le _) (by decide) dX12_readSchool_21) hS0 (fun H159 locs159 hr159 hC159 hS159 => ?_)
    obtain ⟨hp159, hr159⟩ := hr159
    have hKp159 := hKp0.tr (hp159.mono rfl)
    have ym := ym.kp hp159 g0 gca rfl rfl
    obtain ⟨f159_0, f159_1, f159_2, f159_3⟩ := hr159
    have hno : ∀ (S1 : YSt) (i1 : Nat), ¬ gSchool kd vl S i S1 i1 := fun S1 i1 q => by have q1 := q.1; omega
    refine lv_aload_n hx hb dX12_readSchool_24 rfl (lv_at hl 1 rfl) ?_
    refine q_getI E hC159 g0 fa_RX12_218 dX12_readSchool_25 (fun v160 ev160 lv160 uv160 => ?_)
    have m161 : (sI H159 h0 (X.1.2 11 12)).toInt = v160.toInt := (congrArg Int32.toInt ev160).trans rfl
    refine q_if_le hx hb (a := v160.toInt) rfl (tgt := 32) dX12_readSchool_28 rfl (fun c162 => absurd c162 (by omega)) (fun c162 => ?_)
    have hz8 := tk_nn (sI H159 h0 (X.1.2 11 14)).toInt
    have hpost : ((sI H159 h0 (X.1.2 11 12)).toInt = 0 ∧ ∃ (S1 : YSt) (i1 : Nat), gSchool kd vl S i S1 i1 ∧ MC X H159 h0 tq kd vl w3 pos N i1 ∧ YSM X Γ H159 h0 ca kd vl w3 N S1) ∨ ((sI H159 h0 (X.1.2 11 12)).toInt ≠ 0 ∧ ∀ (S1 : YSt) (i1 : Nat), ¬ gSchool kd vl S i S1 i1) := by first | (exfalso; omega) | exact Or.inr ⟨by omega, hno⟩ | exact Or.inl ⟨by omega, _, _, ⟨by omega, hm, hne, hQ.1.2, hQ.2, rfl, rfl⟩, mc, ym⟩ | exact Or.inr ⟨by omega, fun S1 i1 q => HD.no hd (by omega) ⟨⟨trivial, q.2.2.2.1⟩, q.2.2.2.2.1⟩⟩
    exact ret H159 locs159 _ _ dX12_readSchool_31 ⟨hKp159, ⟨by omega, by omega, by omega, by omega, hpost⟩⟩ hC159 hS159
set_option maxRecDepth 100000 in
set_option maxHeartbeats 4000000 in
theorem m_X12_readCell (l : Launch) (X : xW) (Γ : Nat → Option Nat) (H0 : Heap) (hC0 : Conf X Γ H0) (h0 : Nat) (g0 : Γ h0 = some 11) (p1 : Int32) {a1 : Int} (e1 : p1.toInt = a1) (ca : Nat) (gca : Γ ca = some 64) (uc : ∀ a, Γ a = some 64 → a = ca) (tq : Nat) (htq : sR H0 h0 (X.1.2 11 7) = some tq) (gtq : Γ tq = some 63) (kd vl w3 : Nat → Int) (pos : Nat → Nat) (N i : Nat) (S : YSt) (mc : MC X H0 h0 tq kd vl w3 pos N i) (ym : YSM X Γ H0 h0 ca kd vl w3 N S) (r0 : (sI H0 h0 (X.1.2 11 12)).toInt = 0) (r1 : kd i = 2) (r2 : 0 ≤ a1) (r3 : a1 ≤ 2) : Ctr l X Γ yX12_readCell cX12_readCell 7 none 3 [.ref h0, .int p1] H0 (QV X Γ (fun H1 => Kp X Γ [1, 6, 7, 8, 9, 10, 11, 12, 14, 16, 17, 19, 22, 24, 26, 28, 30, 38] H0 H1 ∧ (((sI H0 h0 (X.1.2 11 16)).toInt ≤ (sI H1 h0 (X.1.2 11 16)).toInt) ∧ ((sI H0 h0 (X.1.2 11 16)).toInt < (sI H1 h0 (X.1.2 11 16)).toInt + tk (sI H1 h0 (X.1.2 11 14)).toInt + 2000 * (sI H1 h0 (X.1.2 11 12)).toInt) ∧ ((sI H0 h0 (X.1.2 11 12)).toInt ≤ 7 * (sI H1 h0 (X.1.2 11 12)).toInt) ∧ (0 ≤ (sI H1 h0 (X.1.2 11 12)).toInt) ∧ (((sI H1 h0 (X.1.2 11 12)).toInt = 0 ∧ ∃ (S1 : YSt) (i1 : Nat), gHeap kd vl (bfO a1) a1 (lmO a1) S i S1 i1 ∧ MC X H1 h0 tq kd vl w3 pos N i1 ∧ YSM X Γ H1 h0 ca kd vl w3 N S1) ∨ ((sI H1 h0 (X.1.2 11 12)).toInt ≠ 0 ∧ ∀ (S1 : YSt) (i1 : Nat), ¬ gHeap kd vl (bfO a1) a1 (lmO a1) S i S1 i1))))) := by
  refine q_enterV (own := "SnowFortsModel") (by decide) rfl (Nat.le_of_ble_eq_true rfl) ?_
  intro p e s m args below meth c ls Qz E hl ret hS0
  have hx := E.1; have hb := E.2.1
  have hKp0 : Kp X Γ [1, 6, 7, 8, 9, 10, 11, 12, 14, 16, 17, 19, 22, 24, 26, 28, 30, 38] H0 H0 := Kp.rf
  have hl : lv_has ls 7 [(0, .ref h0), (1, .int p1)] := hl
  have hz1 := f_bd hC0 g0 (ci := 11) (k := 16) rfl rfl
  have hz2 := f_bd hC0 g0 (ci := 11) (k := 12) rfl rfl
  refine lv_aload_n hx hb dX12_readCell_0 rfl (lv_at hl 0 rfl) ?_
  refine q_goV (q_runV (As := []) (rest := []) E hC0 hS0 (m_X12_next l X Γ H0 hC0 h0 g0 ca gca uc tq htq gtq) cw_X12_next cl_RX12_228 g0 ⟨rfl, rfl⟩ rfl hl.1 rfl (Nat.zero_le _) (by decide) dX12_readCell_1) hS0 (fun H21 locs21 hr21 hC21 hS21 => ?_)
  obtain ⟨hp21, hr21⟩ := hr21
  have hKp21 := hKp0.tr (hp21.mono rfl)
  have ym := ym.kp hp21 g0 gca rfl rfl
  obtain ⟨f21_0, f21_1, f21_2, f21_3, f21_4, f21_5⟩ := hr21
  have mc := f21_5 kd vl w3 pos N i mc (by omega)
  have y1 := ym.1; have y2 := ym.2.1
  have hd := HD.of (by omega) mc ym
  refine lv_aload_n hx hb dX12_readCell_4 rfl (lv_at hl 0 rfl) ?_
  refine lv_iconst (v := 0) hx hb dX12_readCell_5 rfl ?_
  refine lv_aload_n hx hb dX12_readCell_6 rfl (lv_at hl 0 rfl) ?_
  refine q_getC E hC21 g0 fa_RX12_35 uc dX12_readCell_7 ?_
  refine lv_sipush (v := 2080) hx hb dX12_readCell_10 rfl ?_
  refine q_cald E hC21 (lo := 0) (hi := 6) gca (a := 2080) (show (2080 : Int32).toInt = 2080 from by decide) (by omega) (by omega) (cr_n0 (by omega) (by omega)) dX12_readCell_13 (fun v22 ev22 lv22 uv22 => ?_)
  have m23 : (sI H21 ca (2080 : Int).toNat).toInt = v22.toInt := congrArg Int32.toInt ev22
  refine lv_iconst (v := 1) hx hb dX12_readCell_14 rfl ?_
  refine lv_isub hx hb dX12_readCell_15 (lv_topi (fun v24 ev24 => ?_))
  have ev24i : v24.toInt = (v22.toInt - 1) := i_sub ev24 rfl (by decide) (by omega) (by omega)
  refine q_goI (q_runV (As := [.int 0, .int v24]) (rest := []) E hC21 hS21 (m_X12_count l X Γ H21 hC21 h0 g0 0 (a1 := 0) (by decide) v24 (a2 := (v22.toInt - 1)) ev24i ca gca uc tq ((kp_R hKp21 g0 (ci := 11) (k := 7) rfl (by decide) rfl).trans htq) gtq (by omega) (by omega) (by omega) (by omega)) cw_X12_count cl_RX12_248 g0 ⟨rfl, rfl⟩ rfl hl.1 rfl (Nat.zero_le _) (by decide) dX12_readCell_16) hS21 (fun v25 H25 locs25 hr25 hC25 hS25 => ?_)
  obtain ⟨hp25, hr25⟩ := hr25
  have hKp25 := hKp21.tr (hp25.mono rfl)
  obtain ⟨f25_0, f25_1, f25_2, f25_3, f25_4, f25_5, f25_6, f25_7, f25_8⟩ := hr25
  have hdc := HD.count hd hp25 g0 gca f25_8 f25_2 (by omega) rfl rfl
  have hd := hdc.1
  have hv1 := hdc.2
  have y2 : (sI H25 ca (2081 : Int).toNat).toInt = S.2.1 := (congrArg Int32.toInt (kp_c (j := (2081 : Int).toNat) hp25 gca rfl)).trans y2
  refine lv_istore_n hx hb dX12_readCell_19 rfl hl (by decide) rfl (fun ls hl => ?_)
  have hl : lv_has ls 7 [(2, .int v25), (0, .ref h0), (1, .int p1)] := hl
  refine lv_aload_n hx hb dX12_readCell_20 rfl (lv_at hl 1 rfl) ?_
  refine q_getI E hC25 g0 fa_RX12_114 dX12_readCell_21 (fun v26 ev26 lv26 uv26 => ?_)
  refine lv_istore_n hx hb dX12_readCell_24 rfl hl (by decide) rfl (fun ls hl => ?_)
  have hl : lv_has ls 7 [(3, .int v26), (2, .int v25), (0, .ref h0), (1, .int p1)] := hl
  refine lv_aload_n hx hb dX12_readCell_25 rfl (lv_at hl 2 rfl) ?_
  refine lv_iconst (v := 0) hx hb dX12_readCell_26 rfl ?_
  refine lv_aload_n hx hb dX12_readCell_27 rfl (lv_at hl 2 rfl) ?_
  refine q_getC E hC25 g0 fa_RX12_35 uc dX12_readCell_28 ?_
  refine lv_sipush (v := 2081) hx hb dX12_readCell_31 rfl ?_
  refine q_cald E hC25 (lo := 0) (hi := 6) gca (a := 2081) (show (2081 : Int32).toInt = 2081 from by decide) (by omega) (by omega) (cr_n0 (by omega) (by omega)) dX12_readCell_34 (fun v27 ev27 lv27 uv27 => ?_)
  have m28 : (sI H25 ca (2081 : Int).toNat).toInt = v27.toInt := congrArg Int32.toInt ev27
  refine lv_iconst (v := 1) hx hb dX12_readCell_35 rfl ?_
  refine lv_isub hx hb dX12_readCell_36 (lv_topi (fun v29 ev29 => ?_))
  have ev29i : v29.toInt = (v27.toInt - 1) := i_sub ev29 rfl (by decide) (by omega) (by omega)
  refine q_goI (q_runV (As := [.int 0, .int v29]) (rest := []) E hC25 hS25 (m_X12_count l X Γ H25 hC25 h0 g0 0 (a1 := 0) (by decide) v29 (a2 := (v27.toInt - 1)) ev29i ca gca uc tq ((kp_R hKp25 g0 (ci := 11) (k := 7) rfl (by decide) rfl).trans htq) gtq (by omega) (by omega) (by omega) (by omega)) cw_X12_count cl_RX12_248 g0 ⟨rfl, rfl⟩ rfl hl.1 rfl (Nat.zero_le _) (by decide) dX12_readCell_37) hS25 (fun v30 H30 locs30 hr30 hC30 hS30 => ?_)
  obtain ⟨hp30, hr30⟩ := hr30
  have hKp30 := hKp25.tr (hp30.mono rfl)
  obtain ⟨f30_0, f30_1, f30_2, f30_3, f30_4, f30_5, f30_6, f30_7, f30_8⟩ := hr30
  have hdc := HD.count hd hp30 g0 gca f30_8 f30_2 (by omega) rfl rfl
  have hd := hdc.1
  have hv2 := hdc.2
  refine lv_istore hx hb dX12_readCell_40 hl (by decide) rfl (fun ls hl => ?_)
  have hl : lv_has ls 7 [(4, .int v30), (3, .int v26), (2, .int v25), (0, .ref h0), (1, .int p1)] := hl
  refine lv_bipush (v := 6) hx hb dX12_readCell_42 rfl ?_
  refine lv_iload hx hb dX12_readCell_44 (lv_at hl 0 rfl) ?_
  refine lv_imul hx hb dX12_readCell_46 (lv_topi (fun v31 ev31 => ?_))
  have ev31i : v31.toInt = (6 * v30.toInt) := i_mul ev31 (by decide) rfl (by omega) (by omega)
  refine lv_iload_n hx hb dX12_readCell_47 rfl (lv_at hl 2 rfl) ?_
  refine lv_iadd hx hb dX12_readCell_48 (lv_topi (fun v32 ev32 => ?_))
  have ev32i : v32.toInt = ((6 * v30.toInt) + v25.toInt) := i_add ev32 ev31i rfl (by omega) (by omega)
  refine lv_istore hx hb dX12_readCell_49 hl (by decide) rfl (fun ls hl => ?_)
  have hl : lv_has ls 7 [(5, .int v32), (4, .int v30), (3, .int v26), (2, .int v25), (0, .ref h0), (1, .int p1)] := hl
  refine lv_aload_n hx hb dX12_readCell_51 rfl (lv_at hl 4 rfl) ?_
  refine q_getI E hC30 g0 fa_RX12_218 dX12_readCell_52 (fun v33 ev33 lv33 uv33 => ?_)
  have m34 : (sI H30 h0 (X.1.2 11 12)).toInt = v33.toInt := (congrArg Int32.toInt ev33).trans rfl
  refine q_if_ne hx hb (a := v33.toInt) rfl (tgt := 80) dX12_readCell_55 rfl (fun c35 => ?_) (fun c35 => ?_)
  · refine lv_aload_n hx hb dX12_readCell_80 rfl (lv_at hl 4 rfl) ?_
    refine lv_iload_n hx hb dX12_readCell_81 rfl (lv_at hl 5 rfl) ?_
    refine q_if_ne hx hb (a := a1) e1 (tgt := 92) dX12_readCell_82 rfl (fun c36 => ?_) (fun c36 => ?_)
    · refine lv_iload_n hx hb dX12_readCell_92 rfl (lv_at hl 5 rfl) ?_
      refine lv_iconst (v := 1) hx hb dX12_readCell_93 rfl ?_
      refine q_icmp_ne hx hb (a := a1) (b := 1) e1 (by decide) (tgt := 104) dX12_readCell_94 rfl (fun c37 => ?_) (fun c37 => ?_)
      · refine lv_aload_n hx hb dX12_readCell_104 rfl (lv_at hl 4 rfl) ?_
        refine q_goIp (q_runV (As := []) (rest := [.ref h0]) E hC30 hS30 (m_X12_isBy l X Γ H30 hC30 h0 g0 ca gca uc) cw_X12_isBy cl_RX12_190 g0 ⟨rfl, rfl⟩ rfl hl.1 rfl (show _ ≤ _ from by simp [Value.category]) (by decide) dX12_readCell_105) hS30 (fun v38 locs38 hr38 hS38 => ?_)
        have b38 : (v38.toInt = 1 ∧ _) ∨ (v38.toInt = 0 ∧ _) := hr38.imp (fun h => ⟨by rw [h.1]; decide, h.2⟩) (fun h => ⟨by rw [h.1]; decide, h.2⟩)
        have hbz := b38
        refine q_goV (q_runV (As := [.int v38]) (rest := []) E hC30 hS38 (m_X12_must l X Γ H30 hC30 h0 g0 v38 (a1 := v38.toInt) rfl ca gca uc tq ((kp_R hKp30 g0 (ci := 11) (k := 7) rfl (by decide) rfl).trans htq) gtq (by omega) (by omega)) cw_X12_must cl_RX12_244 g0 ⟨rfl, rfl⟩ rfl hl.1 rfl (Nat.zero_le _) (by decide) dX12_readCell_108) hS38 (fun H39 locs39 hr39 hC39 hS39 => ?_)
        obtain ⟨hp39, hr39⟩ := hr39
        have hKp39 := hKp30.tr (hp39.mono rfl)
        obtain ⟨f39_0, f39_1, f39_2, f39_3, f39_4, f39_5⟩ := hr39
        have hd := HD.must hd hp39 g0 gca (by first | exact hbz | exact Or.inl ⟨rfl, hw⟩ | exact Or.inr ⟨rfl, hw⟩) f39_5 f39_2 (by omega) rfl rfl (by decide)
        refine lv_aload_n hx hb dX12_readCell_111 rfl (lv_at hl 4 rfl) ?_
        refine lv_iconst (v := 0) hx hb dX12_readCell_112 rfl ?_
        refine lv_iload_n hx hb dX12_readCell_113 rfl (lv_at hl 5 rfl) ?_
        refine lv_iconst (v := 2) hx hb dX12_readCell_114 rfl ?_
        refine q_icmp_ne hx hb (a := a1) (b := 2) e1 (by decide) (tgt := 123) dX12_readCell_115 rfl (fun c40 => absurd c40 (by omega)) (fun c40 => ?_)
        refine lv_bipush (v := 9) hx hb dX12_readCell_118 rfl ?_
        refine lv_goto (tgt := 125) hx hb dX12_readCell_120 rfl ?_
        refine q_goI (q_runV (As := [.int 0, .int 9]) (rest := []) E hC39 hS39 (m_X12_count l X Γ H39 hC39 h0 g0 0 (a1 := 0) (by decide) 9 (a2 := 9) (by decide) ca gca uc tq ((kp_R hKp39 g0 (ci := 11) (k := 7) rfl (by decide) rfl).trans htq) gtq (by omega) (by omega) (by omega) (by omega)) cw_X12_count cl_RX12_248 g0 ⟨rfl, rfl⟩ rfl hl.1 rfl (Nat.zero_le _) (by decide) dX12_readCell_125) hS39 (fun v41 H41 locs41 hr41 hC41 hS41 => ?_)
        obtain ⟨hp41, hr41⟩ := hr41
        have hKp41 := hKp39.tr (hp41.mono rfl)
        obtain ⟨f41_0, f41_1, f41_2, f41_3, f41_4, f41_5, f41_6, f41_7, f41_8⟩ := hr41
        have hdc := HD.count hd hp41 g0 gca f41_8 f41_2 (by omega) rfl rfl
        have hd := hdc.1
        refine lv_istore hx hb dX12_readCell_128 hl (by decide) rfl (fun ls hl => ?_)
        have hl : lv_has ls 7 [(6, .int v41), (5, .int v32), (4, .int v30), (3, .int v26), (2, .int v25), (0, .ref h0), (1, .int p1)] := hl
        refine lv_aload_n hx hb dX12_readCell_130 rfl (lv_at hl 5 rfl) ?_
        refine q_getI E hC41 g0 fa_RX12_218 dX12_readCell_131 (fun v42 ev42 lv42 uv42 => ?_)
        have m43 : (sI H41 h0 (X.1.2 11 12)).toInt = v42.toInt := (congrArg Int32.toInt ev42).trans rfl
        refine q_if_le hx hb (a := v42.toInt) rfl (tgt := 138) dX12_readCell_134 rfl (fun c44 => ?_) (fun c44 => ?_)
        · obtain ⟨hQ, mc, ym⟩ := HD.live hd (by omega)
          have mc := mc
          have ym := ym
          refine lv_aload_n hx hb dX12_readCell_138 rfl (lv_at hl 5 rfl) ?_
          refine q_getR E hC41 g0 fa_RX12_41 dX12_readCell_139 (fun q45 eq45 gq45 => ?_)
          have hte2 := eq45; have htg2 := gq45
          refine lv_bipush (v := 36) hx hb dX12_readCell_142 rfl ?_
          refine lv_iload_n hx hb dX12_readCell_144 rfl (lv_at hl 6 rfl) ?_
          refine lv_imul hx hb dX12_readCell_145 (lv_topi (fun v46 ev46 => ?_))
          have ev46i : v46.toInt = (36 * a1) := i_mul ev46 (by decide) e1 (by omega) (by omega)
          refine lv_iload hx hb dX12_readCell_146 (lv_at hl 1 rfl) ?_
          refine lv_iadd hx hb dX12_readCell_148 (lv_topi (fun v47 ev47 => ?_))
          have ev47i : v47.toInt = ((36 * a1) + ((6 * v30.toInt) + v25.toInt)) := i_add ev47 ev46i ev32i (by omega) (by omega)
          refine lv_iconst (v := 1) hx hb dX12_readCell_149 rfl ?_
          refine q_iast E hC41 hS41 gq45 (by decide) rfl rfl (i_in (a := ((36 * a1) + ((6 * v30.toInt) + v25.toInt))) ev47i (by omega) (by omega)) tv_F dX12_readCell_150 (fun H48 locs48 hC48 hS48 U48 => ?_)
          have hKp48 := Kp.upA gq45 rfl (by decide) rfl U48 hKp41
          have mc := mc.ne U48 g0 gtq gq45 (by decide)
          have m49 : (sI H48 h0 (X.1.2 11 12)).toInt = (sI H41 h0 (X.1.2 11 12)).toInt := congrArg Int32.toInt (up_nI U48 (ne_k g0 gq45 (by decide)))
          have m50 : (sI H48 h0 (X.1.2 11 14)).toInt = (sI H41 h0 (X.1.2 11 14)).toInt := congrArg Int32.toInt (up_nI U48 (ne_k g0 gq45 (by decide)))
          have m51 := congrArg tk m50
          have m52 : (sI H48 h0 (X.1.2 11 16)).toInt = (sI H41 h0 (X.1.2 11 16)).toInt := congrArg Int32.toInt (up_nI U48 (ne_k g0 gq45 (by decide)))
          have m53 : (sI H48 h0 (X.1.2 11 18)).toInt = (sI H41 h0 (X.1.2 11 18)).toInt := congrArg Int32.toInt (up_nI U48 (ne_k g0 gq45 (by decide)))
          have m54 : (sI H48 h0 (X.1.2 11 17)).toInt = (sI H41 h0 (X.1.2 11 17)).toInt := congrArg Int32.toInt (up_nI U48 (ne_k g0 gq45 (by decide)))
          have ym := ym.told U48 g0 gca hte2 htg2 (w := a1) (z := (6 * vl (i + 2) + vl (i + 1))) (by rw [i_ix ev47i]; omega) (by omega) (by decide)
          refine lv_aload_n hx hb dX12_readCell_151 rfl (lv_at hl 5 rfl) ?_
          refine q_getC E hC48 g0 fa_RX12_35 uc dX12_readCell_152 ?_
          refine lv_sipush (v := 2080) hx hb dX12_readCell_155 rfl ?_
          refine lv_iload_n hx hb dX12_readCell_158 rfl (lv_at hl 6 rfl) ?_
          refine q_if_ne hx hb (a := a1) e1 (tgt := 167) dX12_readCell_159 rfl (fun c55 => ?_) (fun c55 => absurd c55 (by omega))
          refine lv_iload_n hx hb dX12_readCell_167 rfl (lv_at hl 6 rfl) ?_
          refine lv_iconst (v := 1) hx hb dX12_readCell_168 rfl ?_
          refine q_icmp_ne hx hb (a := a1) (b := 1) e1 (by decide) (tgt := 177) dX12_readCell_169 rfl (fun c56 => ?_) (fun c56 => absurd c56 (by omega))
          refine lv_bipush (v := 98) hx hb dX12_readCell_177 rfl ?_
          refine lv_iadd hx hb dX12_readCell_179 (lv_topi (fun v57 ev57 => ?_))
          have ev57i : v57.toInt = (2080 + 98) := i_add ev57 (by decide) (by decide) (by omega) (by omega)
          refine lv_iload hx hb dX12_readCell_180 (lv_at hl 1 rfl) ?_
          refine lv_iadd hx hb dX12_readCell_182 (lv_topi (fun v58 ev58 => ?_))
          have ev58i : v58.toInt = ((2080 + 98) + ((6 * v30.toInt) + v25.toInt)) := i_add ev58 ev57i ev32i (by omega) (by omega)
          refine lv_iload hx hb dX12_readCell_183 (lv_at hl 0 rfl) ?_
          refine q_cast E hC48 hS48 gca (a := ((2080 + 98) + ((6 * v30.toInt) + v25.toInt))) ev58i (by omega) (by omega) (cs_n98 (a := ((2080 + 98) + ((6 * v30.toInt) + v25.toInt))) (b := v41.toInt) (by omega) (by omega) rfl (by omega) (by omega)) dX12_readCell_185 (fun H59 locs59 hC59 hS59 U59 => ?_)
          have hKp59 := Kp.upD gca rfl rfl (fun _ => ⟨fun _ => nd4 (by omega) (by omega), fun _ => by unfold dpu; omega, fun _ => by unfold dpn; omega⟩) U59 hKp48
          have mc := mc.ne U59 g0 gtq gca (by decide)
          have ym := ym.up U59 g0 gca (by omega)
          have m60 : (sI H59 h0 (X.1.2 11 12)).toInt = (sI H48 h0 (X.1.2 11 12)).toInt := congrArg Int32.toInt (up_nI U59 (ne_k g0 gca (by decide)))
          have m61 : (sI H59 h0 (X.1.2 11 14)).toInt = (sI H48 h0 (X.1.2 11 14)).toInt := congrArg Int32.toInt (up_nI U59 (ne_k g0 gca (by decide)))
          have m62 := congrArg tk m61
          have m63 : (sI H59 h0 (X.1.2 11 16)).toInt = (sI H48 h0 (X.1.2 11 16)).toInt := congrArg Int32.toInt (up_nI U59 (ne_k g0 gca (by decide)))
          have m64 : (sI H59 h0 (X.1.2 11 18)).toInt = (sI H48 h0 (X.1.2 11 18)).toInt := congrArg Int32.toInt (up_nI U59 (ne_k g0 gca (by decide)))
          have m65 : (sI H59 h0 (X.1.2 11 17)).toInt = (sI H48 h0 (X.1.2 11 17)).toInt := congrArg Int32.toInt (up_nI U59 (ne_k g0 gca (by decide)))
          have e66 := up_I U59
          have hz8 := tk_nn (sI H59 h0 (X.1.2 11 14)).toInt
          have hpost : ((sI H59 h0 (X.1.2 11 12)).toInt = 0 ∧ ∃ (S1 : YSt) (i1 : Nat), gHeap kd vl (bfO a1) a1 (lmO a1) S i S1 i1 ∧ MC X H59 h0 tq kd vl w3 pos N i1 ∧ YSM X Γ H59 h0 ca kd vl w3 N S1) ∨ ((sI H59 h0 (X.1.2 11 12)).toInt ≠ 0 ∧ ∀ (S1 : YSt) (i1 : Nat), ¬ gHeap kd vl (bfO a1) a1 (lmO a1) S i S1 i1) := by first | (exfalso; omega) | exact Or.inr ⟨by omega, hno⟩ | exact Or.inl ⟨by omega, _, _, ⟨⟨hP.1.2.1, hP.1.2.2.1, by have := hP.1.2.2.2; omega⟩, ⟨hP.2.1, hP.2.2.1, (show vl (i + 1 + 1) ≤ _ by have := hP.2.2.2; omega)⟩, by omega, by (first | rw [(bfO_0 (a := a1) (by omega)).1] | rw [(bfO_1 (a := a1) (by omega)).1] | rw [(bfO_2 (a := a1) (by omega)).1]); exact hQ.1.2, by (first | rw [(bfO_0 (a := a1) (by omega)).2] | rw [(bfO_1 (a := a1) (by omega)).2] | rw [(bfO_2 (a := a1) (by omega)).2]); exact hQ.2, rfl, rfl⟩, mc, ym⟩ | exact Or.inr ⟨by omega, fun S1 i1 q => by obtain ⟨q1, q2, q3, q4, q5, -, -⟩ := q; (first | (have e1 := bfO_0 (a := a1) (by omega); rw [e1.1] at q4; rw [e1.2] at q5) | (have e1 := bfO_1 (a := a1) (by omega); rw [e1.1] at q4; rw [e1.2] at q5) | (have e1 := bfO_2 (a := a1) (by omega); rw [e1.1] at q4; rw [e1.2] at q5)); first | exact HD.no hd (by omega) ⟨⟨trivial, q4⟩, q5⟩ | exact HD.no hd (by omega) ⟨⟨⟨⟨trivial, q1.1, q1.2.1, by have := q1.2.2; omega⟩, q2.1, q2.2.1, (show vl (i + 2) ≤ _ by have := q2.2.2; omega)⟩, q4⟩, q5⟩⟩
          exact ret H59 locs59 _ _ dX12_readCell_186 ⟨hKp59, ⟨by omega, by omega, by omega, by omega, hpost⟩⟩ hC59 hS59
        · have hz8 := tk_nn (sI H41 h0 (X.1.2 11 14)).toInt
          have hpost : ((sI H41 h0 (X.1.2 11 12)).toInt = 0 ∧ ∃ (S1 : YSt) (i1 : Nat), gHeap kd vl (bfO a1) a1 (lmO a1) S i S1 i1 ∧ MC X H41 h0 tq kd vl w3 pos N i1 ∧ YSM X Γ H41 h0 ca kd vl w3 N S1) ∨ ((sI H41 h0 (X.1.2 11 12)).toInt ≠ 0 ∧ ∀ (S1 : YSt) (i1 : Nat), ¬ gHeap kd vl (bfO a1) a1 (lmO a1) S i S1 i1) := by first | (exfalso; omega) | exact Or.inr ⟨by omega, hno⟩ | exact Or.inl ⟨by omega, _, _, ⟨⟨hP.1.2.1, hP.1.2.2.1, by have := hP.1.2.2.2; omega⟩, ⟨hP.2.1, hP.2.2.1, (show vl (i + 1 + 1) ≤ _ by have := hP.2.2.2; omega)⟩, by omega, by (first | rw [(bfO_0 (a := a1) (by omega)).1] | rw [(bfO_1 (a := a1) (by omega)).1] | rw [(bfO_2 (a := a1) (by omega)).1]); exact hQ.1.2, by (first | rw [(bfO_0 (a := a1) (by omega)).2] | rw [(bfO_1 (a := a1) (by omega)).2] | rw [(bfO_2 (a := a1) (by omega)).2]); exact hQ.2, rfl, rfl⟩, mc, ym⟩ | exact Or.inr ⟨by omega, fun S1 i1 q => by obtain ⟨q1, q2, q3, q4, q5, -, -⟩ := q; (first | (have e1 := bfO_0 (a := a1) (by omega); rw [e1.1] at q4; rw [e1.2] at q5) | (have e1 := bfO_1 (a := a1) (by omega); rw [e1.1] at q4; rw [e1.2] at q5) | (have e1 := bfO_2 (a := a1) (by omega); rw [e1.1] at q4; rw [e1.2] at q5)); first | exact HD.no hd (by omega) ⟨⟨trivial, q4⟩, q5⟩ | exact HD.no hd (by omega) ⟨⟨⟨⟨trivial, q1.1, q1.2.1, by have := q1.2.2; omega⟩, q2.1, q2.2.1, (show vl (i + 2) ≤ _ by have := q2.2.2; omega)⟩, q4⟩, q5⟩⟩
          exact ret H41 locs41 _ _ dX12_readCell_137 ⟨hKp41, ⟨by omega, by omega, by omega, by omega, hpost⟩⟩ hC41 hS41
      · refine lv_aload_n hx hb dX12_readCell_97 rfl (lv_at hl 4 rfl) ?_
        refine q_goIp (q_runV (As := []) (rest := [.ref h0]) E hC30 hS30 (m_X12_isTall l X Γ H30 hC30 h0 g0 ca gca uc) cw_X12_isTall cl_RX12_184 g0 ⟨rfl, rfl⟩ rfl hl.1 rfl (show _ ≤ _ from by simp [Value.category]) (by decide) dX12_readCell_98) hS30 (fun v67 locs67 hr67 hS67 => ?_)
        rcases hr67 with ⟨rfl, hw⟩ | ⟨rfl, hw⟩
        · have hw7 := hw
          refine lv_goto (tgt := 108) hx hb dX12_readCell_101 rfl ?_
          refine q_goV (q_runV (As := [.int 1]) (rest := []) E hC30 hS67 (m_X12_must l X Γ H30 hC30 h0 g0 1 (a1 := 1) (by decide) ca gca uc tq ((kp_R hKp30 g0 (ci := 11) (k := 7) rfl (by decide) rfl).trans htq) gtq (by omega) (by omega)) cw_X12_must cl_RX12_244 g0 ⟨rfl, rfl⟩ rfl hl.1 rfl (Nat.zero_le _) (by decide) dX12_readCell_108) hS67 (fun H68 locs68 hr68 hC68 hS68 => ?_)
          obtain ⟨hp68, hr68⟩ := hr68
          have hKp68 := hKp30.tr (hp68.mono rfl)
          obtain ⟨f68_0, f68_1, f68_2, f68_3, f68_4, f68_5⟩ := hr68
          have hd := HD.must hd hp68 g0 gca (by first | exact hbz | exact Or.inl ⟨rfl, hw⟩ | exact Or.inr ⟨rfl, hw⟩) f68_5 f68_2 (by omega) rfl rfl (by decide)
          refine lv_aload_n hx hb dX12_readCell_111 rfl (lv_at hl 4 rfl) ?_
          refine lv_iconst (v := 0) hx hb dX12_readCell_112 rfl ?_
          refine lv_iload_n hx hb dX12_readCell_113 rfl (lv_at hl 5 rfl) ?_
          refine lv_iconst (v := 2) hx hb dX12_readCell_114 rfl ?_
          refine q_icmp_ne hx hb (a := a1) (b := 2) e1 (by decide) (tgt := 123) dX12_readCell_115 rfl (fun c69 => ?_) (fun c69 => absurd c69 (by omega))
          refine lv_bipush (v := 99) hx hb dX12_readCell_123 rfl ?_
          refine q_goI (q_runV (As := [.int 0, .int 99]) (rest := []) E hC68 hS68 (m_X12_count l X Γ H68 hC68 h0 g0 0 (a1 := 0) (by decide) 99 (a2 := 99) (by decide) ca gca uc tq ((kp_R hKp68 g0 (ci := 11) (k := 7) rfl (by decide) rfl).trans htq) gtq (by omega) (by omega) (by omega) (by omega)) cw_X12_count cl_RX12_248 g0 ⟨rfl, rfl⟩ rfl hl.1 rfl (Nat.zero_le _) (by decide) dX12_readCell_125) hS68 (fun v70 H70 locs70 hr70 hC70 hS70 => ?_)
          obtain ⟨hp70, hr70⟩ := hr70
          have hKp70 := hKp68.tr (hp70.mono rfl)
          obtain ⟨f70_0, f70_1, f70_2, f70_3, f70_4, f70_5, f70_6, f70_7, f70_8⟩ := hr70
          have hdc := HD.count hd hp70 g0 gca f70_8 f70_2 (by omega) rfl rfl
          have hd := hdc.1
          refine lv_istore hx hb dX12_readCell_128 hl (by decide) rfl (fun ls hl => ?_)
          have hl : lv_has ls 7 [(6, .int v70), (5, .int v32), (4, .int v30), (3, .int v26), (2, .int v25), (0, .ref h0), (1, .int p1)] := hl
          refine lv_aload_n hx hb dX12_readCell_130 rfl (lv_at hl 5 rfl) ?_
          refine q_getI E hC70 g0 fa_RX12_218 dX12_readCell_131 (fun v71 ev71 lv71 uv71 => ?_)
          have m72 : (sI H70 h0 (X.1.2 11 12)).toInt = v71.toInt := (congrArg Int32.toInt ev71).trans rfl
          refine q_if_le hx hb (a := v71.toInt) rfl (tgt := 138) dX12_readCell_134 rfl (fun c73 => ?_) (fun c73 => ?_)
          · obtain ⟨hQ, mc, ym⟩ := HD.live hd (by omega)
            have mc := mc
            have ym := ym
            refine lv_aload_n hx hb dX12_readCell_138 rfl (lv_at hl 5 rfl) ?_
            refine q_getR E hC70 g0 fa_RX12_41 dX12_readCell_139 (fun q74 eq74 gq74 => ?_)
            have hte2 := eq74; have htg2 := gq74
            refine lv_bipush (v := 36) hx hb dX12_readCell_142 rfl ?_
            refine lv_iload_n hx hb dX12_readCell_144 rfl (lv_at hl 6 rfl) ?_
            refine lv_imul hx hb dX12_readCell_145 (lv_topi (fun v75 ev75 => ?_))
            have ev75i : v75.toInt = (36 * a1) := i_mul ev75 (by decide) e1 (by omega) (by omega)
            refine lv_iload hx hb dX12_readCell_146 (lv_at hl 1 rfl) ?_
            refine lv_iadd hx hb dX12_readCell_148 (lv_topi (fun v76 ev76 => ?_))
            have ev76i : v76.toInt = ((36 * a1) + ((6 * v30.toInt) + v25.toInt)) := i_add ev76 ev75i ev32i (by omega) (by omega)
            refine lv_iconst (v := 1) hx hb dX12_readCell_149 rfl ?_
            refine q_iast E hC70 hS70 gq74 (by decide) rfl rfl (i_in (a := ((36 * a1) + ((6 * v30.toInt) + v25.toInt))) ev76i (by omega) (by omega)) tv_F dX12_readCell_150 (fun H77 locs77 hC77 hS77 U77 => ?_)
            have hKp77 := Kp.upA gq74 rfl (by decide) rfl U77 hKp70
            have mc := mc.ne U77 g0 gtq gq74 (by decide)
            have m78 : (sI H77 h0 (X.1.2 11 12)).toInt = (sI H70 h0 (X.1.2 11 12)).toInt := congrArg Int32.toInt (up_nI U77 (ne_k g0 gq74 (by decide)))
            have m79 : (sI H77 h0 (X.1.2 11 14)).toInt = (sI H70 h0 (X.1.2 11 14)).toInt := congrArg Int32.toInt (up_nI U77 (ne_k g0 gq74 (by decide)))
            have m80 := congrArg tk m79
            have m81 : (sI H77 h0 (X.1.2 11 16)).toInt = (sI H70 h0 (X.1.2 11 16)).toInt := congrArg Int32.toInt (up_nI U77 (ne_k g0 gq74 (by decide)))
            have m82 : (sI H77 h0 (X.1.2 11 18)).toInt = (sI H70 h0 (X.1.2 11 18)).toInt := congrArg Int32.toInt (up_nI U77 (ne_k g0 gq74 (by decide)))
            have m83 : (sI H77 h0 (X.1.2 11 17)).toInt = (sI H70 h0 (X.1.2 11 17)).toInt := congrArg Int32.toInt (up_nI U77 (ne_k g0 gq74 (by decide)))
            have ym := ym.told U77 g0 gca hte2 htg2 (w := a1) (z := (6 * vl (i + 2) + vl (i + 1))) (by rw [i_ix ev76i]; omega) (by omega) (by decide)
            refine lv_aload_n hx hb dX12_readCell_151 rfl (lv_at hl 5 rfl) ?_
            refine q_getC E hC77 g0 fa_RX12_35 uc dX12_readCell_152 ?_
            refine lv_sipush (v := 2080) hx hb dX12_readCell_155 rfl ?_
            refine lv_iload_n hx hb dX12_readCell_158 rfl (lv_at hl 6 rfl) ?_
            refine q_if_ne hx hb (a := a1) e1 (tgt := 167) dX12_readCell_159 rfl (fun c84 => ?_) (fun c84 => absurd c84 (by omega))
            refine lv_iload_n hx hb dX12_readCell_167 rfl (lv_at hl 6 rfl) ?_
            refine lv_iconst (v := 1) hx hb dX12_readCell_168 rfl ?_
            refine q_icmp_ne hx hb (a := a1) (b := 1) e1 (by decide) (tgt := 177) dX12_readCell_169 rfl (fun c85 => absurd c85 (by omega)) (fun c85 => ?_)
            refine lv_bipush (v := 62) hx hb dX12_readCell_172 rfl ?_
            refine lv_goto (tgt := 179) hx hb dX12_readCell_174 rfl ?_
            refine lv_iadd hx hb dX12_readCell_179 (lv_topi (fun v86 ev86 => ?_))
            have ev86i : v86.toInt = (2080 + 62) := i_add ev86 (by decide) (by decide) (by omega) (by omega)
            refine lv_iload hx hb dX12_readCell_180 (lv_at hl 1 rfl) ?_
            refine lv_iadd hx hb dX12_readCell_182 (lv_topi (fun v87 ev87 => ?_))
            have ev87i : v87.toInt = ((2080 + 62) + ((6 * v30.toInt) + v25.toInt)) := i_add ev87 ev86i ev32i (by omega) (by omega)
            refine lv_iload hx hb dX12_readCell_183 (lv_at hl 0 rfl) ?_
            refine q_cast E hC77 hS77 gca (a := ((2080 + 62) + ((6 * v30.toInt) + v25.toInt))) ev87i (by omega) (by omega) (cs_n26 (a := ((2080 + 62) + ((6 * v30.toInt) + v25.toInt))) (b := v70.toInt) (by omega) (by omega) rfl (by omega) (by omega)) dX12_readCell_185 (fun H88 locs88 hC88 hS88 U88 => ?_)
            have hKp88 := Kp.upD gca rfl rfl (fun _ => ⟨fun _ => nd4 (by omega) (by omega), fun _ => by unfold dpu; omega, fun _ => by unfold dpn; omega⟩) U88 hKp77
            have mc := mc.ne U88 g0 gtq gca (by decide)
            have ym := ym.up U88 g0 gca (by omega)
            have m89 : (sI H88 h0 (X.1.2 11 12)).toInt = (sI H77 h0 (X.1.2 11 12)).toInt := congrArg Int32.toInt (up_nI U88 (ne_k g0 gca (by decide)))
            have m90 : (sI H88 h0 (X.1.2 11 14)).toInt = (sI H77 h0 (X.1.2 11 14)).toInt := congrArg Int32.toInt (up_nI U88 (ne_k g0 gca (by decide)))
            have m91 := congrArg tk m90
            have m92 : (sI H88 h0 (X.1.2 11 16)).toInt = (sI H77 h0 (X.1.2 11 16)).toInt := congrArg Int32.toInt (up_nI U88 (ne_k g0 gca (by decide)))
            have m93 : (sI H88 h0 (X.1.2 11 18)).toInt = (sI H77 h0 (X.1.2 11 18)).toInt := congrArg Int32.toInt (up_nI U88 (ne_k g0 gca (by decide)))
            have m94 : (sI H88 h0 (X.1.2 11 17)).toInt = (sI H77 h0 (X.1.2 11 17)).toInt := congrArg Int32.toInt (up_nI U88 (ne_k g0 gca (by decide)))
            have e95 := up_I U88
            have hz8 := tk_nn (sI H88 h0 (X.1.2 11 14)).toInt
            have hpost : ((sI H88 h0 (X.1.2 11 12)).toInt = 0 ∧ ∃ (S1 : YSt) (i1 : Nat), gHeap kd vl (bfO a1) a1 (lmO a1) S i S1 i1 ∧ MC X H88 h0 tq kd vl w3 pos N i1 ∧ YSM X Γ H88 h0 ca kd vl w3 N S1) ∨ ((sI H88 h0 (X.1.2 11 12)).toInt ≠ 0 ∧ ∀ (S1 : YSt) (i1 : Nat), ¬ gHeap kd vl (bfO a1) a1 (lmO a1) S i S1 i1) := by first | (exfalso; omega) | exact Or.inr ⟨by omega, hno⟩ | exact Or.inl ⟨by omega, _, _, ⟨⟨hP.1.2.1, hP.1.2.2.1, by have := hP.1.2.2.2; omega⟩, ⟨hP.2.1, hP.2.2.1, (show vl (i + 1 + 1) ≤ _ by have := hP.2.2.2; omega)⟩, by omega, by (first | rw [(bfO_0 (a := a1) (by omega)).1] | rw [(bfO_1 (a := a1) (by omega)).1] | rw [(bfO_2 (a := a1) (by omega)).1]); exact hQ.1.2, by (first | rw [(bfO_0 (a := a1) (by omega)).2] | rw [(bfO_1 (a := a1) (by omega)).2] | rw [(bfO_2 (a := a1) (by omega)).2]); exact hQ.2, rfl, rfl⟩, mc, ym⟩ | exact Or.inr ⟨by omega, fun S1 i1 q => by obtain ⟨q1, q2, q3, q4, q5, -, -⟩ := q; (first | (have e1 := bfO_0 (a := a1) (by omega); rw [e1.1] at q4; rw [e1.2] at q5) | (have e1 := bfO_1 (a := a1) (by omega); rw [e1.1] at q4; rw [e1.2] at q5) | (have e1 := bfO_2 (a := a1) (by omega); rw [e1.1] at q4; rw [e1.2] at q5)); first | exact HD.no hd (by omega) ⟨⟨trivial, q4⟩, q5⟩ | exact HD.no hd (by omega) ⟨⟨⟨⟨trivial, q1.1, q1.2.1, by have := q1.2.2; omega⟩, q2.1, q2.2.1, (show vl (i + 2) ≤ _ by have := q2.2.2; omega)⟩, q4⟩, q5⟩⟩
            exact ret H88 locs88 _ _ dX12_readCell_186 ⟨hKp88, ⟨by omega, by omega, by omega, by omega, hpost⟩⟩ hC88 hS88
          · have hz8 := tk_nn (sI H70 h0 (X.1.2 11 14)).toInt
            have hpost : ((sI H70 h0 (X.1.2 11 12)).toInt = 0 ∧ ∃ (S1 : YSt) (i1 : Nat), gHeap kd vl (bfO a1) a1 (lmO a1) S i S1 i1 ∧ MC X H70 h0 tq kd vl w3 pos N i1 ∧ YSM X Γ H70 h0 ca kd vl w3 N S1) ∨ ((sI H70 h0 (X.1.2 11 12)).toInt ≠ 0 ∧ ∀ (S1 : YSt) (i1 : Nat), ¬ gHeap kd vl (bfO a1) a1 (lmO a1) S i S1 i1) := by first | (exfalso; omega) | exact Or.inr ⟨by omega, hno⟩ | exact Or.inl ⟨by omega, _, _, ⟨⟨hP.1.2.1, hP.1.2.2.1, by have := hP.1.2.2.2; omega⟩, ⟨hP.2.1, hP.2.2.1, (show vl (i + 1 + 1) ≤ _ by have := hP.2.2.2; omega)⟩, by omega, by (first | rw [(bfO_0 (a := a1) (by omega)).1] | rw [(bfO_1 (a := a1) (by omega)).1] | rw [(bfO_2 (a := a1) (by omega)).1]); exact hQ.1.2, by (first | rw [(bfO_0 (a := a1) (by omega)).2] | rw [(bfO_1 (a := a1) (by omega)).2] | rw [(bfO_2 (a := a1) (by omega)).2]); exact hQ.2, rfl, rfl⟩, mc, ym⟩ | exact Or.inr ⟨by omega, fun S1 i1 q => by obtain ⟨q1, q2, q3, q4, q5, -, -⟩ := q; (first | (have e1 := bfO_0 (a := a1) (by omega); rw [e1.1] at q4; rw [e1.2] at q5) | (have e1 := bfO_1 (a := a1) (by omega); rw [e1.1] at q4; rw [e1.2] at q5) | (have e1 := bfO_2 (a := a1) (by omega); rw [e1.1] at q4; rw [e1.2] at q5)); first | exact HD.no hd (by omega) ⟨⟨trivial, q4⟩, q5⟩ | exact HD.no hd (by omega) ⟨⟨⟨⟨trivial, q1.1, q1.2.1, by have := q1.2.2; omega⟩, q2.1, q2.2.1, (show vl (i + 2) ≤ _ by have := q2.2.2; omega)⟩, q4⟩, q5⟩⟩
            exact ret H70 locs70 _ _ dX12_readCell_137 ⟨hKp70, ⟨by omega, by omega, by omega, by omega, hpost⟩⟩ hC70 hS70
        · have hw7 := hw
          refine lv_goto (tgt := 108) hx hb dX12_readCell_101 rfl ?_
          refine q_goV (q_runV (As := [.int 0]) (rest := []) E hC30 hS67 (m_X12_must l X Γ H30 hC30 h0 g0 0 (a1 := 0) (by decide) ca gca uc tq ((kp_R hKp30 g0 (ci := 11) (k := 7) rfl (by decide) rfl).trans htq) gtq (by omega) (by omega)) cw_X12_must cl_RX12_244 g0 ⟨rfl, rfl⟩ rfl hl.1 rfl (Nat.zero_le _) (by decide) dX12_readCell_108) hS67 (fun H96 locs96 hr96 hC96 hS96 => ?_)
          obtain ⟨hp96, hr96⟩ := hr96
          have hKp96 := hKp30.tr (hp96.mono rfl)
          obtain ⟨f96_0, f96_1, f96_2, f96_3, f96_4, f96_5⟩ := hr96
          have hd := HD.must hd hp96 g0 gca (by first | exact hbz | exact Or.inl ⟨rfl, hw⟩ | exact Or.inr ⟨rfl, hw⟩) f96_5 f96_2 (by omega) rfl rfl (by decide)
          refine lv_aload_n hx hb dX12_readCell_111 rfl (lv_at hl 4 rfl) ?_
          refine lv_iconst (v := 0) hx hb dX12_readCell_112 rfl ?_
          refine lv_iload_n hx hb dX12_readCell_113 rfl (lv_at hl 5 rfl) ?_
          refine lv_iconst (v := 2) hx hb dX12_readCell_114 rfl ?_
          refine q_icmp_ne hx hb (a := a1) (b := 2) e1 (by decide) (tgt := 123) dX12_readCell_115 rfl (fun c97 => ?_) (fun c97 => absurd c97 (by omega))
          refine lv_bipush (v := 99) hx hb dX12_readCell_123 rfl ?_
          refine q_goI (q_runV (As := [.int 0, .int 99]) (rest := []) E hC96 hS96 (m_X12_count l X Γ H96 hC96 h0 g0 0 (a1 := 0) (by decide) 99 (a2 := 99) (by decide) ca gca uc tq ((kp_R hKp96 g0 (ci := 11) (k := 7) rfl (by decide) rfl).trans htq) gtq (by omega) (by omega) (by omega) (by omega)) cw_X12_count cl_RX12_248 g0 ⟨rfl, rfl⟩ rfl hl.1 rfl (Nat.zero_le _) (by decide) dX12_readCell_125) hS96 (fun v98 H98 locs98 hr98 hC98 hS98 => ?_)
          obtain ⟨hp98, hr98⟩ := hr98
          have hKp98 := hKp96.tr (hp98.mono rfl)
          obtain ⟨f98_0, f98_1, f98_2, f98_3, f98_4, f98_5, f98_6, f98_7, f98_8⟩ := hr98
          have hdc := HD.count hd hp98 g0 gca f98_8 f98_2 (by omega) rfl rfl
          have hd := hdc.1
          refine lv_istore hx hb dX12_readCell_128 hl (by decide) rfl (fun ls hl => ?_)
          have hl : lv_has ls 7 [(6, .int v98), (5, .int v32), (4, .int v30), (3, .int v26), (2, .int v25), (0, .ref h0), (1, .int p1)] := hl
          refine lv_aload_n hx hb dX12_readCell_130 rfl (lv_at hl 5 rfl) ?_
          refine q_getI E hC98 g0 fa_RX12_218 dX12_readCell_131 (fun v99 ev99 lv99 uv99 => ?_)
          have m100 : (sI H98 h0 (X.1.2 11 12)).toInt = v99.toInt := (congrArg Int32.toInt ev99).trans rfl
          refine q_if_le hx hb (a := v99.toInt) rfl (tgt := 138) dX12_readCell_134 rfl (fun c101 => ?_) (fun c101 => ?_)
          · obtain ⟨hQ, mc, ym⟩ := HD.live hd (by omega)
            have mc := mc
            have ym := ym
            refine lv_aload_n hx hb dX12_readCell_138 rfl (lv_at hl 5 rfl) ?_
            refine q_getR E hC98 g0 fa_RX12_41 dX12_readCell_139 (fun q102 eq102 gq102 => ?_)
            have hte2 := eq102; have htg2 := gq102
            refine lv_bipush (v := 36) hx hb dX12_readCell_142 rfl ?_
            refine lv_iload_n hx hb dX12_readCell_144 rfl (lv_at hl 6 rfl) ?_
            refine lv_imul hx hb dX12_readCell_145 (lv_topi (fun v103 ev103 => ?_))
            have ev103i : v103.toInt = (36 * a1) := i_mul ev103 (by decide) e1 (by omega) (by omega)
            refine lv_iload hx hb dX12_readCell_146 (lv_at hl 1 rfl) ?_
            refine lv_iadd hx hb dX12_readCell_148 (lv_topi (fun v104 ev104 => ?_))
            have ev104i : v104.toInt = ((36 * a1) + ((6 * v30.toInt) + v25.toInt)) := i_add ev104 ev103i ev32i (by omega) (by omega)
            refine lv_iconst (v := 1) hx hb dX12_readCell_149 rfl ?_
            refine q_iast E hC98 hS98 gq102 (by decide) rfl rfl (i_in (a := ((36 * a1) + ((6 * v30.toInt) + v25.toInt))) ev104i (by omega) (by omega)) tv_F dX12_readCell_150 (fun H105 locs105 hC105 hS105 U105 => ?_)
            have hKp105 := Kp.upA gq102 rfl (by decide) rfl U105 hKp98
            have mc := mc.ne U105 g0 gtq gq102 (by decide)
            have m106 : (sI H105 h0 (X.1.2 11 12)).toInt = (sI H98 h0 (X.1.2 11 12)).toInt := congrArg Int32.toInt (up_nI U105 (ne_k g0 gq102 (by decide)))
            have m107 : (sI H105 h0 (X.1.2 11 14)).toInt = (sI H98 h0 (X.1.2 11 14)).toInt := congrArg Int32.toInt (up_nI U105 (ne_k g0 gq102 (by decide)))
            have m108 := congrArg tk m107
            have m109 : (sI H105 h0 (X.1.2 11 16)).toInt = (sI H98 h0 (X.1.2 11 16)).toInt := congrArg Int32.toInt (up_nI U105 (ne_k g0 gq102 (by decide)))
            have m110 : (sI H105 h0 (X.1.2 11 18)).toInt = (sI H98 h0 (X.1.2 11 18)).toInt := congrArg Int32.toInt (up_nI U105 (ne_k g0 gq102 (by decide)))
            have m111 : (sI H105 h0 (X.1.2 11 17)).toInt = (sI H98 h0 (X.1.2 11 17)).toInt := congrArg Int32.toInt (up_nI U105 (ne_k g0 gq102 (by decide)))
            have ym := ym.told U105 g0 gca hte2 htg2 (w := a1) (z := (6 * vl (i + 2) + vl (i + 1))) (by rw [i_ix ev104i]; omega) (by omega) (by decide)
            refine lv_aload_n hx hb dX12_readCell_151 rfl (lv_at hl 5 rfl) ?_
            refine q_getC E hC105 g0 fa_RX12_35 uc dX12_readCell_152 ?_
            refine lv_sipush (v := 2080) hx hb dX12_readCell_155 rfl ?_
            refine lv_iload_n hx hb dX12_readCell_158 rfl (lv_at hl 6 rfl) ?_
            refine q_if_ne hx hb (a := a1) e1 (tgt := 167) dX12_readCell_159 rfl (fun c112 => ?_) (fun c112 => absurd c112 (by omega))
            refine lv_iload_n hx hb dX12_readCell_167 rfl (lv_at hl 6 rfl) ?_
            refine lv_iconst (v := 1) hx hb dX12_readCell_168 rfl ?_
            refine q_icmp_ne hx hb (a := a1) (b := 1) e1 (by decide) (tgt := 177) dX12_readCell_169 rfl (fun c113 => absurd c113 (by omega)) (fun c113 => ?_)
            refine lv_bipush (v := 62) hx hb dX12_readCell_172 rfl ?_
            refine lv_goto (tgt := 179) hx hb dX12_readCell_174 rfl ?_
            refine lv_iadd hx hb dX12_readCell_179 (lv_topi (fun v114 ev114 => ?_))
            have ev114i : v114.toInt = (2080 + 62) := i_add ev114 (by decide) (by decide) (by omega) (by omega)
            refine lv_iload hx hb dX12_readCell_180 (lv_at hl 1 rfl) ?_
            refine lv_iadd hx hb dX12_readCell_182 (lv_topi (fun v115 ev115 => ?_))
            have ev115i : v115.toInt = ((2080 + 62) + ((6 * v30.toInt) + v25.toInt)) := i_add ev115 ev114i ev32i (by omega) (by omega)
            refine lv_iload hx hb dX12_readCell_183 (lv_at hl 0 rfl) ?_
            refine q_cast E hC105 hS105 gca (a := ((2080 + 62) + ((6 * v30.toInt) + v25.toInt))) ev115i (by omega) (by omega) (cs_n26 (a := ((2080 + 62) + ((6 * v30.toInt) + v25.toInt))) (b := v98.toInt) (by omega) (by omega) rfl (by omega) (by omega)) dX12_readCell_185 (fun H116 locs116 hC116 hS116 U116 => ?_)
            have hKp116 := Kp.upD gca rfl rfl (fun _ => ⟨fun _ => nd4 (by omega) (by omega), fun _ => by unfold dpu; omega, fun _ => by unfold dpn; omega⟩) U116 hKp105
            have mc := mc.ne U116 g0 gtq gca (by decide)
            have ym := ym.up U116 g0 gca (by omega)
            have m117 : (sI H116 h0 (X.1.2 11 12)).toInt = (sI H105 h0 (X.1.2 11 12)).toInt := congrArg Int32.toInt (up_nI U116 (ne_k g0 gca (by decide)))
            have m118 : (sI H116 h0 (X.1.2 11 14)).toInt = (sI H105 h0 (X.1.2 11 14)).toInt := congrArg Int32.toInt (up_nI U116 (ne_k g0 gca (by decide)))
            have m119 := congrArg tk m118
            have m120 : (sI H116 h0 (X.1.2 11 16)).toInt = (sI H105 h0 (X.1.2 11 16)).toInt := congrArg Int32.toInt (up_nI U116 (ne_k g0 gca (by decide)))
            have m121 : (sI H116 h0 (X.1.2 11 18)).toInt = (sI H105 h0 (X.1.2 11 18)).toInt := congrArg Int32.toInt (up_nI U116 (ne_k g0 gca (by decide)))
            have m122 : (sI H116 h0 (X.1.2 11 17)).toInt = (sI H105 h0 (X.1.2 11 17)).toInt := congrArg Int32.toInt (up_nI U116 (ne_k g0 gca (by decide)))
            have e123 := up_I U116
            have hz8 := tk_nn (sI H116 h0 (X.1.2 11 14)).toInt
            have hpost : ((sI H116 h0 (X.1.2 11 12)).toInt = 0 ∧ ∃ (S1 : YSt) (i1 : Nat), gHeap kd vl (bfO a1) a1 (lmO a1) S i S1 i1 ∧ MC X H116 h0 tq kd vl w3 pos N i1 ∧ YSM X Γ H116 h0 ca kd vl w3 N S1) ∨ ((sI H116 h0 (X.1.2 11 12)).toInt ≠ 0 ∧ ∀ (S1 : YSt) (i1 : Nat), ¬ gHeap kd vl (bfO a1) a1 (lmO a1) S i S1 i1) := by first | (exfalso; omega) | exact Or.inr ⟨by omega, hno⟩ | exact Or.inl ⟨by omega, _, _, ⟨⟨hP.1.2.1, hP.1.2.2.1, by have := hP.1.2.2.2; omega⟩, ⟨hP.2.1, hP.2.2.1, (show vl (i + 1 + 1) ≤ _ by have := hP.2.2.2; omega)⟩, by omega, by (first | rw [(bfO_0 (a := a1) (by omega)).1] | rw [(bfO_1 (a := a1) (by omega)).1] | rw [(bfO_2 (a := a1) (by omega)).1]); exact hQ.1.2, by (first | rw [(bfO_0 (a := a1) (by omega)).2] | rw [(bfO_1 (a := a1) (by omega)).2] | rw [(bfO_2 (a := a1) (by omega)).2]); exact hQ.2, rfl, rfl⟩, mc, ym⟩ | exact Or.inr ⟨by omega, fun S1 i1 q => by obtain ⟨q1, q2, q3, q4, q5, -, -⟩ := q; (first | (have e1 := bfO_0 (a := a1) (by omega); rw [e1.1] at q4; rw [e1.2] at q5) | (have e1 := bfO_1 (a := a1) (by omega); rw [e1.1] at q4; rw [e1.2] at q5) | (have e1 := bfO_2 (a := a1) (by omega); rw [e1.1] at q4; rw [e1.2] at q5)); first | exact HD.no hd (by omega) ⟨⟨trivial, q4⟩, q5⟩ | exact HD.no hd (by omega) ⟨⟨⟨⟨trivial, q1.1, q1.2.1, by have := q1.2.2; omega⟩, q2.1, q2.2.1, (show vl (i + 2) ≤ _ by have := q2.2.2; omega)⟩, q4⟩, q5⟩⟩
            exact ret H116 locs116 _ _ dX12_readCell_186 ⟨hKp116, ⟨by omega, by omega, by omega, by omega, hpost⟩⟩ hC116 hS116
          · have hz8 := tk_nn (sI H98 h0 (X.1.2 11 14)).toInt
            have hpost : ((sI H98 h0 (X.1.2 11 12)).toInt = 0 ∧ ∃ (S1 : YSt) (i1 : Nat), gHeap kd vl (bfO a1) a1 (lmO a1) S i S1 i1 ∧ MC X H98 h0 tq kd vl w3 pos N i1 ∧ YSM X Γ H98 h0 ca kd vl w3 N S1) ∨ ((sI H98 h0 (X.1.2 11 12)).toInt ≠ 0 ∧ ∀ (S1 : YSt) (i1 : Nat), ¬ gHeap kd vl (bfO a1) a1 (lmO a1) S i S1 i1) := by first | (exfalso; omega) | exact Or.inr ⟨by omega, hno⟩ | exact Or.inl ⟨by omega, _, _, ⟨⟨hP.1.2.1, hP.1.2.2.1, by have := hP.1.2.2.2; omega⟩, ⟨hP.2.1, hP.2.2.1, (show vl (i + 1 + 1) ≤ _ by have := hP.2.2.2; omega)⟩, by omega, by (first | rw [(bfO_0 (a := a1) (by omega)).1] | rw [(bfO_1 (a := a1) (by omega)).1] | rw [(bfO_2 (a := a1) (by omega)).1]); exact hQ.1.2, by (first | rw [(bfO_0 (a := a1) (by omega)).2] | rw [(bfO_1 (a := a1) (by omega)).2] | rw [(bfO_2 (a := a1) (by omega)).2]); exact hQ.2, rfl, rfl⟩, mc, ym⟩ | exact Or.inr ⟨by omega, fun S1 i1 q => by obtain ⟨q1, q2, q3, q4, q5, -, -⟩ := q; (first | (have e1 := bfO_0 (a := a1) (by omega); rw [e1.1] at q4; rw [e1.2] at q5) | (have e1 := bfO_1 (a := a1) (by omega); rw [e1.1] at q4; rw [e1.2] at q5) | (have e1 := bfO_2 (a := a1) (by omega); rw [e1.1] at q4; rw [e1.2] at q5)); first | exact HD.no hd (by omega) ⟨⟨trivial, q4⟩, q5⟩ | exact HD.no hd (by omega) ⟨⟨⟨⟨trivial, q1.1, q1.2.1, by have := q1.2.2; omega⟩, q2.1, q2.2.1, (show vl (i + 2) ≤ _ by have := q2.2.2; omega)⟩, q4⟩, q5⟩⟩
            exact ret H98 locs98 _ _ dX12_readCell_137 ⟨hKp98, ⟨by omega, by omega, by omega, by omega, hpost⟩⟩ hC98 hS98
    · refine lv_aload_n hx hb dX12_readCell_85 rfl (lv_at hl 4 rfl) ?_
      refine q_goIp (q_runV (As := []) (rest := [.ref h0]) E hC30 hS30 (m_X12_isDeep l X Γ H30 hC30 h0 g0 ca gca uc) cw_X12_isDeep cl_RX12_181 g0 ⟨rfl, rfl⟩ rfl hl.1 rfl (show _ ≤ _ from by simp [Value.category]) (by decide) dX12_readCell_86) hS30 (fun v124 locs124 hr124 hS124 => ?_)
      rcases hr124 with ⟨rfl, hw⟩ | ⟨rfl, hw⟩
      · have hw5 := hw
        refine lv_goto (tgt := 108) hx hb dX12_readCell_89 rfl ?_
        refine q_goV (q_runV (As := [.int 1]) (rest := []) E hC30 hS124 (m_X12_must l X Γ H30 hC30 h0 g0 1 (a1 := 1) (by decide) ca gca uc tq ((kp_R hKp30 g0 (ci := 11) (k := 7) rfl (by decide) rfl).trans htq) gtq (by omega) (by omega)) cw_X12_must cl_RX12_244 g0 ⟨rfl, rfl⟩ rfl hl.1 rfl (Nat.zero_le _) (by decide) dX12_readCell_108) hS124 (fun H125 locs125 hr125 hC125 hS125 => ?_)
        obtain ⟨hp125, hr125⟩ := hr125
        have hKp125 := hKp30.tr (hp125.mono rfl)
        obtain ⟨f125_0, f125_1, f125_2, f125_3, f125_4, f125_5⟩ := hr125
        have hd := HD.must hd hp125 g0 gca (by first | exact hbz | exact Or.inl ⟨rfl, hw⟩ | exact Or.inr ⟨rfl, hw⟩) f125_5 f125_2 (by omega) rfl rfl (by decide)
        refine lv_aload_n hx hb dX12_readCell_111 rfl (lv_at hl 4 rfl) ?_
        refine lv_iconst (v := 0) hx hb dX12_readCell_112 rfl ?_
        refine lv_iload_n hx hb dX12_readCell_113 rfl (lv_at hl 5 rfl) ?_
        refine lv_iconst (v := 2) hx hb dX12_readCell_114 rfl ?_
        refine q_icmp_ne hx hb (a := a1) (b := 2) e1 (by decide) (tgt := 123) dX12_readCell_115 rfl (fun c126 => ?_) (fun c126 => absurd c126 (by omega))
        refine lv_bipush (v := 99) hx hb dX12_readCell_123 rfl ?_
        refine q_goI (q_runV (As := [.int 0, .int 99]) (rest := []) E hC125 hS125 (m_X12_count l X Γ H125 hC125 h0 g0 0 (a1 := 0) (by decide) 99 (a2 := 99) (by decide) ca gca uc tq ((kp_R hKp125 g0 (ci := 11) (k := 7) rfl (by decide) rfl).trans htq) gtq (by omega) (by omega) (by omega) (by omega)) cw_X12_count cl_RX12_248 g0 ⟨rfl, rfl⟩ rfl hl.1 rfl (Nat.zero_le _) (by decide) dX12_readCell_125) hS125 (fun v127 H127 locs127 hr127 hC127 hS127 => ?_)
        obtain ⟨hp127, hr127⟩ := hr127
        have hKp127 := hKp125.tr (hp127.mono rfl)
        obtain ⟨f127_0, f127_1, f127_2, f127_3, f127_4, f127_5, f127_6, f127_7, f127_8⟩ := hr127
        have hdc := HD.count hd hp127 g0 gca f127_8 f127_2 (by omega) rfl rfl
        have hd := hdc.1
        refine lv_istore hx hb dX12_readCell_128 hl (by decide) rfl (fun ls hl => ?_)
        have hl : lv_has ls 7 [(6, .int v127), (5, .int v32), (4, .int v30), (3, .int v26), (2, .int v25), (0, .ref h0), (1, .int p1)] := hl
        refine lv_aload_n hx hb dX12_readCell_130 rfl (lv_at hl 5 rfl) ?_
        refine q_getI E hC127 g0 fa_RX12_218 dX12_readCell_131 (fun v128 ev128 lv128 uv128 => ?_)
        have m129 : (sI H127 h0 (X.1.2 11 12)).toInt = v128.toInt := (congrArg Int32.toInt ev128).trans rfl
        refine q_if_le hx hb (a := v128.toInt) rfl (tgt := 138) dX12_readCell_134 rfl (fun c130 => ?_) (fun c130 => ?_)
        · obtain ⟨hQ, mc, ym⟩ := HD.live hd (by omega)
          have mc := mc
          have ym := ym
          refine lv_aload_n hx hb dX12_readCell_138 rfl (lv_at hl 5 rfl) ?_
          refine q_getR E hC127 g0 fa_RX12_41 dX12_readCell_139 (fun q131 eq131 gq131 => ?_)
          have hte2 := eq131; have htg2 := gq131
          refine lv_bipush (v := 36) hx hb dX12_readCell_142 rfl ?_
          refine lv_iload_n hx hb dX12_readCell_144 rfl (lv_at hl 6 rfl) ?_
          refine lv_imul hx hb dX12_readCell_145 (lv_topi (fun v132 ev132 => ?_))
          have ev132i : v132.toInt = (36 * a1) := i_mul ev132 (by decide) e1 (by omega) (by omega)
          refine lv_iload hx hb dX12_readCell_146 (lv_at hl 1 rfl) ?_
          refine lv_iadd hx hb dX12_readCell_148 (lv_topi (fun v133 ev133 => ?_))
          have ev133i : v133.toInt = ((36 * a1) + ((6 * v30.toInt) + v25.toInt)) := i_add ev133 ev132i ev32i (by omega) (by omega)
          refine lv_iconst (v := 1) hx hb dX12_readCell_149 rfl ?_
          refine q_iast E hC127 hS127 gq131 (by decide) rfl rfl (i_in (a := ((36 * a1) + ((6 * v30.toInt) + v25.toInt))) ev133i (by omega) (by omega)) tv_F dX12_readCell_150 (fun H134 locs134 hC134 hS134 U134 => ?_)
          have hKp134 := Kp.upA gq131 rfl (by decide) rfl U134 hKp127
          have mc := mc.ne U134 g0 gtq gq131 (by decide)
          have m135 : (sI H134 h0 (X.1.2 11 12)).toInt = (sI H127 h0 (X.1.2 11 12)).toInt := congrArg Int32.toInt (up_nI U134 (ne_k g0 gq131 (by decide)))
          have m136 : (sI H134 h0 (X.1.2 11 14)).toInt = (sI H127 h0 (X.1.2 11 14)).toInt := congrArg Int32.toInt (up_nI U134 (ne_k g0 gq131 (by decide)))
          have m137 := congrArg tk m136
          have m138 : (sI H134 h0 (X.1.2 11 16)).toInt = (sI H127 h0 (X.1.2 11 16)).toInt := congrArg Int32.toInt (up_nI U134 (ne_k g0 gq131 (by decide)))
          have m139 : (sI H134 h0 (X.1.2 11 18)).toInt = (sI H127 h0 (X.1.2 11 18)).toInt := congrArg Int32.toInt (up_nI U134 (ne_k g0 gq131 (by decide)))
          have m140 : (sI H134 h0 (X.1.2 11 17)).toInt = (sI H127 h0 (X.1.2 11 17)).toInt := congrArg Int32.toInt (up_nI U134 (ne_k g0 gq131 (by decide)))
          have ym := ym.told U134 g0 gca hte2 htg2 (w := a1) (z := (6 * vl (i + 2) + vl (i + 1))) (by rw [i_ix ev133i]; omega) (by omega) (by decide)
          refine lv_aload_n hx hb dX12_readCell_151 rfl (lv_at hl 5 rfl) ?_
          refine q_getC E hC134 g0 fa_RX12_35 uc dX12_readCell_152 ?_
          refine lv_sipush (v := 2080) hx hb dX12_readCell_155 rfl ?_
          refine lv_iload_n hx hb dX12_readCell_158 rfl (lv_at hl 6 rfl) ?_
          refine q_if_ne hx hb (a := a1) e1 (tgt := 167) dX12_readCell_159 rfl (fun c141 => absurd c141 (by omega)) (fun c141 => ?_)
          refine lv_bipush (v := 26) hx hb dX12_readCell_162 rfl ?_
          refine lv_goto (tgt := 179) hx hb dX12_readCell_164 rfl ?_
          refine lv_iadd hx hb dX12_readCell_179 (lv_topi (fun v142 ev142 => ?_))
          have ev142i : v142.toInt = (2080 + 26) := i_add ev142 (by decide) (by decide) (by omega) (by omega)
          refine lv_iload hx hb dX12_readCell_180 (lv_at hl 1 rfl) ?_
          refine lv_iadd hx hb dX12_readCell_182 (lv_topi (fun v143 ev143 => ?_))
          have ev143i : v143.toInt = ((2080 + 26) + ((6 * v30.toInt) + v25.toInt)) := i_add ev143 ev142i ev32i (by omega) (by omega)
          refine lv_iload hx hb dX12_readCell_183 (lv_at hl 0 rfl) ?_
          refine q_cast E hC134 hS134 gca (a := ((2080 + 26) + ((6 * v30.toInt) + v25.toInt))) ev143i (by omega) (by omega) (cs_n26 (a := ((2080 + 26) + ((6 * v30.toInt) + v25.toInt))) (b := v127.toInt) (by omega) (by omega) rfl (by omega) (by omega)) dX12_readCell_185 (fun H144 locs144 hC144 hS144 U144 => ?_)
          have hKp144 := Kp.upD gca rfl rfl (fun _ => ⟨fun _ => nd4 (by omega) (by omega), fun _ => by unfold dpu; omega, fun _ => by unfold dpn; omega⟩) U144 hKp134
          have mc := mc.ne U144 g0 gtq gca (by decide)
          have ym := ym.up U144 g0 gca (by omega)
          have m145 : (sI H144 h0 (X.1.2 11 12)).toInt = (sI H134 h0 (X.1.2 11 12)).toInt := congrArg Int32.toInt (up_nI U144 (ne_k g0 gca (by decide)))
          have m146 : (sI H144 h0 (X.1.2 11 14)).toInt = (sI H134 h0 (X.1.2 11 14)).toInt := congrArg Int32.toInt (up_nI U144 (ne_k g0 gca (by decide)))
          have m147 := congrArg tk m146
          have m148 : (sI H144 h0 (X.1.2 11 16)).toInt = (sI H134 h0 (X.1.2 11 16)).toInt := congrArg Int32.toInt (up_nI U144 (ne_k g0 gca (by decide)))
          have m149 : (sI H144 h0 (X.1.2 11 18)).toInt = (sI H134 h0 (X.1.2 11 18)).toInt := congrArg Int32.toInt (up_nI U144 (ne_k g0 gca (by decide)))
          have m150 : (sI H144 h0 (X.1.2 11 17)).toInt = (sI H134 h0 (X.1.2 11 17)).toInt := congrArg Int32.toInt (up_nI U144 (ne_k g0 gca (by decide)))
          have e151 := up_I U144
          have hz8 := tk_nn (sI H144 h0 (X.1.2 11 14)).toInt
          have hpost : ((sI H144 h0 (X.1.2 11 12)).toInt = 0 ∧ ∃ (S1 : YSt) (i1 : Nat), gHeap kd vl (bfO a1) a1 (lmO a1) S i S1 i1 ∧ MC X H144 h0 tq kd vl w3 pos N i1 ∧ YSM X Γ H144 h0 ca kd vl w3 N S1) ∨ ((sI H144 h0 (X.1.2 11 12)).toInt ≠ 0 ∧ ∀ (S1 : YSt) (i1 : Nat), ¬ gHeap kd vl (bfO a1) a1 (lmO a1) S i S1 i1) := by first | (exfalso; omega) | exact Or.inr ⟨by omega, hno⟩ | exact Or.inl ⟨by omega, _, _, ⟨⟨hP.1.2.1, hP.1.2.2.1, by have := hP.1.2.2.2; omega⟩, ⟨hP.2.1, hP.2.2.1, (show vl (i + 1 + 1) ≤ _ by have := hP.2.2.2; omega)⟩, by omega, by (first | rw [(bfO_0 (a := a1) (by omega)).1] | rw [(bfO_1 (a := a1) (by omega)).1] | rw [(bfO_2 (a := a1) (by omega)).1]); exact hQ.1.2, by (first | rw [(bfO_0 (a := a1) (by omega)).2] | rw [(bfO_1 (a := a1) (by omega)).2] | rw [(bfO_2 (a := a1) (by omega)).2]); exact hQ.2, rfl, rfl⟩, mc, ym⟩ | exact Or.inr ⟨by omega, fun S1 i1 q => by obtain ⟨q1, q2, q3, q4, q5, -, -⟩ := q; (first | (have e1 := bfO_0 (a := a1) (by omega); rw [e1.1] at q4; rw [e1.2] at q5) | (have e1 := bfO_1 (a := a1) (by omega); rw [e1.1] at q4; rw [e1.2] at q5) | (have e1 := bfO_2 (a := a1) (by omega); rw [e1.1] at q4; rw [e1.2] at q5)); first | exact HD.no hd (by omega) ⟨⟨trivial, q4⟩, q5⟩ | exact HD.no hd (by omega) ⟨⟨⟨⟨trivial, q1.1, q1.2.1, by have := q1.2.2; omega⟩, q2.1, q2.2.1, (show vl (i + 2) ≤ _ by have := q2.2.2; omega)⟩, q4⟩, q5⟩⟩
          exact ret H144 locs144 _ _ dX12_readCell_186 ⟨hKp144, ⟨by omega, by omega, by omega, by omega, hpost⟩⟩ hC144 hS144
        · have hz8 := tk_nn (sI H127 h0 (X.1.2 11 14)).toInt
          have hpost : ((sI H127 h0 (X.1.2 11 12)).toInt = 0 ∧ ∃ (S1 : YSt) (i1 : Nat), gHeap kd vl (bfO a1) a1 (lmO a1) S i S1 i1 ∧ MC X H127 h0 tq kd vl w3 pos N i1 ∧ YSM X Γ H127 h0 ca kd vl w3 N S1) ∨ ((sI H127 h0 (X.1.2 11 12)).toInt ≠ 0 ∧ ∀ (S1 : YSt) (i1 : Nat), ¬ gHeap kd vl (bfO a1) a1 (lmO a1) S i S1 i1) := by first | (exfalso; omega) | exact Or.inr ⟨by omega, hno⟩ | exact Or.inl ⟨by omega, _, _, ⟨⟨hP.1.2.1, hP.1.2.2.1, by have := hP.1.2.2.2; omega⟩, ⟨hP.2.1, hP.2.2.1, (show vl (i + 1 + 1) ≤ _ by have := hP.2.2.2; omega)⟩, by omega, by (first | rw [(bfO_0 (a := a1) (by omega)).1] | rw [(bfO_1 (a := a1) (by omega)).1] | rw [(bfO_2 (a := a1) (by omega)).1]); exact hQ.1.2, by (first | rw [(bfO_0 (a := a1) (by omega)).2] | rw [(bfO_1 (a := a1) (by omega)).2] | rw [(bfO_2 (a := a1) (by omega)).2]); exact hQ.2, rfl, rfl⟩, mc, ym⟩ | exact Or.inr ⟨by omega, fun S1 i1 q => by obtain ⟨q1, q2, q3, q4, q5, -, -⟩ := q; (first | (have e1 := bfO_0 (a := a1) (by omega); rw [e1.1] at q4; rw [e1.2] at q5) | (have e1 := bfO_1 (a := a1) (by omega); rw [e1.1] at q4; rw [e1.2] at q5) | (have e1 := bfO_2 (a := a1) (by omega); rw [e1.1] at q4; rw [e1.2] at q5)); first | exact HD.no hd (by omega) ⟨⟨trivial, q4⟩, q5⟩ | exact HD.no hd (by omega) ⟨⟨⟨⟨trivial, q1.1, q1.2.1, by have := q1.2.2; omega⟩, q2.1, q2.2.1, (show vl (i + 2) ≤ _ by have := q2.2.2; omega)⟩, q4⟩, q5⟩⟩
          exact ret H127 locs127 _ _ dX12_readCell_137 ⟨hKp127, ⟨by omega, by omega, by omega, by omega, hpost⟩⟩ hC127 hS127
      · have hw5 := hw
        refine lv_goto (tgt := 108) hx hb dX12_readCell_89 rfl ?_
        refine q_goV (q_runV (As := [.int 0]) (rest := []) E hC30 hS124 (m_X12_must l X Γ H30 hC30 h0 g0 0 (a1 := 0) (by decide) ca gca uc tq ((kp_R hKp30 g0 (ci := 11) (k := 7) rfl (by decide) rfl).trans htq) gtq (by omega) (by omega)) cw_X12_must cl_RX12_244 g0 ⟨rfl, rfl⟩ rfl hl.1 rfl (Nat.zero_le _) (by decide) dX12_readCell_108) hS124 (fun H152 locs152 hr152 hC152 hS152 => ?_)
        obtain ⟨hp152, hr152⟩ := hr152
        have hKp152 := hKp30.tr (hp152.mono rfl)
        obtain ⟨f152_0, f152_1, f152_2, f152_3, f152_4, f152_5⟩ := hr152
        have hd := HD.must hd hp152 g0 gca (by first | exact hbz | exact Or.inl ⟨rfl, hw⟩ | exact Or.inr ⟨rfl, hw⟩) f152_5 f152_2 (by omega) rfl rfl (by decide)
        refine lv_aload_n hx hb dX12_readCell_111 rfl (lv_at hl 4 rfl) ?_
        refine lv_iconst (v := 0) hx hb dX12_readCell_112 rfl ?_
        refine lv_iload_n hx hb dX12_readCell_113 rfl (lv_at hl 5 rfl) ?_
        refine lv_iconst (v := 2) hx hb dX12_readCell_114 rfl ?_
        refine q_icmp_ne hx hb (a := a1) (b := 2) e1 (by decide) (tgt := 123) dX12_readCell_115 rfl (fun c153 => ?_) (fun c153 => absurd c153 (by omega))
        refine lv_bipush (v := 99) hx hb dX12_readCell_123 rfl ?_
        refine q_goI (q_runV (As := [.int 0, .int 99]) (rest := []) E hC152 hS152 (m_X12_count l X Γ H152 hC152 h0 g0 0 (a1 := 0) (by decide) 99 (a2 := 99) (by decide) ca gca uc tq ((kp_R hKp152 g0 (ci := 11) (k := 7) rfl (by decide) rfl).trans htq) gtq (by omega) (by omega) (by omega) (by omega)) cw_X12_count cl_RX12_248 g0 ⟨rfl, rfl⟩ rfl hl.1 rfl (Nat.zero_le _) (by decide) dX12_readCell_125) hS152 (fun v154 H154 locs154 hr154 hC154 hS154 => ?_)
        obtain ⟨hp154, hr154⟩ := hr154
        have hKp154 := hKp152.tr (hp154.mono rfl)
        obtain ⟨f154_0, f154_1, f154_2, f154_3, f154_4, f154_5, f154_6, f154_7, f154_8⟩ := hr154
        have hdc := HD.count hd hp154 g0 gca f154_8 f154_2 (by omega) rfl rfl
        have hd := hdc.1
        refine lv_istore hx hb dX12_readCell_128 hl (by decide) rfl (fun ls hl => ?_)
        have hl : lv_has ls 7 [(6, .int v154), (5, .int v32), (4, .int v30), (3, .int v26), (2, .int v25), (0, .ref h0), (1, .int p1)] := hl
        refine lv_aload_n hx hb dX12_readCell_130 rfl (lv_at hl 5 rfl) ?_
        refine q_getI E hC154 g0 fa_RX12_218 dX12_readCell_131 (fun v155 ev155 lv155 uv155 => ?_)
        have m156 : (sI H154 h0 (X.1.2 11 12)).toInt = v155.toInt := (congrArg Int32.toInt ev155).trans rfl
        refine q_if_le hx hb (a := v155.toInt) rfl (tgt := 138) dX12_readCell_134 rfl (fun c157 => ?_) (fun c157 => ?_)
        · obtain ⟨hQ, mc, ym⟩ := HD.live hd (by omega)
          have mc := mc
          have ym := ym
          refine lv_aload_n hx hb dX12_readCell_138 rfl (lv_at hl 5 rfl) ?_
          refine q_getR E hC154 g0 fa_RX12_41 dX12_readCell_139 (fun q158 eq158 gq158 => ?_)
          have hte2 := eq158; have htg2 := gq158
          refine lv_bipush (v := 36) hx hb dX12_readCell_142 rfl ?_
          refine lv_iload_n hx hb dX12_readCell_144 rfl (lv_at hl 6 rfl) ?_
          refine lv_imul hx hb dX12_readCell_145 (lv_topi (fun v159 ev159 => ?_))
          have ev159i : v159.toInt = (36 * a1) := i_mul ev159 (by decide) e1 (by omega) (by omega)
          refine lv_iload hx hb dX12_readCell_146 (lv_at hl 1 rfl) ?_
          refine lv_iadd hx hb dX12_readCell_148 (lv_topi (fun v160 ev160 => ?_))
          have ev160i : v160.toInt = ((36 * a1) + ((6 * v30.toInt) + v25.toInt)) := i_add ev160 ev159i ev32i (by omega) (by omega)
          refine lv_iconst (v := 1) hx hb dX12_readCell_149 rfl ?_
          refine q_iast E hC154 hS154 gq158 (by decide) rfl rfl (i_in (a := ((36 * a1) + ((6 * v30.toInt) + v25.toInt))) ev160i (by omega) (by omega)) tv_F dX12_readCell_150 (fun H161 locs161 hC161 hS161 U161 => ?_)
          have hKp161 := Kp.upA gq158 rfl (by decide) rfl U161 hKp154
          have mc := mc.ne U161 g0 gtq gq158 (by decide)
          have m162 : (sI H161 h0 (X.1.2 11 12)).toInt = (sI H154 h0 (X.1.2 11 12)).toInt := congrArg Int32.toInt (up_nI U161 (ne_k g0 gq158 (by decide)))
          have m163 : (sI H161 h0 (X.1.2 11 14)).toInt = (sI H154 h0 (X.1.2 11 14)).toInt := congrArg Int32.toInt (up_nI U161 (ne_k g0 gq158 (by decide)))
          have m164 := congrArg tk m163
          have m165 : (sI H161 h0 (X.1.2 11 16)).toInt = (sI H154 h0 (X.1.2 11 16)).toInt := congrArg Int32.toInt (up_nI U161 (ne_k g0 gq158 (by decide)))
          have m166 : (sI H161 h0 (X.1.2 11 18)).toInt = (sI H154 h0 (X.1.2 11 18)).toInt := congrArg Int32.toInt (up_nI U161 (ne_k g0 gq158 (by decide)))
          have m167 : (sI H161 h0 (X.1.2 11 17)).toInt = (sI H154 h0 (X.1.2 11 17)).toInt := congrArg Int32.toInt (up_nI U161 (ne_k g0 gq158 (by decide)))
          have ym := ym.told U161 g0 gca hte2 htg2 (w := a1) (z := (6 * vl (i + 2) + vl (i + 1))) (by rw [i_ix ev160i]; omega) (by omega) (by decide)
          refine lv_aload_n hx hb dX12_readCell_151 rfl (lv_at hl 5 rfl) ?_
          refine q_getC E hC161 g0 fa_RX12_35 uc dX12_readCell_152 ?_
          refine lv_sipush (v := 2080) hx hb dX12_readCell_155 rfl ?_
          refine lv_iload_n hx hb dX12_readCell_158 rfl (lv_at hl 6 rfl) ?_
          refine q_if_ne hx hb (a := a1) e1 (tgt := 167) dX12_readCell_159 rfl (fun c168 => absurd c168 (by omega)) (fun c168 => ?_)
          refine lv_bipush (v := 26) hx hb dX12_readCell_162 rfl ?_
          refine lv_goto (tgt := 179) hx hb dX12_readCell_164 rfl ?_
          refine lv_iadd hx hb dX12_readCell_179 (lv_topi (fun v169 ev169 => ?_))
          have ev169i : v169.toInt = (2080 + 26) := i_add ev169 (by decide) (by decide) (by omega) (by omega)
          refine lv_iload hx hb dX12_readCell_180 (lv_at hl 1 rfl) ?_
          refine lv_iadd hx hb dX12_readCell_182 (lv_topi (fun v170 ev170 => ?_))
          have ev170i : v170.toInt = ((2080 + 26) + ((6 * v30.toInt) + v25.toInt)) := i_add ev170 ev169i ev32i (by omega) (by omega)
          refine lv_iload hx hb dX12_readCell_183 (lv_at hl 0 rfl) ?_
          refine q_cast E hC161 hS161 gca (a := ((2080 + 26) + ((6 * v30.toInt) + v25.toInt))) ev170i (by omega) (by omega) (cs_n26 (a := ((2080 + 26) + ((6 * v30.toInt) + v25.toInt))) (b := v154.toInt) (by omega) (by omega) rfl (by omega) (by omega)) dX12_readCell_185 (fun H171 locs171 hC171 hS171 U171 => ?_)
          have hKp171 := Kp.upD gca rfl rfl (fun _ => ⟨fun _ => nd4 (by omega) (by omega), fun _ => by unfold dpu; omega, fun _ => by unfold dpn; omega⟩) U171 hKp161
          have mc := mc.ne U171 g0 gtq gca (by decide)
          have ym := ym.up U171 g0 gca (by omega)
          have m172 : (sI H171 h0 (X.1.2 11 12)).toInt = (sI H161 h0 (X.1.2 11 12)).toInt := congrArg Int32.toInt (up_nI U171 (ne_k g0 gca (by decide)))
          have m173 : (sI H171 h0 (X.1.2 11 14)).toInt = (sI H161 h0 (X.1.2 11 14)).toInt := congrArg Int32.toInt (up_nI U171 (ne_k g0 gca (by decide)))
          have m174 := congrArg tk m173
          have m175 : (sI H171 h0 (X.1.2 11 16)).toInt = (sI H161 h0 (X.1.2 11 16)).toInt := congrArg Int32.toInt (up_nI U171 (ne_k g0 gca (by decide)))
          have m176 : (sI H171 h0 (X.1.2 11 18)).toInt = (sI H161 h0 (X.1.2 11 18)).toInt := congrArg Int32.toInt (up_nI U171 (ne_k g0 gca (by decide)))
          have m177 : (sI H171 h0 (X.1.2 11 17)).toInt = (sI H161 h0 (X.1.2 11 17)).toInt := congrArg Int32.toInt (up_nI U171 (ne_k g0 gca (by decide)))
          have e178 := up_I U171
          have hz8 := tk_nn (sI H171 h0 (X.1.2 11 14)).toInt
          have hpost : ((sI H171 h0 (X.1.2 11 12)).toInt = 0 ∧ ∃ (S1 : YSt) (i1 : Nat), gHeap kd vl (bfO a1) a1 (lmO a1) S i S1 i1 ∧ MC X H171 h0 tq kd vl w3 pos N i1 ∧ YSM X Γ H171 h0 ca kd vl w3 N S1) ∨ ((sI H171 h0 (X.1.2 11 12)).toInt ≠ 0 ∧ ∀ (S1 : YSt) (i1 : Nat), ¬ gHeap kd vl (bfO a1) a1 (lmO a1) S i S1 i1) := by first | (exfalso; omega) | exact Or.inr ⟨by omega, hno⟩ | exact Or.inl ⟨by omega, _, _, ⟨⟨hP.1.2.1, hP.1.2.2.1, by have := hP.1.2.2.2; omega⟩, ⟨hP.2.1, hP.2.2.1, (show vl (i + 1 + 1) ≤ _ by have := hP.2.2.2; omega)⟩, by omega, by (first | rw [(bfO_0 (a := a1) (by omega)).1] | rw [(bfO_1 (a := a1) (by omega)).1] | rw [(bfO_2 (a := a1) (by omega)).1]); exact hQ.1.2, by (first | rw [(bfO_0 (a := a1) (by omega)).2] | rw [(bfO_1 (a := a1) (by omega)).2] | rw [(bfO_2 (a := a1) (by omega)).2]); exact hQ.2, rfl, rfl⟩, mc, ym⟩ | exact Or.inr ⟨by omega, fun S1 i1 q => by obtain ⟨q1, q2, q3, q4, q5, -, -⟩ := q; (first | (have e1 := bfO_0 (a := a1) (by omega); rw [e1.1] at q4; rw [e1.2] at q5) | (have e1 := bfO_1 (a := a1) (by omega); rw [e1.1] at q4; rw [e1.2] at q5) | (have e1 := bfO_2 (a := a1) (by omega); rw [e1.1] at q4; rw [e1.2] at q5)); first | exact HD.no hd (by omega) ⟨⟨trivial, q4⟩, q5⟩ | exact HD.no hd (by omega) ⟨⟨⟨⟨trivial, q1.1, q1.2.1, by have := q1.2.2; omega⟩, q2.1, q2.2.1, (show vl (i + 2) ≤ _ by have := q2.2.2; omega)⟩, q4⟩, q5⟩⟩
          exact ret H171 locs171 _ _ dX12_readCell_186 ⟨hKp171, ⟨by omega, by omega, by omega, by omega, hpost⟩⟩ hC171 hS171
        · have hz8 := tk_nn (sI H154 h0 (X.1.2 11 14)).toInt
          have hpost : ((sI H154 h0 (X.1.2 11 12)).toInt = 0 ∧ ∃ (S1 : YSt) (i1 : Nat), gHeap kd vl (bfO a1) a1 (lmO a1) S i S1 i1 ∧ MC X H154 h0 tq kd vl w3 pos N i1 ∧ YSM X Γ H154 h0 ca kd vl w3 N S1) ∨ ((sI H154 h0 (X.1.2 11 12)).toInt ≠ 0 ∧ ∀ (S1 : YSt) (i1 : Nat), ¬ gHeap kd vl (bfO a1) a1 (lmO a1) S i S1 i1) := by first | (exfalso; omega) | exact Or.inr ⟨by omega, hno⟩ | exact Or.inl ⟨by omega, _, _, ⟨⟨hP.1.2.1, hP.1.2.2.1, by have := hP.1.2.2.2; omega⟩, ⟨hP.2.1, hP.2.2.1, (show vl (i + 1 + 1) ≤ _ by have := hP.2.2.2; omega)⟩, by omega, by (first | rw [(bfO_0 (a := a1) (by omega)).1] | rw [(bfO_1 (a := a1) (by omega)).1] | rw [(bfO_2 (a := a1) (by omega)).1]); exact hQ.1.2, by (first | rw [(bfO_0 (a := a1) (by omega)).2] | rw [(bfO_1 (a := a1) (by omega)).2] | rw [(bfO_2 (a := a1) (by omega)).2]); exact hQ.2, rfl, rfl⟩, mc, ym⟩ | exact Or.inr ⟨by omega, fun S1 i1 q => by obtain ⟨q1, q2, q3, q4, q5, -, -⟩ := q; (first | (have e1 := bfO_0 (a := a1) (by omega); rw [e1.1] at q4; rw [e1.2] at q5) | (have e1 := bfO_1 (a := a1) (by omega); rw [e1.1] at q4; rw [e1.2] at q5) | (have e1 := bfO_2 (a := a1) (by omega); rw [e1.1] at q4; rw [e1.2] at q5)); first | exact HD.no hd (by omega) ⟨⟨trivial, q4⟩, q5⟩ | exact HD.no hd (by omega) ⟨⟨⟨⟨trivial, q1.1, q1.2.1, by have := q1.2.2; omega⟩, q2.1, q2.2.1, (show vl (i + 2) ≤ _ by have := q2.2.2; omega)⟩, q4⟩, q5⟩⟩
          exact ret H154 locs154 _ _ dX12_readCell_137 ⟨hKp154, ⟨by omega, by omega, by omega, by omega, hpost⟩⟩ hC154 hS154
  · obtain ⟨hP, mc, ym⟩ := HD.live hd (by omega)
    have mc := mc
    have ym := ym
    have hxq : v25.toInt = vl (i + 1) := hv1 (by omega)
    have hyq : v30.toInt = vl (i + 2) := hv2 (by omega)
    refine lv_aload_n hx hb dX12_readCell_58 rfl (lv_at hl 4 rfl) ?_
    refine q_getR E hC30 g0 fa_RX12_41 dX12_readCell_59 (fun q179 eq179 gq179 => ?_)
    have hte := eq179; have htg := gq179
    refine lv_bipush (v := 36) hx hb dX12_readCell_62 rfl ?_
    refine lv_iload_n hx hb dX12_readCell_64 rfl (lv_at hl 5 rfl) ?_
    refine lv_imul hx hb dX12_readCell_65 (lv_topi (fun v180 ev180 => ?_))
    have ev180i : v180.toInt = (36 * a1) := i_mul ev180 (by decide) e1 (by omega) (by omega)
    refine lv_iload hx hb dX12_readCell_66 (lv_at hl 0 rfl) ?_
    refine lv_iadd hx hb dX12_readCell_68 (lv_topi (fun v181 ev181 => ?_))
    have ev181i : v181.toInt = ((36 * a1) + ((6 * v30.toInt) + v25.toInt)) := i_add ev181 ev180i ev32i (by omega) (by omega)
    refine q_iald E hC30 gq179 rfl rfl (fun _ h => h) (i_in (a := ((36 * a1) + ((6 * v30.toInt) + v25.toInt))) ev181i (by omega) (by omega)) dX12_readCell_69 (fun v182 ev182 _ _ => ?_)
    have htc := ym.cell hte (w := a1) (z := (6 * vl (i + 2) + vl (i + 1))) (n' := ((36 * a1) + ((6 * v30.toInt) + v25.toInt))) (by omega) (by omega)
    have hte9 : v182.toInt = _ := (congrArg Int32.toInt (ev182.symm.trans (congrArg (sI H30 _) (i_ix ev181i)))).trans htc.1
    refine lv_iconst (v := 1) hx hb dX12_readCell_70 rfl ?_
    refine q_icmp_ne hx hb (a := v182.toInt) (b := 1) rfl (by decide) (tgt := 80) dX12_readCell_71 rfl (fun c183 => ?_) (fun c183 => ?_)
    · have hd := HD.of (by omega) mc ym
      refine lv_aload_n hx hb dX12_readCell_80 rfl (lv_at hl 4 rfl) ?_
      refine lv_iload_n hx hb dX12_readCell_81 rfl (lv_at hl 5 rfl) ?_
      refine q_if_ne hx hb (a := a1) e1 (tgt := 92) dX12_readCell_82 rfl (fun c184 => ?_) (fun c184 => ?_)
      · refine lv_iload_n hx hb dX12_readCell_92 rfl (lv_at hl 5 rfl) ?_
        refine lv_iconst (v := 1) hx hb dX12_readCell_93 rfl ?_
        refine q_icmp_ne hx hb (a := a1) (b := 1) e1 (by decide) (tgt := 104) dX12_readCell_94 rfl (fun c185 => ?_) (fun c185 => ?_)
        · refine lv_aload_n hx hb dX12_readCell_104 rfl (lv_at hl 4 rfl) ?_
          refine q_goIp (q_runV (As := []) (rest := [.ref h0]) E hC30 hS30 (m_X12_isBy l X Γ H30 hC30 h0 g0 ca gca uc) cw_X12_isBy cl_RX12_190 g0 ⟨rfl, rfl⟩ rfl hl.1 rfl (show _ ≤ _ from by simp [Value.category]) (by decide) dX12_readCell_105) hS30 (fun v186 locs186 hr186 hS186 => ?_)
          have b186 : (v186.toInt = 1 ∧ _) ∨ (v186.toInt = 0 ∧ _) := hr186.imp (fun h => ⟨by rw [h.1]; decide, h.2⟩) (fun h => ⟨by rw [h.1]; decide, h.2⟩)
          have hbz := b186
          refine q_goV (q_runV (As := [.int v186]) (rest := []) E hC30 hS186 (m_X12_must l X Γ H30 hC30 h0 g0 v186 (a1 := v186.toInt) rfl ca gca uc tq ((kp_R hKp30 g0 (ci := 11) (k := 7) rfl (by decide) rfl).trans htq) gtq (by omega) (by omega)) cw_X12_must cl_RX12_244 g0 ⟨rfl, rfl⟩ rfl hl.1 rfl (Nat.zero_le _) (by decide) dX12_readCell_108) hS186 (fun H187 locs187 hr187 hC187 hS187 => ?_)
          obtain ⟨hp187, hr187⟩ := hr187
          have hKp187 := hKp30.tr (hp187.mono rfl)
          obtain ⟨f187_0, f187_1, f187_2, f187_3, f187_4, f187_5⟩ := hr187
          have hd := HD.must hd hp187 g0 gca (by first | exact hbz | exact Or.inl ⟨rfl, hw⟩ | exact Or.inr ⟨rfl, hw⟩) f187_5 f187_2 (by omega) rfl rfl (by decide)
          refine lv_aload_n hx hb dX12_readCell_111 rfl (lv_at hl 4 rfl) ?_
          refine lv_iconst (v := 0) hx hb dX12_readCell_112 rfl ?_
          refine lv_iload_n hx hb dX12_readCell_113 rfl (lv_at hl 5 rfl) ?_
          refine lv_iconst (v := 2) hx hb dX12_readCell_114 rfl ?_
          refine q_icmp_ne hx hb (a := a1) (b := 2) e1 (by decide) (tgt := 123) dX12_readCell_115 rfl (fun c188 => absurd c188 (by omega)) (fun c188 => ?_)
          refine lv_bipush (v := 9) hx hb dX12_readCell_118 rfl ?_
          refine lv_goto (tgt := 125) hx hb dX12_readCell_120 rfl ?_
          refine q_goI (q_runV (As := [.int 0, .int 9]) (rest := []) E hC187 hS187 (m_X12_count l X Γ H187 hC187 h0 g0 0 (a1 := 0) (by decide) 9 (a2 := 9) (by decide) ca gca uc tq ((kp_R hKp187 g0 (ci := 11) (k := 7) rfl (by decide) rfl).trans htq) gtq (by omega) (by omega) (by omega) (by omega)) cw_X12_count cl_RX12_248 g0 ⟨rfl, rfl⟩ rfl hl.1 rfl (Nat.zero_le _) (by decide) dX12_readCell_125) hS187 (fun v189 H189 locs189 hr189 hC189 hS189 => ?_)
          obtain ⟨hp189, hr189⟩ := hr189
          have hKp189 := hKp187.tr (hp189.mono rfl)
          obtain ⟨f189_0, f189_1, f189_2, f189_3, f189_4, f189_5, f189_6, f189_7, f189_8⟩ := hr189
          have hdc := HD.count hd hp189 g0 gca f189_8 f189_2 (by omega) rfl rfl
          have hd := hdc.1
          refine lv_istore hx hb dX12_readCell_128 hl (by decide) rfl (fun ls hl => ?_)
          have hl : lv_has ls 7 [(6, .int v189), (5, .int v32), (4, .int v30), (3, .int v26), (2, .int v25), (0, .ref h0), (1, .int p1)] := hl
          refine lv_aload_n hx hb dX12_readCell_130 rfl (lv_at hl 5 rfl) ?_
          refine q_getI E hC189 g0 fa_RX12_218 dX12_readCell_131 (fun v190 ev190 lv190 uv190 => ?_)
          have m191 : (sI H189 h0 (X.1.2 11 12)).toInt = v190.toInt := (congrArg Int32.toInt ev190).trans rfl
          refine q_if_le hx hb (a := v190.toInt) rfl (tgt := 138) dX12_readCell_134 rfl (fun c192 => ?_) (fun c192 => ?_)
          · obtain ⟨hQ, mc, ym⟩ := HD.live hd (by omega)
            have mc := mc
            have ym := ym
            refine lv_aload_n hx hb dX12_readCell_138 rfl (lv_at hl 5 rfl) ?_
            refine q_getR E hC189 g0 fa_RX12_41 dX12_readCell_139 (fun q193 eq193 gq193 => ?_)
            have hte2 := eq193; have htg2 := gq193
            refine lv_bipush (v := 36) hx hb dX12_readCell_142 rfl ?_
            refine lv_iload_n hx hb dX12_readCell_144 rfl (lv_at hl 6 rfl) ?_
            refine lv_imul hx hb dX12_readCell_145 (lv_topi (fun v194 ev194 => ?_))
            have ev194i : v194.toInt = (36 * a1) := i_mul ev194 (by decide) e1 (by omega) (by omega)
            refine lv_iload hx hb dX12_readCell_146 (lv_at hl 1 rfl) ?_
            refine lv_iadd hx hb dX12_readCell_148 (lv_topi (fun v195 ev195 => ?_))
            have ev195i : v195.toInt = ((36 * a1) + ((6 * v30.toInt) + v25.toInt)) := i_add ev195 ev194i ev32i (by omega) (by omega)
            refine lv_iconst (v := 1) hx hb dX12_readCell_149 rfl ?_
            refine q_iast E hC189 hS189 gq193 (by decide) rfl rfl (i_in (a := ((36 * a1) + ((6 * v30.toInt) + v25.toInt))) ev195i (by omega) (by omega)) tv_F dX12_readCell_150 (fun H196 locs196 hC196 hS196 U196 => ?_)
            have hKp196 := Kp.upA gq193 rfl (by decide) rfl U196 hKp189
            have mc := mc.ne U196 g0 gtq gq193 (by decide)
            have m197 : (sI H196 h0 (X.1.2 11 12)).toInt = (sI H189 h0 (X.1.2 11 12)).toInt := congrArg Int32.toInt (up_nI U196 (ne_k g0 gq193 (by decide)))
            have m198 : (sI H196 h0 (X.1.2 11 14)).toInt = (sI H189 h0 (X.1.2 11 14)).toInt := congrArg Int32.toInt (up_nI U196 (ne_k g0 gq193 (by decide)))
            have m199 := congrArg tk m198
            have m200 : (sI H196 h0 (X.1.2 11 16)).toInt = (sI H189 h0 (X.1.2 11 16)).toInt := congrArg Int32.toInt (up_nI U196 (ne_k g0 gq193 (by decide)))
            have m201 : (sI H196 h0 (X.1.2 11 18)).toInt = (sI H189 h0 (X.1.2 11 18)).toInt := congrArg Int32.toInt (up_nI U196 (ne_k g0 gq193 (by decide)))
            have m202 : (sI H196 h0 (X.1.2 11 17)).toInt = (sI H189 h0 (X.1.2 11 17)).toInt := congrArg Int32.toInt (up_nI U196 (ne_k g0 gq193 (by decide)))
            have ym := ym.told U196 g0 gca hte2 htg2 (w := a1) (z := (6 * vl (i + 2) + vl (i + 1))) (by rw [i_ix ev195i]; omega) (by omega) (by decide)
            refine lv_aload_n hx hb dX12_readCell_151 rfl (lv_at hl 5 rfl) ?_
            refine q_getC E hC196 g0 fa_RX12_35 uc dX12_readCell_152 ?_
            refine lv_sipush (v := 2080) hx hb dX12_readCell_155 rfl ?_
            refine lv_iload_n hx hb dX12_readCell_158 rfl (lv_at hl 6 rfl) ?_
            refine q_if_ne hx hb (a := a1) e1 (tgt := 167) dX12_readCell_159 rfl (fun c203 => ?_) (fun c203 => absurd c203 (by omega))
            refine lv_iload_n hx hb dX12_readCell_167 rfl (lv_at hl 6 rfl) ?_
            refine lv_iconst (v := 1) hx hb dX12_readCell_168 rfl ?_
            refine q_icmp_ne hx hb (a := a1) (b := 1) e1 (by decide) (tgt := 177) dX12_readCell_169 rfl (fun c204 => ?_) (fun c204 => absurd c204 (by omega))
            refine lv_bipush (v := 98) hx hb dX12_readCell_177 rfl ?_
            refine lv_iadd hx hb dX12_readCell_179 (lv_topi (fun v205 ev205 => ?_))
            have ev205i : v205.toInt = (2080 + 98) := i_add ev205 (by decide) (by decide) (by omega) (by omega)
            refine lv_iload hx hb dX12_readCell_180 (lv_at hl 1 rfl) ?_
            refine lv_iadd hx hb dX12_readCell_182 (lv_topi (fun v206 ev206 => ?_))
            have ev206i : v206.toInt = ((2080 + 98) + ((6 * v30.toInt) + v25.toInt)) := i_add ev206 ev205i ev32i (by omega) (by omega)
            refine lv_iload hx hb dX12_readCell_183 (lv_at hl 0 rfl) ?_
            refine q_cast E hC196 hS196 gca (a := ((2080 + 98) + ((6 * v30.toInt) + v25.toInt))) ev206i (by omega) (by omega) (cs_n98 (a := ((2080 + 98) + ((6 * v30.toInt) + v25.toInt))) (b := v189.toInt) (by omega) (by omega) rfl (by omega) (by omega)) dX12_readCell_185 (fun H207 locs207 hC207 hS207 U207 => ?_)
            have hKp207 := Kp.upD gca rfl rfl (fun _ => ⟨fun _ => nd4 (by omega) (by omega), fun _ => by unfold dpu; omega, fun _ => by unfold dpn; omega⟩) U207 hKp196
            have mc := mc.ne U207 g0 gtq gca (by decide)
            have ym := ym.up U207 g0 gca (by omega)
            have m208 : (sI H207 h0 (X.1.2 11 12)).toInt = (sI H196 h0 (X.1.2 11 12)).toInt := congrArg Int32.toInt (up_nI U207 (ne_k g0 gca (by decide)))
            have m209 : (sI H207 h0 (X.1.2 11 14)).toInt = (sI H196 h0 (X.1.2 11 14)).toInt := congrArg Int32.toInt (up_nI U207 (ne_k g0 gca (by decide)))
            have m210 := congrArg tk m209
            have m211 : (sI H207 h0 (X.1.2 11 16)).toInt = (sI H196 h0 (X.1.2 11 16)).toInt := congrArg Int32.toInt (up_nI U207 (ne_k g0 gca (by decide)))
            have m212 : (sI H207 h0 (X.1.2 11 18)).toInt = (sI H196 h0 (X.1.2 11 18)).toInt := congrArg Int32.toInt (up_nI U207 (ne_k g0 gca (by decide)))
            have m213 : (sI H207 h0 (X.1.2 11 17)).toInt = (sI H196 h0 (X.1.2 11 17)).toInt := congrArg Int32.toInt (up_nI U207 (ne_k g0 gca (by decide)))
            have e214 := up_I U207
            have hz8 := tk_nn (sI H207 h0 (X.1.2 11 14)).toInt
            have hpost : ((sI H207 h0 (X.1.2 11 12)).toInt = 0 ∧ ∃ (S1 : YSt) (i1 : Nat), gHeap kd vl (bfO a1) a1 (lmO a1) S i S1 i1 ∧ MC X H207 h0 tq kd vl w3 pos N i1 ∧ YSM X Γ H207 h0 ca kd vl w3 N S1) ∨ ((sI H207 h0 (X.1.2 11 12)).toInt ≠ 0 ∧ ∀ (S1 : YSt) (i1 : Nat), ¬ gHeap kd vl (bfO a1) a1 (lmO a1) S i S1 i1) := by first | (exfalso; omega) | exact Or.inr ⟨by omega, hno⟩ | exact Or.inl ⟨by omega, _, _, ⟨⟨hP.1.2.1, hP.1.2.2.1, by have := hP.1.2.2.2; omega⟩, ⟨hP.2.1, hP.2.2.1, (show vl (i + 1 + 1) ≤ _ by have := hP.2.2.2; omega)⟩, by omega, by (first | rw [(bfO_0 (a := a1) (by omega)).1] | rw [(bfO_1 (a := a1) (by omega)).1] | rw [(bfO_2 (a := a1) (by omega)).1]); exact hQ.1.2, by (first | rw [(bfO_0 (a := a1) (by omega)).2] | rw [(bfO_1 (a := a1) (by omega)).2] | rw [(bfO_2 (a := a1) (by omega)).2]); exact hQ.2, rfl, rfl⟩, mc, ym⟩ | exact Or.inr ⟨by omega, fun S1 i1 q => by obtain ⟨q1, q2, q3, q4, q5, -, -⟩ := q; (first | (have e1 := bfO_0 (a := a1) (by omega); rw [e1.1] at q4; rw [e1.2] at q5) | (have e1 := bfO_1 (a := a1) (by omega); rw [e1.1] at q4; rw [e1.2] at q5) | (have e1 := bfO_2 (a := a1) (by omega); rw [e1.1] at q4; rw [e1.2] at q5)); first | exact HD.no hd (by omega) ⟨⟨trivial, q4⟩, q5⟩ | exact HD.no hd (by omega) ⟨⟨⟨⟨trivial, q1.1, q1.2.1, by have := q1.2.2; omega⟩, q2.1, q2.2.1, (show vl (i + 2) ≤ _ by have := q2.2.2; omega)⟩, q4⟩, q5⟩⟩
            exact ret H207 locs207 _ _ dX12_readCell_186 ⟨hKp207, ⟨by omega, by omega, by omega, by omega, hpost⟩⟩ hC207 hS207
          · have hz8 := tk_nn (sI H189 h0 (X.1.2 11 14)).toInt
            have hpost : ((sI H189 h0 (X.1.2 11 12)).toInt = 0 ∧ ∃ (S1 : YSt) (i1 : Nat), gHeap kd vl (bfO a1) a1 (lmO a1) S i S1 i1 ∧ MC X H189 h0 tq kd vl w3 pos N i1 ∧ YSM X Γ H189 h0 ca kd vl w3 N S1) ∨ ((sI H189 h0 (X.1.2 11 12)).toInt ≠ 0 ∧ ∀ (S1 : YSt) (i1 : Nat), ¬ gHeap kd vl (bfO a1) a1 (lmO a1) S i S1 i1) := by first | (exfalso; omega) | exact Or.inr ⟨by omega, hno⟩ | exact Or.inl ⟨by omega, _, _, ⟨⟨hP.1.2.1, hP.1.2.2.1, by have := hP.1.2.2.2; omega⟩, ⟨hP.2.1, hP.2.2.1, (show vl (i + 1 + 1) ≤ _ by have := hP.2.2.2; omega)⟩, by omega, by (first | rw [(bfO_0 (a := a1) (by omega)).1] | rw [(bfO_1 (a := a1) (by omega)).1] | rw [(bfO_2 (a := a1) (by omega)).1]); exact hQ.1.2, by (first | rw [(bfO_0 (a := a1) (by omega)).2] | rw [(bfO_1 (a := a1) (by omega)).2] | rw [(bfO_2 (a := a1) (by omega)).2]); exact hQ.2, rfl, rfl⟩, mc, ym⟩ | exact Or.inr ⟨by omega, fun S1 i1 q => by obtain ⟨q1, q2, q3, q4, q5, -, -⟩ := q; (first | (have e1 := bfO_0 (a := a1) (by omega); rw [e1.1] at q4; rw [e1.2] at q5) | (have e1 := bfO_1 (a := a1) (by omega); rw [e1.1] at q4; rw [e1.2] at q5) | (have e1 := bfO_2 (a := a1) (by omega); rw [e1.1] at q4; rw [e1.2] at q5)); first | exact HD.no hd (by omega) ⟨⟨trivial, q4⟩, q5⟩ | exact HD.no hd (by omega) ⟨⟨⟨⟨trivial, q1.1, q1.2.1, by have := q1.2.2; omega⟩, q2.1, q2.2.1, (show vl (i + 2) ≤ _ by have := q2.2.2; omega)⟩, q4⟩, q5⟩⟩
            exact ret H189 locs189 _ _ dX12_readCell_137 ⟨hKp189, ⟨by omega, by omega, by omega, by omega, hpost⟩⟩ hC189 hS189
        · refine lv_aload_n hx hb dX12_readCell_97 rfl (lv_at hl 4 rfl) ?_
          refine q_goIp (q_runV (As := []) (rest := [.ref h0]) E hC30 hS30 (m_X12_isTall l X Γ H30 hC30 h0 g0 ca gca uc) cw_X12_isTall cl_RX12_184 g0 ⟨rfl, rfl⟩ rfl hl.1 rfl (show _ ≤ _ from by simp [Value.category]) (by decide) dX12_readCell_98) hS30 (fun v215 locs215 hr215 hS215 => ?_)
          rcases hr215 with ⟨rfl, hw⟩ | ⟨rfl, hw⟩
          · have hw7 := hw
            refine lv_goto (tgt := 108) hx hb dX12_readCell_101 rfl ?_
            refine q_goV (q_runV (As := [.int 1]) (rest := []) E hC30 hS215 (m_X12_must l X Γ H30 hC30 h0 g0 1 (a1 := 1) (by decide) ca gca uc tq ((kp_R hKp30 g0 (ci := 11) (k := 7) rfl (by decide) rfl).trans htq) gtq (by omega) (by omega)) cw_X12_must cl_RX12_244 g0 ⟨rfl, rfl⟩ rfl hl.1 rfl (Nat.zero_le _) (by decide) dX12_readCell_108) hS215 (fun H216 locs216 hr216 hC216 hS216 => ?_)
            obtain ⟨hp216, hr216⟩ := hr216
            have hKp216 := hKp30.tr (hp216.mono rfl)
            obtain ⟨f216_0, f216_1, f216_2, f216_3, f216_4, f216_5⟩ := hr216
            have hd := HD.must hd hp216 g0 gca (by first | exact hbz | exact Or.inl ⟨rfl, hw⟩ | exact Or.inr ⟨rfl, hw⟩) f216_5 f216_2 (by omega) rfl rfl (by decide)
            refine lv_aload_n hx hb dX12_readCell_111 rfl (lv_at hl 4 rfl) ?_
            refine lv_iconst (v := 0) hx hb dX12_readCell_112 rfl ?_
            refine lv_iload_n hx hb dX12_readCell_113 rfl (lv_at hl 5 rfl) ?_
            refine lv_iconst (v := 2) hx hb dX12_readCell_114 rfl ?_
            refine q_icmp_ne hx hb (a := a1) (b := 2) e1 (by decide) (tgt := 123) dX12_readCell_115 rfl (fun c217 => ?_) (fun c217 => absurd c217 (by omega))
            refine lv_bipush (v := 99) hx hb dX12_readCell_123 rfl ?_
            refine q_goI (q_runV (As := [.int 0, .int 99]) (rest := []) E hC216 hS216 (m_X12_count l X Γ H216 hC216 h0 g0 0 (a1 := 0) (by decide) 99 (a2 := 99) (by decide) ca gca uc tq ((kp_R hKp216 g0 (ci := 11) (k := 7) rfl (by decide) rfl).trans htq) gtq (by omega) (by omega) (by omega) (by omega)) cw_X12_count cl_RX12_248 g0 ⟨rfl, rfl⟩ rfl hl.1 rfl (Nat.zero_le _) (by decide) dX12_readCell_125) hS216 (fun v218 H218 locs218 hr218 hC218 hS218 => ?_)
            obtain ⟨hp218, hr218⟩ := hr218
            have hKp218 := hKp216.tr (hp218.mono rfl)
            obtain ⟨f218_0, f218_1, f218_2, f218_3, f218_4, f218_5, f218_6, f218_7, f218_8⟩ := hr218
            have hdc := HD.count hd hp218 g0 gca f218_8 f218_2 (by omega) rfl rfl
            have hd := hdc.1
            refine lv_istore hx hb dX12_readCell_128 hl (by decide) rfl (fun ls hl => ?_)
            have hl : lv_has ls 7 [(6, .int v218), (5, .int v32), (4, .int v30), (3, .int v26), (2, .int v25), (0, .ref h0), (1, .int p1)] := hl
            refine lv_aload_n hx hb dX12_readCell_130 rfl (lv_at hl 5 rfl) ?_
            refine q_getI E hC218 g0 fa_RX12_218 dX12_readCell_131 (fun v219 ev219 lv219 uv219 => ?_)
            have m220 : (sI H218 h0 (X.1.2 11 12)).toInt = v219.toInt := (congrArg Int32.toInt ev219).trans rfl
            refine q_if_le hx hb (a := v219.toInt) rfl (tgt := 138) dX12_readCell_134 rfl (fun c221 => ?_) (fun c221 => ?_)
            · obtain ⟨hQ, mc, ym⟩ := HD.live hd (by omega)
              have mc := mc
              have ym := ym
              refine lv_aload_n hx hb dX12_readCell_138 rfl (lv_at hl 5 rfl) ?_
              refine q_getR E hC218 g0 fa_RX12_41 dX12_readCell_139 (fun q222 eq222 gq222 => ?_)
              have hte2 := eq222; have htg2 := gq222
              refine lv_bipush (v := 36) hx hb dX12_readCell_142 rfl ?_
              refine lv_iload_n hx hb dX12_readCell_144 rfl (lv_at hl 6 rfl) ?_
              refine lv_imul hx hb dX12_readCell_145 (lv_topi (fun v223 ev223 => ?_))
              have ev223i : v223.toInt = (36 * a1) := i_mul ev223 (by decide) e1 (by omega) (by omega)
              refine lv_iload hx hb dX12_readCell_146 (lv_at hl 1 rfl) ?_
              refine lv_iadd hx hb dX12_readCell_148 (lv_topi (fun v224 ev224 => ?_))
              have ev224i : v224.toInt = ((36 * a1) + ((6 * v30.toInt) + v25.toInt)) := i_add ev224 ev223i ev32i (by omega) (by omega)
              refine lv_iconst (v := 1) hx hb dX12_readCell_149 rfl ?_
              refine q_iast E hC218 hS218 gq222 (by decide) rfl rfl (i_in (a := ((36 * a1) + ((6 * v30.toInt) + v25.toInt))) ev224i (by omega) (by omega)) tv_F dX12_readCell_150 (fun H225 locs225 hC225 hS225 U225 => ?_)
              have hKp225 := Kp.upA gq222 rfl (by decide) rfl U225 hKp218
              have mc := mc.ne U225 g0 gtq gq222 (by decide)
              have m226 : (sI H225 h0 (X.1.2 11 12)).toInt = (sI H218 h0 (X.1.2 11 12)).toInt := congrArg Int32.toInt (up_nI U225 (ne_k g0 gq222 (by decide)))
              have m227 : (sI H225 h0 (X.1.2 11 14)).toInt = (sI H218 h0 (X.1.2 11 14)).toInt := congrArg Int32.toInt (up_nI U225 (ne_k g0 gq222 (by decide)))
              have m228 := congrArg tk m227
              have m229 : (sI H225 h0 (X.1.2 11 16)).toInt = (sI H218 h0 (X.1.2 11 16)).toInt := congrArg Int32.toInt (up_nI U225 (ne_k g0 gq222 (by decide)))
              have m230 : (sI H225 h0 (X.1.2 11 18)).toInt = (sI H218 h0 (X.1.2 11 18)).toInt := congrArg Int32.toInt (up_nI U225 (ne_k g0 gq222 (by decide)))
              have m231 : (sI H225 h0 (X.1.2 11 17)).toInt = (sI H218 h0 (X.1.2 11 17)).toInt := congrArg Int32.toInt (up_nI U225 (ne_k g0 gq222 (by decide)))
              have ym := ym.told U225 g0 gca hte2 htg2 (w := a1) (z := (6 * vl (i + 2) + vl (i + 1))) (by rw [i_ix ev224i]; omega) (by omega) (by decide)
              refine lv_aload_n hx hb dX12_readCell_151 rfl (lv_at hl 5 rfl) ?_
              refine q_getC E hC225 g0 fa_RX12_35 uc dX12_readCell_152 ?_
              refine lv_sipush (v := 2080) hx hb dX12_readCell_155 rfl ?_
              refine lv_iload_n hx hb dX12_readCell_158 rfl (lv_at hl 6 rfl) ?_
              refine q_if_ne hx hb (a := a1) e1 (tgt := 167) dX12_readCell_159 rfl (fun c232 => ?_) (fun c232 => absurd c232 (by omega))
              refine lv_iload_n hx hb dX12_readCell_167 rfl (lv_at hl 6 rfl) ?_
              refine lv_iconst (v := 1) hx hb dX12_readCell_168 rfl ?_
              refine q_icmp_ne hx hb (a := a1) (b := 1) e1 (by decide) (tgt := 177) dX12_readCell_169 rfl (fun c233 => absurd c233 (by omega)) (fun c233 => ?_)
              refine lv_bipush (v := 62) hx hb dX12_readCell_172 rfl ?_
              refine lv_goto (tgt := 179) hx hb dX12_readCell_174 rfl ?_
              refine lv_iadd hx hb dX12_readCell_179 (lv_topi (fun v234 ev234 => ?_))
              have ev234i : v234.toInt = (2080 + 62) := i_add ev234 (by decide) (by decide) (by omega) (by omega)
              refine lv_iload hx hb dX12_readCell_180 (lv_at hl 1 rfl) ?_
              refine lv_iadd hx hb dX12_readCell_182 (lv_topi (fun v235 ev235 => ?_))
              have ev235i : v235.toInt = ((2080 + 62) + ((6 * v30.toInt) + v25.toInt)) := i_add ev235 ev234i ev32i (by omega) (by omega)
              refine lv_iload hx hb dX12_readCell_183 (lv_at hl 0 rfl) ?_
              refine q_cast E hC225 hS225 gca (a := ((2080 + 62) + ((6 * v30.toInt) + v25.toInt))) ev235i (by omega) (by omega) (cs_n26 (a := ((2080 + 62) + ((6 * v30.toInt) + v25.toInt))) (b := v218.toInt) (by omega) (by omega) rfl (by omega) (by omega)) dX12_readCell_185 (fun H236 locs236 hC236 hS236 U236 => ?_)
              have hKp236 := Kp.upD gca rfl rfl (fun _ => ⟨fun _ => nd4 (by omega) (by omega), fun _ => by unfold dpu; omega, fun _ => by unfold dpn; omega⟩) U236 hKp225
              have mc := mc.ne U236 g0 gtq gca (by decide)
              have ym := ym.up U236 g0 gca (by omega)
              have m237 : (sI H236 h0 (X.1.2 11 12)).toInt = (sI H225 h0 (X.1.2 11 12)).toInt := congrArg Int32.toInt (up_nI U236 (ne_k g0 gca (by decide)))
              have m238 : (sI H236 h0 (X.1.2 11 14)).toInt = (sI H225 h0 (X.1.2 11 14)).toInt := congrArg Int32.toInt (up_nI U236 (ne_k g0 gca (by decide)))
              have m239 := congrArg tk m238
              have m240 : (sI H236 h0 (X.1.2 11 16)).toInt = (sI H225 h0 (X.1.2 11 16)).toInt := congrArg Int32.toInt (up_nI U236 (ne_k g0 gca (by decide)))
              have m241 : (sI H236 h0 (X.1.2 11 18)).toInt = (sI H225 h0 (X.1.2 11 18)).toInt := congrArg Int32.toInt (up_nI U236 (ne_k g0 gca (by decide)))
              have m242 : (sI H236 h0 (X.1.2 11 17)).toInt = (sI H225 h0 (X.1.2 11 17)).toInt := congrArg Int32.toInt (up_nI U236 (ne_k g0 gca (by decide)))
              have e243 := up_I U236
              have hz8 := tk_nn (sI H236 h0 (X.1.2 11 14)).toInt
              have hpost : ((sI H236 h0 (X.1.2 11 12)).toInt = 0 ∧ ∃ (S1 : YSt) (i1 : Nat), gHeap kd vl (bfO a1) a1 (lmO a1) S i S1 i1 ∧ MC X H236 h0 tq kd vl w3 pos N i1 ∧ YSM X Γ H236 h0 ca kd vl w3 N S1) ∨ ((sI H236 h0 (X.1.2 11 12)).toInt ≠ 0 ∧ ∀ (S1 : YSt) (i1 : Nat), ¬ gHeap kd vl (bfO a1) a1 (lmO a1) S i S1 i1) := by first | (exfalso; omega) | exact Or.inr ⟨by omega, hno⟩ | exact Or.inl ⟨by omega, _, _, ⟨⟨hP.1.2.1, hP.1.2.2.1, by have := hP.1.2.2.2; omega⟩, ⟨hP.2.1, hP.2.2.1, (show vl (i + 1 + 1) ≤ _ by have := hP.2.2.2; omega)⟩, by omega, by (first | rw [(bfO_0 (a := a1) (by omega)).1] | rw [(bfO_1 (a := a1) (by omega)).1] | rw [(bfO_2 (a := a1) (by omega)).1]); exact hQ.1.2, by (first | rw [(bfO_0 (a := a1) (by omega)).2] | rw [(bfO_1 (a := a1) (by omega)).2] | rw [(bfO_2 (a := a1) (by omega)).2]); exact hQ.2, rfl, rfl⟩, mc, ym⟩ | exact Or.inr ⟨by omega, fun S1 i1 q => by obtain ⟨q1, q2, q3, q4, q5, -, -⟩ := q; (first | (have e1 := bfO_0 (a := a1) (by omega); rw [e1.1] at q4; rw [e1.2] at q5) | (have e1 := bfO_1 (a := a1) (by omega); rw [e1.1] at q4; rw [e1.2] at q5) | (have e1 := bfO_2 (a := a1) (by omega); rw [e1.1] at q4; rw [e1.2] at q5)); first | exact HD.no hd (by omega) ⟨⟨trivial, q4⟩, q5⟩ | exact HD.no hd (by omega) ⟨⟨⟨⟨trivial, q1.1, q1.2.1, by have := q1.2.2; omega⟩, q2.1, q2.2.1, (show vl (i + 2) ≤ _ by have := q2.2.2; omega)⟩, q4⟩, q5⟩⟩
              exact ret H236 locs236 _ _ dX12_readCell_186 ⟨hKp236, ⟨by omega, by omega, by omega, by omega, hpost⟩⟩ hC236 hS236
            · have hz8 := tk_nn (sI H218 h0 (X.1.2 11 14)).toInt
              have hpost : ((sI H218 h0 (X.1.2 11 12)).toInt = 0 ∧ ∃ (S1 : YSt) (i1 : Nat), gHeap kd vl (bfO a1) a1 (lmO a1) S i S1 i1 ∧ MC X H218 h0 tq kd vl w3 pos N i1 ∧ YSM X Γ H218 h0 ca kd vl w3 N S1) ∨ ((sI H218 h0 (X.1.2 11 12)).toInt ≠ 0 ∧ ∀ (S1 : YSt) (i1 : Nat), ¬ gHeap kd vl (bfO a1) a1 (lmO a1) S i S1 i1) := by first | (exfalso; omega) | exact Or.inr ⟨by omega, hno⟩ | exact Or.inl ⟨by omega, _, _, ⟨⟨hP.1.2.1, hP.1.2.2.1, by have := hP.1.2.2.2; omega⟩, ⟨hP.2.1, hP.2.2.1, (show vl (i + 1 + 1) ≤ _ by have := hP.2.2.2; omega)⟩, by omega, by (first | rw [(bfO_0 (a := a1) (by omega)).1] | rw [(bfO_1 (a := a1) (by omega)).1] | rw [(bfO_2 (a := a1) (by omega)).1]); exact hQ.1.2, by (first | rw [(bfO_0 (a := a1) (by omega)).2] | rw [(bfO_1 (a := a1) (by omega)).2] | rw [(bfO_2 (a := a1) (by omega)).2]); exact hQ.2, rfl, rfl⟩, mc, ym⟩ | exact Or.inr ⟨by omega, fun S1 i1 q => by obtain ⟨q1, q2, q3, q4, q5, -, -⟩ := q; (first | (have e1 := bfO_0 (a := a1) (by omega); rw [e1.1] at q4; rw [e1.2] at q5) | (have e1 := bfO_1 (a := a1) (by omega); rw [e1.1] at q4; rw [e1.2] at q5) | (have e1 := bfO_2 (a := a1) (by omega); rw [e1.1] at q4; rw [e1.2] at q5)); first | exact HD.no hd (by omega) ⟨⟨trivial, q4⟩, q5⟩ | exact HD.no hd (by omega) ⟨⟨⟨⟨trivial, q1.1, q1.2.1, by have := q1.2.2; omega⟩, q2.1, q2.2.1, (show vl (i + 2) ≤ _ by have := q2.2.2; omega)⟩, q4⟩, q5⟩⟩
              exact ret H218 locs218 _ _ dX12_readCell_137 ⟨hKp218, ⟨by omega, by omega, by omega, by omega, hpost⟩⟩ hC218 hS218
          · have hw7 := hw
            refine lv_goto (tgt := 108) hx hb dX12_readCell_101 rfl ?_
            refine q_goV (q_runV (As := [.int 0]) (rest := []) E hC30 hS215 (m_X12_must l X Γ H30 hC30 h0 g0 0 (a1 := 0) (by decide) ca gca uc tq ((kp_R hKp30 g0 (ci := 11) (k := 7) rfl (by decide) rfl).trans htq) gtq (by omega) (by omega)) cw_X12_must cl_RX12_244 g0 ⟨rfl, rfl⟩ rfl hl.1 rfl (Nat.zero_le _) (by decide) dX12_readCell_108) hS215 (fun H244 locs244 hr244 hC244 hS244 => ?_)
            obtain ⟨hp244, hr244⟩ := hr244
            have hKp244 := hKp30.tr (hp244.mono rfl)
            obtain ⟨f244_0, f244_1, f244_2, f244_3, f244_4, f244_5⟩ := hr244
            have hd := HD.must hd hp244 g0 gca (by first | exact hbz | exact Or.inl ⟨rfl, hw⟩ | exact Or.inr ⟨rfl, hw⟩) f244_5 f244_2 (by omega) rfl rfl (by decide)
            refine lv_aload_n hx hb dX12_readCell_111 rfl (lv_at hl 4 rfl) ?_
            refine lv_iconst (v := 0) hx hb dX12_readCell_112 rfl ?_
            refine lv_iload_n hx hb dX12_readCell_113 rfl (lv_at hl 5 rfl) ?_
            refine lv_iconst (v := 2) hx hb dX12_readCell_114 rfl ?_
            refine q_icmp_ne hx hb (a := a1) (b := 2) e1 (by decide) (tgt := 123) dX12_readCell_115 rfl (fun c245 => ?_) (fun c245 => absurd c245 (by omega))
            refine lv_bipush (v := 99) hx hb dX12_readCell_123 rfl ?_
            refine q_goI (q_runV (As := [.int 0, .int 99]) (rest := []) E hC244 hS244 (m_X12_count l X Γ H244 hC244 h0 g0 0 (a1 := 0) (by decide) 99 (a2 := 99) (by decide) ca gca uc tq ((kp_R hKp244 g0 (ci := 11) (k := 7) rfl (by decide) rfl).trans htq) gtq (by omega) (by omega) (by omega) (by omega)) cw_X12_count cl_RX12_248 g0 ⟨rfl, rfl⟩ rfl hl.1 rfl (Nat.zero_le _) (by decide) dX12_readCell_125) hS244 (fun v246 H246 locs246 hr246 hC246 hS246 => ?_)
            obtain ⟨hp246, hr246⟩ := hr246
            have hKp246 := hKp244.tr (hp246.mono rfl)
            obtain ⟨f246_0, f246_1, f246_2, f246_3, f246_4, f246_5, f246_6, f246_7, f246_8⟩ := hr246
            have hdc := HD.count hd hp246 g0 gca f246_8 f246_2 (by omega) rfl rfl
            have hd := hdc.1
            refine lv_istore hx hb dX12_readCell_128 hl (by decide) rfl (fun ls hl => ?_)
            have hl : lv_has ls 7 [(6, .int v246), (5, .int v32), (4, .int v30), (3, .int v26), (2, .int v25), (0, .ref h0), (1, .int p1)] := hl
            refine lv_aload_n hx hb dX12_readCell_130 rfl (lv_at hl 5 rfl) ?_
            refine q_getI E hC246 g0 fa_RX12_218 dX12_readCell_131 (fun v247 ev247 lv247 uv247 => ?_)
            have m248 : (sI H246 h0 (X.1.2 11 12)).toInt = v247.toInt := (congrArg Int32.toInt ev247).trans rfl
            refine q_if_le hx hb (a := v247.toInt) rfl (tgt := 138) dX12_readCell_134 rfl (fun c249 => ?_) (fun c249 => ?_)
            · obtain ⟨hQ, mc, ym⟩ := HD.live hd (by omega)
              have mc := mc
              have ym := ym
              refine lv_aload_n hx hb dX12_readCell_138 rfl (lv_at hl 5 rfl) ?_
              refine q_getR E hC246 g0 fa_RX12_41 dX12_readCell_139 (fun q250 eq250 gq250 => ?_)
              have hte2 := eq250; have htg2 := gq250
              refine lv_bipush (v := 36) hx hb dX12_readCell_142 rfl ?_
              refine lv_iload_n hx hb dX12_readCell_144 rfl (lv_at hl 6 rfl) ?_
              refine lv_imul hx hb dX12_readCell_145 (lv_topi (fun v251 ev251 => ?_))
              have ev251i : v251.toInt = (36 * a1) := i_mul ev251 (by decide) e1 (by omega) (by omega)
              refine lv_iload hx hb dX12_readCell_146 (lv_at hl 1 rfl) ?_
              refine lv_iadd hx hb dX12_readCell_148 (lv_topi (fun v252 ev252 => ?_))
              have ev252i : v252.toInt = ((36 * a1) + ((6 * v30.toInt) + v25.toInt)) := i_add ev252 ev251i ev32i (by omega) (by omega)
              refine lv_iconst (v := 1) hx hb dX12_readCell_149 rfl ?_
              refine q_iast E hC246 hS246 gq250 (by decide) rfl rfl (i_in (a := ((36 * a1) + ((6 * v30.toInt) + v25.toInt))) ev252i (by omega) (by omega)) tv_F dX12_readCell_150 (fun H253 locs253 hC253 hS253 U253 => ?_)
              have hKp253 := Kp.upA gq250 rfl (by decide) rfl U253 hKp246
              have mc := mc.ne U253 g0 gtq gq250 (by decide)
              have m254 : (sI H253 h0 (X.1.2 11 12)).toInt = (sI H246 h0 (X.1.2 11 12)).toInt := congrArg Int32.toInt (up_nI U253 (ne_k g0 gq250 (by decide)))
              have m255 : (sI H253 h0 (X.1.2 11 14)).toInt = (sI H246 h0 (X.1.2 11 14)).toInt := congrArg Int32.toInt (up_nI U253 (ne_k g0 gq250 (by decide)))
              have m256 := congrArg tk m255
              have m257 : (sI H253 h0 (X.1.2 11 16)).toInt = (sI H246 h0 (X.1.2 11 16)).toInt := congrArg Int32.toInt (up_nI U253 (ne_k g0 gq250 (by decide)))
              have m258 : (sI H253 h0 (X.1.2 11 18)).toInt = (sI H246 h0 (X.1.2 11 18)).toInt := congrArg Int32.toInt (up_nI U253 (ne_k g0 gq250 (by decide)))
              have m259 : (sI H253 h0 (X.1.2 11 17)).toInt = (sI H246 h0 (X.1.2 11 17)).toInt := congrArg Int32.toInt (up_nI U253 (ne_k g0 gq250 (by decide)))
              have ym := ym.told U253 g0 gca hte2 htg2 (w := a1) (z := (6 * vl (i + 2) + vl (i + 1))) (by rw [i_ix ev252i]; omega) (by omega) (by decide)
              refine lv_aload_n hx hb dX12_readCell_151 rfl (lv_at hl 5 rfl) ?_
              refine q_getC E hC253 g0 fa_RX12_35 uc dX12_readCell_152 ?_
              refine lv_sipush (v := 2080) hx hb dX12_readCell_155 rfl ?_
              refine lv_iload_n hx hb dX12_readCell_158 rfl (lv_at hl 6 rfl) ?_
              refine q_if_ne hx hb (a := a1) e1 (tgt := 167) dX12_readCell_159 rfl (fun c260 => ?_) (fun c260 => absurd c260 (by omega))
              refine lv_iload_n hx hb dX12_readCell_167 rfl (lv_at hl 6 rfl) ?_
              refine lv_iconst (v := 1) hx hb dX12_readCell_168 rfl ?_
              refine q_icmp_ne hx hb (a := a1) (b := 1) e1 (by decide) (tgt := 177) dX12_readCell_169 rfl (fun c261 => absurd c261 (by omega)) (fun c261 => ?_)
              refine lv_bipush (v := 62) hx hb dX12_readCell_172 rfl ?_
              refine lv_goto (tgt := 179) hx hb dX12_readCell_174 rfl ?_
              refine lv_iadd hx hb dX12_readCell_179 (lv_topi (fun v262 ev262 => ?_))
              have ev262i : v262.toInt = (2080 + 62) := i_add ev262 (by decide) (by decide) (by omega) (by omega)
              refine lv_iload hx hb dX12_readCell_180 (lv_at hl 1 rfl) ?_
              refine lv_iadd hx hb dX12_readCell_182 (lv_topi (fun v263 ev263 => ?_))
              have ev263i : v263.toInt = ((2080 + 62) + ((6 * v30.toInt) + v25.toInt)) := i_add ev263 ev262i ev32i (by omega) (by omega)
              refine lv_iload hx hb dX12_readCell_183 (lv_at hl 0 rfl) ?_
              refine q_cast E hC253 hS253 gca (a := ((2080 + 62) + ((6 * v30.toInt) + v25.toInt))) ev263i (by omega) (by omega) (cs_n26 (a := ((2080 + 62) + ((6 * v30.toInt) + v25.toInt))) (b := v246.toInt) (by omega) (by omega) rfl (by omega) (by omega)) dX12_readCell_185 (fun H264 locs264 hC264 hS264 U264 => ?_)
              have hKp264 := Kp.upD gca rfl rfl (fun _ => ⟨fun _ => nd4 (by omega) (by omega), fun _ => by unfold dpu; omega, fun _ => by unfold dpn; omega⟩) U264 hKp253
              have mc := mc.ne U264 g0 gtq gca (by decide)
              have ym := ym.up U264 g0 gca (by omega)
              have m265 : (sI H264 h0 (X.1.2 11 12)).toInt = (sI H253 h0 (X.1.2 11 12)).toInt := congrArg Int32.toInt (up_nI U264 (ne_k g0 gca (by decide)))
              have m266 : (sI H264 h0 (X.1.2 11 14)).toInt = (sI H253 h0 (X.1.2 11 14)).toInt := congrArg Int32.toInt (up_nI U264 (ne_k g0 gca (by decide)))
              have m267 := congrArg tk m266
              have m268 : (sI H264 h0 (X.1.2 11 16)).toInt = (sI H253 h0 (X.1.2 11 16)).toInt := congrArg Int32.toInt (up_nI U264 (ne_k g0 gca (by decide)))
              have m269 : (sI H264 h0 (X.1.2 11 18)).toInt = (sI H253 h0 (X.1.2 11 18)).toInt := congrArg Int32.toInt (up_nI U264 (ne_k g0 gca (by decide)))
              have m270 : (sI H264 h0 (X.1.2 11 17)).toInt = (sI H253 h0 (X.1.2 11 17)).toInt := congrArg Int32.toInt (up_nI U264 (ne_k g0 gca (by decide)))
              have e271 := up_I U264
              have hz8 := tk_nn (sI H264 h0 (X.1.2 11 14)).toInt
              have hpost : ((sI H264 h0 (X.1.2 11 12)).toInt = 0 ∧ ∃ (S1 : YSt) (i1 : Nat), gHeap kd vl (bfO a1) a1 (lmO a1) S i S1 i1 ∧ MC X H264 h0 tq kd vl w3 pos N i1 ∧ YSM X Γ H264 h0 ca kd vl w3 N S1) ∨ ((sI H264 h0 (X.1.2 11 12)).toInt ≠ 0 ∧ ∀ (S1 : YSt) (i1 : Nat), ¬ gHeap kd vl (bfO a1) a1 (lmO a1) S i S1 i1) := by first | (exfalso; omega) | exact Or.inr ⟨by omega, hno⟩ | exact Or.inl ⟨by omega, _, _, ⟨⟨hP.1.2.1, hP.1.2.2.1, by have := hP.1.2.2.2; omega⟩, ⟨hP.2.1, hP.2.2.1, (show vl (i + 1 + 1) ≤ _ by have := hP.2.2.2; omega)⟩, by omega, by (first | rw [(bfO_0 (a := a1) (by omega)).1] | rw [(bfO_1 (a := a1) (by omega)).1] | rw [(bfO_2 (a := a1) (by omega)).1]); exact hQ.1.2, by (first | rw [(bfO_0 (a := a1) (by omega)).2] | rw [(bfO_1 (a := a1) (by omega)).2] | rw [(bfO_2 (a := a1) (by omega)).2]); exact hQ.2, rfl, rfl⟩, mc, ym⟩ | exact Or.inr ⟨by omega, fun S1 i1 q => by obtain ⟨q1, q2, q3, q4, q5, -, -⟩ := q; (first | (have e1 := bfO_0 (a := a1) (by omega); rw [e1.1] at q4; rw [e1.2] at q5) | (have e1 := bfO_1 (a := a1) (by omega); rw [e1.1] at q4; rw [e1.2] at q5) | (have e1 := bfO_2 (a := a1) (by omega); rw [e1.1] at q4; rw [e1.2] at q5)); first | exact HD.no hd (by omega) ⟨⟨trivial, q4⟩, q5⟩ | exact HD.no hd (by omega) ⟨⟨⟨⟨trivial, q1.1, q1.2.1, by have := q1.2.2; omega⟩, q2.1, q2.2.1, (show vl (i + 2) ≤ _ by have := q2.2.2; omega)⟩, q4⟩, q5⟩⟩
              exact ret H264 locs264 _ _ dX12_readCell_186 ⟨hKp264, ⟨by omega, by omega, by omega, by omega, hpost⟩⟩ hC264 hS264
            · have hz8 := tk_nn (sI H246 h0 (X.1.2 11 14)).toInt
              have hpost : ((sI H246 h0 (X.1.2 11 12)).toInt = 0 ∧ ∃ (S1 : YSt) (i1 : Nat), gHeap kd vl (bfO a1) a1 (lmO a1) S i S1 i1 ∧ MC X H246 h0 tq kd vl w3 pos N i1 ∧ YSM X Γ H246 h0 ca kd vl w3 N S1) ∨ ((sI H246 h0 (X.1.2 11 12)).toInt ≠ 0 ∧ ∀ (S1 : YSt) (i1 : Nat), ¬ gHeap kd vl (bfO a1) a1 (lmO a1) S i S1 i1) := by first | (exfalso; omega) | exact Or.inr ⟨by omega, hno⟩ | exact Or.inl ⟨by omega, _, _, ⟨⟨hP.1.2.1, hP.1.2.2.1, by have := hP.1.2.2.2; omega⟩, ⟨hP.2.1, hP.2.2.1, (show vl (i + 1 + 1) ≤ _ by have := hP.2.2.2; omega)⟩, by omega, by (first | rw [(bfO_0 (a := a1) (by omega)).1] | rw [(bfO_1 (a := a1) (by omega)).1] | rw [(bfO_2 (a := a1) (by omega)).1]); exact hQ.1.2, by (first | rw [(bfO_0 (a := a1) (by omega)).2] | rw [(bfO_1 (a := a1) (by omega)).2] | rw [(bfO_2 (a := a1) (by omega)).2]); exact hQ.2, rfl, rfl⟩, mc, ym⟩ | exact Or.inr ⟨by omega, fun S1 i1 q => by obtain ⟨q1, q2, q3, q4, q5, -, -⟩ := q; (first | (have e1 := bfO_0 (a := a1) (by omega); rw [e1.1] at q4; rw [e1.2] at q5) | (have e1 := bfO_1 (a := a1) (by omega); rw [e1.1] at q4; rw [e1.2] at q5) | (have e1 := bfO_2 (a := a1) (by omega); rw [e1.1] at q4; rw [e1.2] at q5)); first | exact HD.no hd (by omega) ⟨⟨trivial, q4⟩, q5⟩ | exact HD.no hd (by omega) ⟨⟨⟨⟨trivial, q1.1, q1.2.1, by have := q1.2.2; omega⟩, q2.1, q2.2.1, (show vl (i + 2) ≤ _ by have := q2.2.2; omega)⟩, q4⟩, q5⟩⟩
              exact ret H246 locs246 _ _ dX12_readCell_137 ⟨hKp246, ⟨by omega, by omega, by omega, by omega, hpost⟩⟩ hC246 hS246
      · refine lv_aload_n hx hb dX12_readCell_85 rfl (lv_at hl 4 rfl) ?_
        refine q_goIp (q_runV (As := []) (rest := [.ref h0]) E hC30 hS30 (m_X12_isDeep l X Γ H30 hC30 h0 g0 ca gca uc) cw_X12_isDeep cl_RX12_181 g0 ⟨rfl, rfl⟩ rfl hl.1 rfl (show _ ≤ _ from by simp [Value.category]) (by decide) dX12_readCell_86) hS30 (fun v272 locs272 hr272 hS272 => ?_)
        rcases hr272 with ⟨rfl, hw⟩ | ⟨rfl, hw⟩
        · have hw5 := hw
          refine lv_goto (tgt := 108) hx hb dX12_readCell_89 rfl ?_
          refine q_goV (q_runV (As := [.int 1]) (rest := []) E hC30 hS272 (m_X12_must l X Γ H30 hC30 h0 g0 1 (a1 := 1) (by decide) ca gca uc tq ((kp_R hKp30 g0 (ci := 11) (k := 7) rfl (by decide) rfl).trans htq) gtq (by omega) (by omega)) cw_X12_must cl_RX12_244 g0 ⟨rfl, rfl⟩ rfl hl.1 rfl (Nat.zero_le _) (by decide) dX12_readCell_108) hS272 (fun H273 locs273 hr273 hC273 hS273 => ?_)
          obtain ⟨hp273, hr273⟩ := hr273
          have hKp273 := hKp30.tr (hp273.mono rfl)
          obtain ⟨f273_0, f273_1, f273_2, f273_3, f273_4, f273_5⟩ := hr273
          have hd := HD.must hd hp273 g0 gca (by first | exact hbz | exact Or.inl ⟨rfl, hw⟩ | exact Or.inr ⟨rfl, hw⟩) f273_5 f273_2 (by omega) rfl rfl (by decide)
          refine lv_aload_n hx hb dX12_readCell_111 rfl (lv_at hl 4 rfl) ?_
          refine lv_iconst (v := 0) hx hb dX12_readCell_112 rfl ?_
          refine lv_iload_n hx hb dX12_readCell_113 rfl (lv_at hl 5 rfl) ?_
          refine lv_iconst (v := 2) hx hb dX12_readCell_114 rfl ?_
          refine q_icmp_ne hx hb (a := a1) (b := 2) e1 (by decide) (tgt := 123) dX12_readCell_115 rfl (fun c274 => ?_) (fun c274 => absurd c274 (by omega))
          refine lv_bipush (v := 99) hx hb dX12_readCell_123 rfl ?_
          refine q_goI (q_runV (As := [.int 0, .int 99]) (rest := []) E hC273 hS273 (m_X12_count l X Γ H273 hC273 h0 g0 0 (a1 := 0) (by decide) 99 (a2 := 99) (by decide) ca gca uc tq ((kp_R hKp273 g0 (ci := 11) (k := 7) rfl (by decide) rfl).trans htq) gtq (by omega) (by omega) (by omega) (by omega)) cw_X12_count cl_RX12_248 g0 ⟨rfl, rfl⟩ rfl hl.1 rfl (Nat.zero_le _) (by decide) dX12_readCell_125) hS273 (fun v275 H275 locs275 hr275 hC275 hS275 => ?_)
          obtain ⟨hp275, hr275⟩ := hr275
          have hKp275 := hKp273.tr (hp275.mono rfl)
          obtain ⟨f275_0, f275_1, f275_2, f275_3, f275_4, f275_5, f275_6, f275_7, f275_8⟩ := hr275
          have hdc := HD.count hd hp275 g0 gca f275_8 f275_2 (by omega) rfl rfl
          have hd := hdc.1
          refine lv_istore hx hb dX12_readCell_128 hl (by decide) rfl (fun ls hl => ?_)
          have hl : lv_has ls 7 [(6, .int v275), (5, .int v32), (4, .int v30), (3, .int v26), (2, .int v25), (0, .ref h0), (1, .int p1)] := hl
          refine lv_aload_n hx hb dX12_readCell_130 rfl (lv_at hl 5 rfl) ?_
          refine q_getI E hC275 g0 fa_RX12_218 dX12_readCell_131 (fun v276 ev276 lv276 uv276 => ?_)
          have m277 : (sI H275 h0 (X.1.2 11 12)).toInt = v276.toInt := (congrArg Int32.toInt ev276).trans rfl
          refine q_if_le hx hb (a := v276.toInt) rfl (tgt := 138) dX12_readCell_134 rfl (fun c278 => ?_) (fun c278 => ?_)
          · obtain ⟨hQ, mc, ym⟩ := HD.live hd (by omega)
            have mc := mc
            have ym := ym
            refine lv_aload_n hx hb dX12_readCell_138 rfl (lv_at hl 5 rfl) ?_
            refine q_getR E hC275 g0 fa_RX12_41 dX12_readCell_139 (fun q279 eq279 gq279 => ?_)
            have hte2 := eq279; have htg2 := gq279
            refine lv_bipush (v := 36) hx hb dX12_readCell_142 rfl ?_
            refine lv_iload_n hx hb dX12_readCell_144 rfl (lv_at hl 6 rfl) ?_
            refine lv_imul hx hb dX12_readCell_145 (lv_topi (fun v280 ev280 => ?_))
            have ev280i : v280.toInt = (36 * a1) := i_mul ev280 (by decide) e1 (by omega) (by omega)
            refine lv_iload hx hb dX12_readCell_146 (lv_at hl 1 rfl) ?_
            refine lv_iadd hx hb dX12_readCell_148 (lv_topi (fun v281 ev281 => ?_))
            have ev281i : v281.toInt = ((36 * a1) + ((6 * v30.toInt) + v25.toInt)) := i_add ev281 ev280i ev32i (by omega) (by omega)
            refine lv_iconst (v := 1) hx hb dX12_readCell_149 rfl ?_
            refine q_iast E hC275 hS275 gq279 (by decide) rfl rfl (i_in (a := ((36 * a1) + ((6 * v30.toInt) + v25.toInt))) ev281i (by omega) (by omega)) tv_F dX12_readCell_150 (fun H282 locs282 hC282 hS282 U282 => ?_)
            have hKp282 := Kp.upA gq279 rfl (by decide) rfl U282 hKp275
            have mc := mc.ne U282 g0 gtq gq279 (by decide)
            have m283 : (sI H282 h0 (X.1.2 11 12)).toInt = (sI H275 h0 (X.1.2 11 12)).toInt := congrArg Int32.toInt (up_nI U282 (ne_k g0 gq279 (by decide)))
            have m284 : (sI H282 h0 (X.1.2 11 14)).toInt = (sI H275 h0 (X.1.2 11 14)).toInt := congrArg Int32.toInt (up_nI U282 (ne_k g0 gq279 (by decide)))
            have m285 := congrArg tk m284
            have m286 : (sI H282 h0 (X.1.2 11 16)).toInt = (sI H275 h0 (X.1.2 11 16)).toInt := congrArg Int32.toInt (up_nI U282 (ne_k g0 gq279 (by decide)))
            have m287 : (sI H282 h0 (X.1.2 11 18)).toInt = (sI H275 h0 (X.1.2 11 18)).toInt := congrArg Int32.toInt (up_nI U282 (ne_k g0 gq279 (by decide)))
            have m288 : (sI H282 h0 (X.1.2 11 17)).toInt = (sI H275 h0 (X.1.2 11 17)).toInt := congrArg Int32.toInt (up_nI U282 (ne_k g0 gq279 (by decide)))
            have ym := ym.told U282 g0 gca hte2 htg2 (w := a1) (z := (6 * vl (i + 2) + vl (i + 1))) (by rw [i_ix ev281i]; omega) (by omega) (by decide)
            refine lv_aload_n hx hb dX12_readCell_151 rfl (lv_at hl 5 rfl) ?_
            refine q_getC E hC282 g0 fa_RX12_35 uc dX12_readCell_152 ?_
            refine lv_sipush (v := 2080) hx hb dX12_readCell_155 rfl ?_
            refine lv_iload_n hx hb dX12_readCell_158 rfl (lv_at hl 6 rfl) ?_
            refine q_if_ne hx hb (a := a1) e1 (tgt := 167) dX12_readCell_159 rfl (fun c289 => absurd c289 (by omega)) (fun c289 => ?_)
            refine lv_bipush (v := 26) hx hb dX12_readCell_162 rfl ?_
            refine lv_goto (tgt := 179) hx hb dX12_readCell_164 rfl ?_
            refine lv_iadd hx hb dX12_readCell_179 (lv_topi (fun v290 ev290 => ?_))
            have ev290i : v290.toInt = (2080 + 26) := i_add ev290 (by decide) (by decide) (by omega) (by omega)
            refine lv_iload hx hb dX12_readCell_180 (lv_at hl 1 rfl) ?_
            refine lv_iadd hx hb dX12_readCell_182 (lv_topi (fun v291 ev291 => ?_))
            have ev291i : v291.toInt = ((2080 + 26) + ((6 * v30.toInt) + v25.toInt)) := i_add ev291 ev290i ev32i (by omega) (by omega)
            refine lv_iload hx hb dX12_readCell_183 (lv_at hl 0 rfl) ?_
            refine q_cast E hC282 hS282 gca (a := ((2080 + 26) + ((6 * v30.toInt) + v25.toInt))) ev291i (by omega) (by omega) (cs_n26 (a := ((2080 + 26) + ((6 * v30.toInt) + v25.toInt))) (b := v275.toInt) (by omega) (by omega) rfl (by omega) (by omega)) dX12_readCell_185 (fun H292 locs292 hC292 hS292 U292 => ?_)
            have hKp292 := Kp.upD gca rfl rfl (fun _ => ⟨fun _ => nd4 (by omega) (by omega), fun _ => by unfold dpu; omega, fun _ => by unfold dpn; omega⟩) U292 hKp282
            have mc := mc.ne U292 g0 gtq gca (by decide)
            have ym := ym.up U292 g0 gca (by omega)
            have m293 : (sI H292 h0 (X.1.2 11 12)).toInt = (sI H282 h0 (X.1.2 11 12)).toInt := congrArg Int32.toInt (up_nI U292 (ne_k g0 gca (by decide)))
            have m294 : (sI H292 h0 (X.1.2 11 14)).toInt = (sI H282 h0 (X.1.2 11 14)).toInt := congrArg Int32.toInt (up_nI U292 (ne_k g0 gca (by decide)))
            have m295 := congrArg tk m294
            have m296 : (sI H292 h0 (X.1.2 11 16)).toInt = (sI H282 h0 (X.1.2 11 16)).toInt := congrArg Int32.toInt (up_nI U292 (ne_k g0 gca (by decide)))
            have m297 : (sI H292 h0 (X.1.2 11 18)).toInt = (sI H282 h0 (X.1.2 11 18)).toInt := congrArg Int32.toInt (up_nI U292 (ne_k g0 gca (by decide)))
            have m298 : (sI H292 h0 (X.1.2 11 17)).toInt = (sI H282 h0 (X.1.2 11 17)).toInt := congrArg Int32.toInt (up_nI U292 (ne_k g0 gca (by decide)))
            have e299 := up_I U292
            have hz8 := tk_nn (sI H292 h0 (X.1.2 11 14)).toInt
            have hpost : ((sI H292 h0 (X.1.2 11 12)).toInt = 0 ∧ ∃ (S1 : YSt) (i1 : Nat), gHeap kd vl (bfO a1) a1 (lmO a1) S i S1 i1 ∧ MC X H292 h0 tq kd vl w3 pos N i1 ∧ YSM X Γ H292 h0 ca kd vl w3 N S1) ∨ ((sI H292 h0 (X.1.2 11 12)).toInt ≠ 0 ∧ ∀ (S1 : YSt) (i1 : Nat), ¬ gHeap kd vl (bfO a1) a1 (lmO a1) S i S1 i1) := by first | (exfalso; omega) | exact Or.inr ⟨by omega, hno⟩ | exact Or.inl ⟨by omega, _, _, ⟨⟨hP.1.2.1, hP.1.2.2.1, by have := hP.1.2.2.2; omega⟩, ⟨hP.2.1, hP.2.2.1, (show vl (i + 1 + 1) ≤ _ by have := hP.2.2.2; omega)⟩, by omega, by (first | rw [(bfO_0 (a := a1) (by omega)).1] | rw [(bfO_1 (a := a1) (by omega)).1] | rw [(bfO_2 (a := a1) (by omega)).1]); exact hQ.1.2, by (first | rw [(bfO_0 (a := a1) (by omega)).2] | rw [(bfO_1 (a := a1) (by omega)).2] | rw [(bfO_2 (a := a1) (by omega)).2]); exact hQ.2, rfl, rfl⟩, mc, ym⟩ | exact Or.inr ⟨by omega, fun S1 i1 q => by obtain ⟨q1, q2, q3, q4, q5, -, -⟩ := q; (first | (have e1 := bfO_0 (a := a1) (by omega); rw [e1.1] at q4; rw [e1.2] at q5) | (have e1 := bfO_1 (a := a1) (by omega); rw [e1.1] at q4; rw [e1.2] at q5) | (have e1 := bfO_2 (a := a1) (by omega); rw [e1.1] at q4; rw [e1.2] at q5)); first | exact HD.no hd (by omega) ⟨⟨trivial, q4⟩, q5⟩ | exact HD.no hd (by omega) ⟨⟨⟨⟨trivial, q1.1, q1.2.1, by have := q1.2.2; omega⟩, q2.1, q2.2.1, (show vl (i + 2) ≤ _ by have := q2.2.2; omega)⟩, q4⟩, q5⟩⟩
            exact ret H292 locs292 _ _ dX12_readCell_186 ⟨hKp292, ⟨by omega, by omega, by omega, by omega, hpost⟩⟩ hC292 hS292
          · have hz8 := tk_nn (sI H275 h0 (X.1.2 11 14)).toInt
            have hpost : ((sI H275 h0 (X.1.2 11 12)).toInt = 0 ∧ ∃ (S1 : YSt) (i1 : Nat), gHeap kd vl (bfO a1) a1 (lmO a1) S i S1 i1 ∧ MC X H275 h0 tq kd vl w3 pos N i1 ∧ YSM X Γ H275 h0 ca kd vl w3 N S1) ∨ ((sI H275 h0 (X.1.2 11 12)).toInt ≠ 0 ∧ ∀ (S1 : YSt) (i1 : Nat), ¬ gHeap kd vl (bfO a1) a1 (lmO a1) S i S1 i1) := by first | (exfalso; omega) | exact Or.inr ⟨by omega, hno⟩ | exact Or.inl ⟨by omega, _, _, ⟨⟨hP.1.2.1, hP.1.2.2.1, by have := hP.1.2.2.2; omega⟩, ⟨hP.2.1, hP.2.2.1, (show vl (i + 1 + 1) ≤ _ by have := hP.2.2.2; omega)⟩, by omega, by (first | rw [(bfO_0 (a := a1) (by omega)).1] | rw [(bfO_1 (a := a1) (by omega)).1] | rw [(bfO_2 (a := a1) (by omega)).1]); exact hQ.1.2, by (first | rw [(bfO_0 (a := a1) (by omega)).2] | rw [(bfO_1 (a := a1) (by omega)).2] | rw [(bfO_2 (a := a1) (by omega)).2]); exact hQ.2, rfl, rfl⟩, mc, ym⟩ | exact Or.inr ⟨by omega, fun S1 i1 q => by obtain ⟨q1, q2, q3, q4, q5, -, -⟩ := q; (first | (have e1 := bfO_0 (a := a1) (by omega); rw [e1.1] at q4; rw [e1.2] at q5) | (have e1 := bfO_1 (a := a1) (by omega); rw [e1.1] at q4; rw [e1.2] at q5) | (have e1 := bfO_2 (a := a1) (by omega); rw [e1.1] at q4; rw [e1.2] at q5)); first | exact HD.no hd (by omega) ⟨⟨trivial, q4⟩, q5⟩ | exact HD.no hd (by omega) ⟨⟨⟨⟨trivial, q1.1, q1.2.1, by have := q1.2.2; omega⟩, q2.1, q2.2.1, (show vl (i + 2) ≤ _ by have := q2.2.2; omega)⟩, q4⟩, q5⟩⟩
            exact ret H275 locs275 _ _ dX12_readCell_137 ⟨hKp275, ⟨by omega, by omega, by omega, by omega, hpost⟩⟩ hC275 hS275
        · have hw5 := hw
          refine lv_goto (tgt := 108) hx hb dX12_readCell_89 rfl ?_
          refine q_goV (q_runV (As := [.int 0]) (rest := []) E hC30 hS272 (m_X12_must l X Γ H30 hC30 h0 g0 0 (a1 := 0) (by decide) ca gca uc tq ((kp_R hKp30 g0 (ci := 11) (k := 7) rfl (by decide) rfl).trans htq) gtq (by omega) (by omega)) cw_X12_must cl_RX12_244 g0 ⟨rfl, rfl⟩ rfl hl.1 rfl (Nat.zero_le _) (by decide) dX12_readCell_108) hS272 (fun H300 locs300 hr300 hC300 hS300 => ?_)
          obtain ⟨hp300, hr300⟩ := hr300
          have hKp300 := hKp30.tr (hp300.mono rfl)
          obtain ⟨f300_0, f300_1, f300_2, f300_3, f300_4, f300_5⟩ := hr300
          have hd := HD.must hd hp300 g0 gca (by first | exact hbz | exact Or.inl ⟨rfl, hw⟩ | exact Or.inr ⟨rfl, hw⟩) f300_5 f300_2 (by omega) rfl rfl (by decide)
          refine lv_aload_n hx hb dX12_readCell_111 rfl (lv_at hl 4 rfl) ?_
          refine lv_iconst (v := 0) hx hb dX12_readCell_112 rfl ?_
          refine lv_iload_n hx hb dX12_readCell_113 rfl (lv_at hl 5 rfl) ?_
          refine lv_iconst (v := 2) hx hb dX12_readCell_114 rfl ?_
          refine q_icmp_ne hx hb (a := a1) (b := 2) e1 (by decide) (tgt := 123) dX12_readCell_115 rfl (fun c301 => ?_) (fun c301 => absurd c301 (by omega))
          refine lv_bipush (v := 99) hx hb dX12_readCell_123 rfl ?_
          refine q_goI (q_runV (As := [.int 0, .int 99]) (rest := []) E hC300 hS300 (m_X12_count l X Γ H300 hC300 h0 g0 0 (a1 := 0) (by decide) 99 (a2 := 99) (by decide) ca gca uc tq ((kp_R hKp300 g0 (ci := 11) (k := 7) rfl (by decide) rfl).trans htq) gtq (by omega) (by omega) (by omega) (by omega)) cw_X12_count cl_RX12_248 g0 ⟨rfl, rfl⟩ rfl hl.1 rfl (Nat.zero_le _) (by decide) dX12_readCell_125) hS300 (fun v302 H302 locs302 hr302 hC302 hS302 => ?_)
          obtain ⟨hp302, hr302⟩ := hr302
          have hKp302 := hKp300.tr (hp302.mono rfl)
          obtain ⟨f302_0, f302_1, f302_2, f302_3, f302_4, f302_5, f302_6, f302_7, f302_8⟩ := hr302
          have hdc := HD.count hd hp302 g0 gca f302_8 f302_2 (by omega) rfl rfl
          have hd := hdc.1
          refine lv_istore hx hb dX12_readCell_128 hl (by decide) rfl (fun ls hl => ?_)
          have hl : lv_has ls 7 [(6, .int v302), (5, .int v32), (4, .int v30), (3, .int v26), (2, .int v25), (0, .ref h0), (1, .int p1)] := hl
          refine lv_aload_n hx hb dX12_readCell_130 rfl (lv_at hl 5 rfl) ?_
          refine q_getI E hC302 g0 fa_RX12_218 dX12_readCell_131 (fun v303 ev303 lv303 uv303 => ?_)
          have m304 : (sI H302 h0 (X.1.2 11 12)).toInt = v303.toInt := (congrArg Int32.toInt ev303).trans rfl
          refine q_if_le hx hb (a := v303.toInt) rfl (tgt := 138) dX12_readCell_134 rfl (fun c305 => ?_) (fun c305 => ?_)
          · obtain ⟨hQ, mc, ym⟩ := HD.live hd (by omega)
            have mc := mc
            have ym := ym
            refine lv_aload_n hx hb dX12_readCell_138 rfl (lv_at hl 5 rfl) ?_
            refine q_getR E hC302 g0 fa_RX12_41 dX12_readCell_139 (fun q306 eq306 gq306 => ?_)
            have hte2 := eq306; have htg2 := gq306
            refine lv_bipush (v := 36) hx hb dX12_readCell_142 rfl ?_
            refine lv_iload_n hx hb dX12_readCell_144 rfl (lv_at hl 6 rfl) ?_
            refine lv_imul hx hb dX12_readCell_145 (lv_topi (fun v307 ev307 => ?_))
            have ev307i : v307.toInt = (36 * a1) := i_mul ev307 (by decide) e1 (by omega) (by omega)
            refine lv_iload hx hb dX12_readCell_146 (lv_at hl 1 rfl) ?_
            refine lv_iadd hx hb dX12_readCell_148 (lv_topi (fun v308 ev308 => ?_))
            have ev308i : v308.toInt = ((36 * a1) + ((6 * v30.toInt) + v25.toInt)) := i_add ev308 ev307i ev32i (by omega) (by omega)
            refine lv_iconst (v := 1) hx hb dX12_readCell_149 rfl ?_
            refine q_iast E hC302 hS302 gq306 (by decide) rfl rfl (i_in (a := ((36 * a1) + ((6 * v30.toInt) + v25.toInt))) ev308i (by omega) (by omega)) tv_F dX12_readCell_150 (fun H309 locs309 hC309 hS309 U309 => ?_)
            have hKp309 := Kp.upA gq306 rfl (by decide) rfl U309 hKp302
            have mc := mc.ne U309 g0 gtq gq306 (by decide)
            have m310 : (sI H309 h0 (X.1.2 11 12)).toInt = (sI H302 h0 (X.1.2 11 12)).toInt := congrArg Int32.toInt (up_nI U309 (ne_k g0 gq306 (by decide)))
            have m311 : (sI H309 h0 (X.1.2 11 14)).toInt = (sI H302 h0 (X.1.2 11 14)).toInt := congrArg Int32.toInt (up_nI U309 (ne_k g0 gq306 (by decide)))
            have m312 := congrArg tk m311
            have m313 : (sI H309 h0 (X.1.2 11 16)).toInt = (sI H302 h0 (X.1.2 11 16)).toInt := congrArg Int32.toInt (up_nI U309 (ne_k g0 gq306 (by decide)))
            have m314 : (sI H309 h0 (X.1.2 11 18)).toInt = (sI H302 h0 (X.1.2 11 18)).toInt := congrArg Int32.toInt (up_nI U309 (ne_k g0 gq306 (by decide)))
            have m315 : (sI H309 h0 (X.1.2 11 17)).toInt = (sI H302 h0 (X.1.2 11 17)).toInt := congrArg Int32.toInt (up_nI U309 (ne_k g0 gq306 (by decide)))
            have ym := ym.told U309 g0 gca hte2 htg2 (w := a1) (z := (6 * vl (i + 2) + vl (i + 1))) (by rw [i_ix ev308i]; omega) (by omega) (by decide)
            refine lv_aload_n hx hb dX12_readCell_151 rfl (lv_at hl 5 rfl) ?_
            refine q_getC E hC309 g0 fa_RX12_35 uc dX12_readCell_152 ?_
            refine lv_sipush (v := 2080) hx hb dX12_readCell_155 rfl ?_
            refine lv_iload_n hx hb dX12_readCell_158 rfl (lv_at hl 6 rfl) ?_
            refine q_if_ne hx hb (a := a1) e1 (tgt := 167) dX12_readCell_159 rfl (fun c316 => absurd c316 (by omega)) (fun c316 => ?_)
            refine lv_bipush (v := 26) hx hb dX12_readCell_162 rfl ?_
            refine lv_goto (tgt := 179) hx hb dX12_readCell_164 rfl ?_
            refine lv_iadd hx hb dX12_readCell_179 (lv_topi (fun v317 ev317 => ?_))
            have ev317i : v317.toInt = (2080 + 26) := i_add ev317 (by decide) (by decide) (by omega) (by omega)
            refine lv_iload hx hb dX12_readCell_180 (lv_at hl 1 rfl) ?_
            refine lv_iadd hx hb dX12_readCell_182 (lv_topi (fun v318 ev318 => ?_))
            have ev318i : v318.toInt = ((2080 + 26) + ((6 * v30.toInt) + v25.toInt)) := i_add ev318 ev317i ev32i (by omega) (by omega)
            refine lv_iload hx hb dX12_readCell_183 (lv_at hl 0 rfl) ?_
            refine q_cast E hC309 hS309 gca (a := ((2080 + 26) + ((6 * v30.toInt) + v25.toInt))) ev318i (by omega) (by omega) (cs_n26 (a := ((2080 + 26) + ((6 * v30.toInt) + v25.toInt))) (b := v302.toInt) (by omega) (by omega) rfl (by omega) (by omega)) dX12_readCell_185 (fun H319 locs319 hC319 hS319 U319 => ?_)
            have hKp319 := Kp.upD gca rfl rfl (fun _ => ⟨fun _ => nd4 (by omega) (by omega), fun _ => by unfold dpu; omega, fun _ => by unfold dpn; omega⟩) U319 hKp309
            have mc := mc.ne U319 g0 gtq gca (by decide)
            have ym := ym.up U319 g0 gca (by omega)
            have m320 : (sI H319 h0 (X.1.2 11 12)).toInt = (sI H309 h0 (X.1.2 11 12)).toInt := congrArg Int32.toInt (up_nI U319 (ne_k g0 gca (by decide)))
            have m321 : (sI H319 h0 (X.1.2 11 14)).toInt = (sI H309 h0 (X.1.2 11 14)).toInt := congrArg Int32.toInt (up_nI U319 (ne_k g0 gca (by decide)))
            have m322 := congrArg tk m321
            have m323 : (sI H319 h0 (X.1.2 11 16)).toInt = (sI H309 h0 (X.1.2 11 16)).toInt := congrArg Int32.toInt (up_nI U319 (ne_k g0 gca (by decide)))
            have m324 : (sI H319 h0 (X.1.2 11 18)).toInt = (sI H309 h0 (X.1.2 11 18)).toInt := congrArg Int32.toInt (up_nI U319 (ne_k g0 gca (by decide)))
            have m325 : (sI H319 h0 (X.1.2 11 17)).toInt = (sI H309 h0 (X.1.2 11 17)).toInt := congrArg Int32.toInt (up_nI U319 (ne_k g0 gca (by decide)))
            have e326 := up_I U319
            have hz8 := tk_nn (sI H319 h0 (X.1.2 11 14)).toInt
            have hpost : ((sI H319 h0 (X.1.2 11 12)).toInt = 0 ∧ ∃ (S1 : YSt) (i1 : Nat), gHeap kd vl (bfO a1) a1 (lmO a1) S i S1 i1 ∧ MC X H319 h0 tq kd vl w3 pos N i1 ∧ YSM X Γ H319 h0 ca kd vl w3 N S1) ∨ ((sI H319 h0 (X.1.2 11 12)).toInt ≠ 0 ∧ ∀ (S1 : YSt) (i1 : Nat), ¬ gHeap kd vl (bfO a1) a1 (lmO a1) S i S1 i1) := by first | (exfalso; omega) | exact Or.inr ⟨by omega, hno⟩ | exact Or.inl ⟨by omega, _, _, ⟨⟨hP.1.2.1, hP.1.2.2.1, by have := hP.1.2.2.2; omega⟩, ⟨hP.2.1, hP.2.2.1, (show vl (i + 1 + 1) ≤ _ by have := hP.2.2.2; omega)⟩, by omega, by (first | rw [(bfO_0 (a := a1) (by omega)).1] | rw [(bfO_1 (a := a1) (by omega)).1] | rw [(bfO_2 (a := a1) (by omega)).1]); exact hQ.1.2, by (first | rw [(bfO_0 (a := a1) (by omega)).2] | rw [(bfO_1 (a := a1) (by omega)).2] | rw [(bfO_2 (a := a1) (by omega)).2]); exact hQ.2, rfl, rfl⟩, mc, ym⟩ | exact Or.inr ⟨by omega, fun S1 i1 q => by obtain ⟨q1, q2, q3, q4, q5, -, -⟩ := q; (first | (have e1 := bfO_0 (a := a1) (by omega); rw [e1.1] at q4; rw [e1.2] at q5) | (have e1 := bfO_1 (a := a1) (by omega); rw [e1.1] at q4; rw [e1.2] at q5) | (have e1 := bfO_2 (a := a1) (by omega); rw [e1.1] at q4; rw [e1.2] at q5)); first | exact HD.no hd (by omega) ⟨⟨trivial, q4⟩, q5⟩ | exact HD.no hd (by omega) ⟨⟨⟨⟨trivial, q1.1, q1.2.1, by have := q1.2.2; omega⟩, q2.1, q2.2.1, (show vl (i + 2) ≤ _ by have := q2.2.2; omega)⟩, q4⟩, q5⟩⟩
            exact ret H319 locs319 _ _ dX12_readCell_186 ⟨hKp319, ⟨by omega, by omega, by omega, by omega, hpost⟩⟩ hC319 hS319
          · have hz8 := tk_nn (sI H302 h0 (X.1.2 11 14)).toInt
            have hpost : ((sI H302 h0 (X.1.2 11 12)).toInt = 0 ∧ ∃ (S1 : YSt) (i1 : Nat), gHeap kd vl (bfO a1) a1 (lmO a1) S i S1 i1 ∧ MC X H302 h0 tq kd vl w3 pos N i1 ∧ YSM X Γ H302 h0 ca kd vl w3 N S1) ∨ ((sI H302 h0 (X.1.2 11 12)).toInt ≠ 0 ∧ ∀ (S1 : YSt) (i1 : Nat), ¬ gHeap kd vl (bfO a1) a1 (lmO a1) S i S1 i1) := by first | (exfalso; omega) | exact Or.inr ⟨by omega, hno⟩ | exact Or.inl ⟨by omega, _, _, ⟨⟨hP.1.2.1, hP.1.2.2.1, by have := hP.1.2.2.2; omega⟩, ⟨hP.2.1, hP.2.2.1, (show vl (i + 1 + 1) ≤ _ by have := hP.2.2.2; omega)⟩, by omega, by (first | rw [(bfO_0 (a := a1) (by omega)).1] | rw [(bfO_1 (a := a1) (by omega)).1] | rw [(bfO_2 (a := a1) (by omega)).1]); exact hQ.1.2, by (first | rw [(bfO_0 (a := a1) (by omega)).2] | rw [(bfO_1 (a := a1) (by omega)).2] | rw [(bfO_2 (a := a1) (by omega)).2]); exact hQ.2, rfl, rfl⟩, mc, ym⟩ | exact Or.inr ⟨by omega, fun S1 i1 q => by obtain ⟨q1, q2, q3, q4, q5, -, -⟩ := q; (first | (have e1 := bfO_0 (a := a1) (by omega); rw [e1.1] at q4; rw [e1.2] at q5) | (have e1 := bfO_1 (a := a1) (by omega); rw [e1.1] at q4; rw [e1.2] at q5) | (have e1 := bfO_2 (a := a1) (by omega); rw [e1.1] at q4; rw [e1.2] at q5)); first | exact HD.no hd (by omega) ⟨⟨trivial, q4⟩, q5⟩ | exact HD.no hd (by omega) ⟨⟨⟨⟨trivial, q1.1, q1.2.1, by have := q1.2.2; omega⟩, q2.1, q2.2.1, (show vl (i + 2) ≤ _ by have := q2.2.2; omega)⟩, q4⟩, q5⟩⟩
            exact ret H302 locs302 _ _ dX12_readCell_137 ⟨hKp302, ⟨by omega, by omega, by omega, by omega, hpost⟩⟩ hC302 hS302
    · have hno : ∀ (S1 : YSt) (i1 : Nat), ¬ gHeap kd vl (bfO a1) a1 (lmO a1) S i S1 i1 := fun S1 i1 q => by have q3 := q.2.2.1; omega
      refine lv_aload_n hx hb dX12_readCell_74 rfl (lv_at hl 4 rfl) ?_
      refine lv_iconst (v := 5) hx hb dX12_readCell_75 rfl ?_
      refine lv_iload_n hx hb dX12_readCell_76 rfl (lv_at hl 2 rfl) ?_
      refine q_goV (q_runV (As := [.int 5, .int v26]) (rest := []) E hC30 hS30 (m_X12_fail l X Γ H30 hC30 h0 g0 5 (a1 := 5) (by decide) v26 (a2 := v26.toInt) rfl ca gca uc (by omega) (by omega)) cw_X12_fail cl_RX12_224 g0 ⟨rfl, rfl⟩ rfl hl.1 rfl (Nat.zero_le _) (by decide) dX12_readCell_77) hS30 (fun H327 locs327 hr327 hC327 hS327 => ?_)
      obtain ⟨hp327, hr327⟩ := hr327
      have hKp327 := hKp30.tr (hp327.mono rfl)
      have ym := ym.kp hp327 g0 gca rfl rfl
      obtain ⟨f327_0, f327_1, f327_2, f327_3⟩ := hr327
      have hd := HD.dead (i := 0) (S := S) (kd := kd) (vl := vl) (w3 := w3) (pos := pos) (N := N) (tq := tq) (ca := ca) (X := X) (Γ := Γ) (H := H327) (r := h0) (by omega)
      refine lv_aload_n hx hb dX12_readCell_80 rfl (lv_at hl 4 rfl) ?_
      refine lv_iload_n hx hb dX12_readCell_81 rfl (lv_at hl 5 rfl) ?_
      refine q_if_ne hx hb (a := a1) e1 (tgt := 92) dX12_readCell_82 rfl (fun c328 => ?_) (fun c328 => ?_)
      · refine lv_iload_n hx hb dX12_readCell_92 rfl (lv_at hl 5 rfl) ?_
        refine lv_iconst (v := 1) hx hb dX12_readCell_93 rfl ?_
        refine q_icmp_ne hx hb (a := a1) (b := 1) e1 (by decide) (tgt := 104) dX12_readCell_94 rfl (fun c329 => ?_) (fun c329 => ?_)
        · refine lv_aload_n hx hb dX12_readCell_104 rfl (lv_at hl 4 rfl) ?_
          refine q_goIp (q_runV (As := []) (rest := [.ref h0]) E hC327 hS327 (m_X12_isBy l X Γ H327 hC327 h0 g0 ca gca uc) cw_X12_isBy cl_RX12_190 g0 ⟨rfl, rfl⟩ rfl hl.1 rfl (show _ ≤ _ from by simp [Value.category]) (by decide) dX12_readCell_105) hS327 (fun v330 locs330 hr330 hS330 => ?_)
          have b330 : (v330.toInt = 1 ∧ _) ∨ (v330.toInt = 0 ∧ _) := hr330.imp (fun h => ⟨by rw [h.1]; decide, h.2⟩) (fun h => ⟨by rw [h.1]; decide, h.2⟩)
          have hbz := b330
          refine q_goV (q_runV (As := [.int v330]) (rest := []) E hC327 hS330 (m_X12_must l X Γ H327 hC327 h0 g0 v330 (a1 := v330.toInt) rfl ca gca uc tq ((kp_R hKp327 g0 (ci := 11) (k := 7) rfl (by decide) rfl).trans htq) gtq (by omega) (by omega)) cw_X12_must cl_RX12_244 g0 ⟨rfl, rfl⟩ rfl hl.1 rfl (Nat.zero_le _) (by decide) dX12_readCell_108) hS330 (fun H331 locs331 hr331 hC331 hS331 => ?_)
          obtain ⟨hp331, hr331⟩ := hr331
          have hKp331 := hKp327.tr (hp331.mono rfl)
          obtain ⟨f331_0, f331_1, f331_2, f331_3, f331_4, f331_5⟩ := hr331
          have hd := HD.must hd hp331 g0 gca (by first | exact hbz | exact Or.inl ⟨rfl, hw⟩ | exact Or.inr ⟨rfl, hw⟩) f331_5 f331_2 (by omega) rfl rfl (by decide)
          refine lv_aload_n hx hb dX12_readCell_111 rfl (lv_at hl 4 rfl) ?_
          refine lv_iconst (v := 0) hx hb dX12_readCell_112 rfl ?_
          refine lv_iload_n hx hb dX12_readCell_113 rfl (lv_at hl 5 rfl) ?_
          refine lv_iconst (v := 2) hx hb dX12_readCell_114 rfl ?_
          refine q_icmp_ne hx hb (a := a1) (b := 2) e1 (by decide) (tgt := 123) dX12_readCell_115 rfl (fun c332 => absurd c332 (by omega)) (fun c332 => ?_)
          refine lv_bipush (v := 9) hx hb dX12_readCell_118 rfl ?_
          refine lv_goto (tgt := 125) hx hb dX12_readCell_120 rfl ?_
          refine q_goI (q_runV (As := [.int 0, .int 9]) (rest := []) E hC331 hS331 (m_X12_count l X Γ H331 hC331 h0 g0 0 (a1 := 0) (by decide) 9 (a2 := 9) (by decide) ca gca uc tq ((kp_R hKp331 g0 (ci := 11) (k := 7) rfl (by decide) rfl).trans htq) gtq (by omega) (by omega) (by omega) (by omega)) cw_X12_count cl_RX12_248 g0 ⟨rfl, rfl⟩ rfl hl.1 rfl (Nat.zero_le _) (by decide) dX12_readCell_125) hS331 (fun v333 H333 locs333 hr333 hC333 hS333 => ?_)
          obtain ⟨hp333, hr333⟩ := hr333
          have hKp333 := hKp331.tr (hp333.mono rfl)
          obtain ⟨f333_0, f333_1, f333_2, f333_3, f333_4, f333_5, f333_6, f333_7, f333_8⟩ := hr333
          have hdc := HD.count hd hp333 g0 gca f333_8 f333_2 (by omega) rfl rfl
          have hd := hdc.1
          refine lv_istore hx hb dX12_readCell_128 hl (by decide) rfl (fun ls hl => ?_)
          have hl : lv_has ls 7 [(6, .int v333), (5, .int v32), (4, .int v30), (3, .int v26), (2, .int v25), (0, .ref h0), (1, .int p1)] := hl
          refine lv_aload_n hx hb dX12_readCell_130 rfl (lv_at hl 5 rfl) ?_
          refine q_getI E hC333 g0 fa_RX12_218 dX12_readCell_131 (fun v334 ev334 lv334 uv334 => ?_)
          have m335 : (sI H333 h0 (X.1.2 11 12)).toInt = v334.toInt := (congrArg Int32.toInt ev334).trans rfl
          refine q_if_le hx hb (a := v334.toInt) rfl (tgt := 138) dX12_readCell_134 rfl (fun c336 => ?_) (fun c336 => ?_)
          · obtain ⟨hQ, mc, ym⟩ := HD.live hd (by omega)
            have mc := mc
            have ym := ym
            refine lv_aload_n hx hb dX12_readCell_138 rfl (lv_at hl 5 rfl) ?_
            refine q_getR E hC333 g0 fa_RX12_41 dX12_readCell_139 (fun q337 eq337 gq337 => ?_)
            have hte2 := eq337; have htg2 := gq337
            refine lv_bipush (v := 36) hx hb dX12_readCell_142 rfl ?_
            refine lv_iload_n hx hb dX12_readCell_144 rfl (lv_at hl 6 rfl) ?_
            refine lv_imul hx hb dX12_readCell_145 (lv_topi (fun v338 ev338 => ?_))
            have ev338i : v338.toInt = (36 * a1) := i_mul ev338 (by decide) e1 (by omega) (by omega)
            refine lv_iload hx hb dX12_readCell_146 (lv_at hl 1 rfl) ?_
            refine lv_iadd hx hb dX12_readCell_148 (lv_topi (fun v339 ev339 => ?_))
            have ev339i : v339.toInt = ((36 * a1) + ((6 * v30.toInt) + v25.toInt)) := i_add ev339 ev338i ev32i (by omega) (by omega)
            refine lv_iconst (v := 1) hx hb dX12_readCell_149 rfl ?_
            refine q_iast E hC333 hS333 gq337 (by decide) rfl rfl (i_in (a := ((36 * a1) + ((6 * v30.toInt) + v25.toInt))) ev339i (by omega) (by omega)) tv_F dX12_readCell_150 (fun H340 locs340 hC340 hS340 U340 => ?_)
            have hKp340 := Kp.upA gq337 rfl (by decide) rfl U340 hKp333
            have mc := mc.ne U340 g0 gtq gq337 (by decide)
            have m341 : (sI H340 h0 (X.1.2 11 12)).toInt = (sI H333 h0 (X.1.2 11 12)).toInt := congrArg Int32.toInt (up_nI U340 (ne_k g0 gq337 (by decide)))
            have m342 : (sI H340 h0 (X.1.2 11 14)).toInt = (sI H333 h0 (X.1.2 11 14)).toInt := congrArg Int32.toInt (up_nI U340 (ne_k g0 gq337 (by decide)))
            have m343 := congrArg tk m342
            have m344 : (sI H340 h0 (X.1.2 11 16)).toInt = (sI H333 h0 (X.1.2 11 16)).toInt := congrArg Int32.toInt (up_nI U340 (ne_k g0 gq337 (by decide)))
            have m345 : (sI H340 h0 (X.1.2 11 18)).toInt = (sI H333 h0 (X.1.2 11 18)).toInt := congrArg Int32.toInt (up_nI U340 (ne_k g0 gq337 (by decide)))
            have m346 : (sI H340 h0 (X.1.2 11 17)).toInt = (sI H333 h0 (X.1.2 11 17)).toInt := congrArg Int32.toInt (up_nI U340 (ne_k g0 gq337 (by decide)))
            have ym := ym.told U340 g0 gca hte2 htg2 (w := a1) (z := (6 * vl (i + 2) + vl (i + 1))) (by rw [i_ix ev339i]; omega) (by omega) (by decide)
            refine lv_aload_n hx hb dX12_readCell_151 rfl (lv_at hl 5 rfl) ?_
            refine q_getC E hC340 g0 fa_RX12_35 uc dX12_readCell_152 ?_
            refine lv_sipush (v := 2080) hx hb dX12_readCell_155 rfl ?_
            refine lv_iload_n hx hb dX12_readCell_158 rfl (lv_at hl 6 rfl) ?_
            refine q_if_ne hx hb (a := a1) e1 (tgt := 167) dX12_readCell_159 rfl (fun c347 => ?_) (fun c347 => absurd c347 (by omega))
            refine lv_iload_n hx hb dX12_readCell_167 rfl (lv_at hl 6 rfl) ?_
            refine lv_iconst (v := 1) hx hb dX12_readCell_168 rfl ?_
            refine q_icmp_ne hx hb (a := a1) (b := 1) e1 (by decide) (tgt := 177) dX12_readCell_169 rfl (fun c348 => ?_) (fun c348 => absurd c348 (by omega))
            refine lv_bipush (v := 98) hx hb dX12_readCell_177 rfl ?_
            refine lv_iadd hx hb dX12_readCell_179 (lv_topi (fun v349 ev349 => ?_))
            have ev349i : v349.toInt = (2080 + 98) := i_add ev349 (by decide) (by decide) (by omega) (by omega)
            refine lv_iload hx hb dX12_readCell_180 (lv_at hl 1 rfl) ?_
            refine lv_iadd hx hb dX12_readCell_182 (lv_topi (fun v350 ev350 => ?_))
            have ev350i : v350.toInt = ((2080 + 98) + ((6 * v30.toInt) + v25.toInt)) := i_add ev350 ev349i ev32i (by omega) (by omega)
            refine lv_iload hx hb dX12_readCell_183 (lv_at hl 0 rfl) ?_
            refine q_cast E hC340 hS340 gca (a := ((2080 + 98) + ((6 * v30.toInt) + v25.toInt))) ev350i (by omega) (by omega) (cs_n98 (a := ((2080 + 98) + ((6 * v30.toInt) + v25.toInt))) (b := v333.toInt) (by omega) (by omega) rfl (by omega) (by omega)) dX12_readCell_185 (fun H351 locs351 hC351 hS351 U351 => ?_)
            have hKp351 := Kp.upD gca rfl rfl (fun _ => ⟨fun _ => nd4 (by omega) (by omega), fun _ => by unfold dpu; omega, fun _ => by unfold dpn; omega⟩) U351 hKp340
            have mc := mc.ne U351 g0 gtq gca (by decide)
            have ym := ym.up U351 g0 gca (by omega)
            have m352 : (sI H351 h0 (X.1.2 11 12)).toInt = (sI H340 h0 (X.1.2 11 12)).toInt := congrArg Int32.toInt (up_nI U351 (ne_k g0 gca (by decide)))
            have m353 : (sI H351 h0 (X.1.2 11 14)).toInt = (sI H340 h0 (X.1.2 11 14)).toInt := congrArg Int32.toInt (up_nI U351 (ne_k g0 gca (by decide)))
            have m354 := congrArg tk m353
            have m355 : (sI H351 h0 (X.1.2 11 16)).toInt = (sI H340 h0 (X.1.2 11 16)).toInt := congrArg Int32.toInt (up_nI U351 (ne_k g0 gca (by decide)))
            have m356 : (sI H351 h0 (X.1.2 11 18)).toInt = (sI H340 h0 (X.1.2 11 18)).toInt := congrArg Int32.toInt (up_nI U351 (ne_k g0 gca (by decide)))
            have m357 : (sI H351 h0 (X.1.2 11 17)).toInt = (sI H340 h0 (X.1.2 11 17)).toInt := congrArg Int32.toInt (up_nI U351 (ne_k g0 gca (by decide)))
            have e358 := up_I U351
            have hz8 := tk_nn (sI H351 h0 (X.1.2 11 14)).toInt
            have hpost : ((sI H351 h0 (X.1.2 11 12)).toInt = 0 ∧ ∃ (S1 : YSt) (i1 : Nat), gHeap kd vl (bfO a1) a1 (lmO a1) S i S1 i1 ∧ MC X H351 h0 tq kd vl w3 pos N i1 ∧ YSM X Γ H351 h0 ca kd vl w3 N S1) ∨ ((sI H351 h0 (X.1.2 11 12)).toInt ≠ 0 ∧ ∀ (S1 : YSt) (i1 : Nat), ¬ gHeap kd vl (bfO a1) a1 (lmO a1) S i S1 i1) := by first | (exfalso; omega) | exact Or.inr ⟨by omega, hno⟩ | exact Or.inl ⟨by omega, _, _, ⟨⟨hP.1.2.1, hP.1.2.2.1, by have := hP.1.2.2.2; omega⟩, ⟨hP.2.1, hP.2.2.1, (show vl (i + 1 + 1) ≤ _ by have := hP.2.2.2; omega)⟩, by omega, by (first | rw [(bfO_0 (a := a1) (by omega)).1] | rw [(bfO_1 (a := a1) (by omega)).1] | rw [(bfO_2 (a := a1) (by omega)).1]); exact hQ.1.2, by (first | rw [(bfO_0 (a := a1) (by omega)).2] | rw [(bfO_1 (a := a1) (by omega)).2] | rw [(bfO_2 (a := a1) (by omega)).2]); exact hQ.2, rfl, rfl⟩, mc, ym⟩ | exact Or.inr ⟨by omega, fun S1 i1 q => by obtain ⟨q1, q2, q3, q4, q5, -, -⟩ := q; (first | (have e1 := bfO_0 (a := a1) (by omega); rw [e1.1] at q4; rw [e1.2] at q5) | (have e1 := bfO_1 (a := a1) (by omega); rw [e1.1] at q4; rw [e1.2] at q5) | (have e1 := bfO_2 (a := a1) (by omega); rw [e1.1] at q4; rw [e1.2] at q5)); first | exact HD.no hd (by omega) ⟨⟨trivial, q4⟩, q5⟩ | exact HD.no hd (by omega) ⟨⟨⟨⟨trivial, q1.1, q1.2.1, by have := q1.2.2; omega⟩, q2.1, q2.2.1, (show vl (i + 2) ≤ _ by have := q2.2.2; omega)⟩, q4⟩, q5⟩⟩
            exact ret H351 locs351 _ _ dX12_readCell_186 ⟨hKp351, ⟨by omega, by omega, by omega, by omega, hpost⟩⟩ hC351 hS351
          · have hz8 := tk_nn (sI H333 h0 (X.1.2 11 14)).toInt
            have hpost : ((sI H333 h0 (X.1.2 11 12)).toInt = 0 ∧ ∃ (S1 : YSt) (i1 : Nat), gHeap kd vl (bfO a1) a1 (lmO a1) S i S1 i1 ∧ MC X H333 h0 tq kd vl w3 pos N i1 ∧ YSM X Γ H333 h0 ca kd vl w3 N S1) ∨ ((sI H333 h0 (X.1.2 11 12)).toInt ≠ 0 ∧ ∀ (S1 : YSt) (i1 : Nat), ¬ gHeap kd vl (bfO a1) a1 (lmO a1) S i S1 i1) := by first | (exfalso; omega) | exact Or.inr ⟨by omega, hno⟩ | exact Or.inl ⟨by omega, _, _, ⟨⟨hP.1.2.1, hP.1.2.2.1, by have := hP.1.2.2.2; omega⟩, ⟨hP.2.1, hP.2.2.1, (show vl (i + 1 + 1) ≤ _ by have := hP.2.2.2; omega)⟩, by omega, by (first | rw [(bfO_0 (a := a1) (by omega)).1] | rw [(bfO_1 (a := a1) (by omega)).1] | rw [(bfO_2 (a := a1) (by omega)).1]); exact hQ.1.2, by (first | rw [(bfO_0 (a := a1) (by omega)).2] | rw [(bfO_1 (a := a1) (by omega)).2] | rw [(bfO_2 (a := a1) (by omega)).2]); exact hQ.2, rfl, rfl⟩, mc, ym⟩ | exact Or.inr ⟨by omega, fun S1 i1 q => by obtain ⟨q1, q2, q3, q4, q5, -, -⟩ := q; (first | (have e1 := bfO_0 (a := a1) (by omega); rw [e1.1] at q4; rw [e1.2] at q5) | (have e1 := bfO_1 (a := a1) (by omega); rw [e1.1] at q4; rw [e1.2] at q5) | (have e1 := bfO_2 (a := a1) (by omega); rw [e1.1] at q4; rw [e1.2] at q5)); first | exact HD.no hd (by omega) ⟨⟨trivial, q4⟩, q5⟩ | exact HD.no hd (by omega) ⟨⟨⟨⟨trivial, q1.1, q1.2.1, by have := q1.2.2; omega⟩, q2.1, q2.2.1, (show vl (i + 2) ≤ _ by have := q2.2.2; omega)⟩, q4⟩, q5⟩⟩
            exact ret H333 locs333 _ _ dX12_readCell_137 ⟨hKp333, ⟨by omega, by omega, by omega, by omega, hpost⟩⟩ hC333 hS333
        · refine lv_aload_n hx hb dX12_readCell_97 rfl (lv_at hl 4 rfl) ?_
          refine q_goIp (q_runV (As := []) (rest := [.ref h0]) E hC327 hS327 (m_X12_isTall l X Γ H327 hC327 h0 g0 ca gca uc) cw_X12_isTall cl_RX12_184 g0 ⟨rfl, rfl⟩ rfl hl.1 rfl (show _ ≤ _ from by simp [Value.category]) (by decide) dX12_readCell_98) hS327 (fun v359 locs359 hr359 hS359 => ?_)
          rcases hr359 with ⟨rfl, hw⟩ | ⟨rfl, hw⟩
          · have hw7 := hw
            refine lv_goto (tgt := 108) hx hb dX12_readCell_101 rfl ?_
            refine q_goV (q_runV (As := [.int 1]) (rest := []) E hC327 hS359 (m_X12_must l X Γ H327 hC327 h0 g0 1 (a1 := 1) (by decide) ca gca uc tq ((kp_R hKp327 g0 (ci := 11) (k := 7) rfl (by decide) rfl).trans htq) gtq (by omega) (by omega)) cw_X12_must cl_RX12_244 g0 ⟨rfl, rfl⟩ rfl hl.1 rfl (Nat.zero_le _) (by decide) dX12_readCell_108) hS359 (fun H360 locs360 hr360 hC360 hS360 => ?_)
            obtain ⟨hp360, hr360⟩ := hr360
            have hKp360 := hKp327.tr (hp360.mono rfl)
            obtain ⟨f360_0, f360_1, f360_2, f360_3, f360_4, f360_5⟩ := hr360
            have hd := HD.must hd hp360 g0 gca (by first | exact hbz | exact Or.inl ⟨rfl, hw⟩ | exact Or.inr ⟨rfl, hw⟩) f360_5 f360_2 (by omega) rfl rfl (by decide)
            refine lv_aload_n hx hb dX12_readCell_111 rfl (lv_at hl 4 rfl) ?_
            refine lv_iconst (v := 0) hx hb dX12_readCell_112 rfl ?_
            refine lv_iload_n hx hb dX12_readCell_113 rfl (lv_at hl 5 rfl) ?_
            refine lv_iconst (v := 2) hx hb dX12_readCell_114 rfl ?_
            refine q_icmp_ne hx hb (a := a1) (b := 2) e1 (by decide) (tgt := 123) dX12_readCell_115 rfl (fun c361 => ?_) (fun c361 => absurd c361 (by omega))
            refine lv_bipush (v := 99) hx hb dX12_readCell_123 rfl ?_
            refine q_goI (q_runV (As := [.int 0, .int 99]) (rest := []) E hC360 hS360 (m_X12_count l X Γ H360 hC360 h0 g0 0 (a1 := 0) (by decide) 99 (a2 := 99) (by decide) ca gca uc tq ((kp_R hKp360 g0 (ci := 11) (k := 7) rfl (by decide) rfl).trans htq) gtq (by omega) (by omega) (by omega) (by omega)) cw_X12_count cl_RX12_248 g0 ⟨rfl, rfl⟩ rfl hl.1 rfl (Nat.zero_le _) (by decide) dX12_readCell_125) hS360 (fun v362 H362 locs362 hr362 hC362 hS362 => ?_)
            obtain ⟨hp362, hr362⟩ := hr362
            have hKp362 := hKp360.tr (hp362.mono rfl)
            obtain ⟨f362_0, f362_1, f362_2, f362_3, f362_4, f362_5, f362_6, f362_7, f362_8⟩ := hr362
            have hdc := HD.count hd hp362 g0 gca f362_8 f362_2 (by omega) rfl rfl
            have hd := hdc.1
            refine lv_istore hx hb dX12_readCell_128 hl (by decide) rfl (fun ls hl => ?_)
            have hl : lv_has ls 7 [(6, .int v362), (5, .int v32), (4, .int v30), (3, .int v26), (2, .int v25), (0, .ref h0), (1, .int p1)] := hl
            refine lv_aload_n hx hb dX12_readCell_130 rfl (lv_at hl 5 rfl) ?_
            refine q_getI E hC362 g0 fa_RX12_218 dX12_readCell_131 (fun v363 ev363 lv363 uv363 => ?_)
            have m364 : (sI H362 h0 (X.1.2 11 12)).toInt = v363.toInt := (congrArg Int32.toInt ev363).trans rfl
            refine q_if_le hx hb (a := v363.toInt) rfl (tgt := 138) dX12_readCell_134 rfl (fun c365 => ?_) (fun c365 => ?_)
            · obtain ⟨hQ, mc, ym⟩ := HD.live hd (by omega)
              have mc := mc
              have ym := ym
              refine lv_aload_n hx hb dX12_readCell_138 rfl (lv_at hl 5 rfl) ?_
              refine q_getR E hC362 g0 fa_RX12_41 dX12_readCell_139 (fun q366 eq366 gq366 => ?_)
              have hte2 := eq366; have htg2 := gq366
              refine lv_bipush (v := 36) hx hb dX12_readCell_142 rfl ?_
              refine lv_iload_n hx hb dX12_readCell_144 rfl (lv_at hl 6 rfl) ?_
              refine lv_imul hx hb dX12_readCell_145 (lv_topi (fun v367 ev367 => ?_))
              have ev367i : v367.toInt = (36 * a1) := i_mul ev367 (by decide) e1 (by omega) (by omega)
              refine lv_iload hx hb dX12_readCell_146 (lv_at hl 1 rfl) ?_
              refine lv_iadd hx hb dX12_readCell_148 (lv_topi (fun v368 ev368 => ?_))
              have ev368i : v368.toInt = ((36 * a1) + ((6 * v30.toInt) + v25.toInt)) := i_add ev368 ev367i ev32i (by omega) (by omega)
              refine lv_iconst (v := 1) hx hb dX12_readCell_149 rfl ?_
              refine q_iast E hC362 hS362 gq366 (by decide) rfl rfl (i_in (a := ((36 * a1) + ((6 * v30.toInt) + v25.toInt))) ev368i (by omega) (by omega)) tv_F dX12_readCell_150 (fun H369 locs369 hC369 hS369 U369 => ?_)
              have hKp369 := Kp.upA gq366 rfl (by decide) rfl U369 hKp362
              have mc := mc.ne U369 g0 gtq gq366 (by decide)
              have m370 : (sI H369 h0 (X.1.2 11 12)).toInt = (sI H362 h0 (X.1.2 11 12)).toInt := congrArg Int32.toInt (up_nI U369 (ne_k g0 gq366 (by decide)))
              have m371 : (sI H369 h0 (X.1.2 11 14)).toInt = (sI H362 h0 (X.1.2 11 14)).toInt := congrArg Int32.toInt (up_nI U369 (ne_k g0 gq366 (by decide)))
              have m372 := congrArg tk m371
              have m373 : (sI H369 h0 (X.1.2 11 16)).toInt = (sI H362 h0 (X.1.2 11 16)).toInt := congrArg Int32.toInt (up_nI U369 (ne_k g0 gq366 (by decide)))
              have m374 : (sI H369 h0 (X.1.2 11 18)).toInt = (sI H362 h0 (X.1.2 11 18)).toInt := congrArg Int32.toInt (up_nI U369 (ne_k g0 gq366 (by decide)))
              have m375 : (sI H369 h0 (X.1.2 11 17)).toInt = (sI H362 h0 (X.1.2 11 17)).toInt := congrArg Int32.toInt (up_nI U369 (ne_k g0 gq366 (by decide)))
              have ym := ym.told U369 g0 gca hte2 htg2 (w := a1) (z := (6 * vl (i + 2) + vl (i + 1))) (by rw [i_ix ev368i]; omega) (by omega) (by decide)
              refine lv_aload_n hx hb dX12_readCell_151 rfl (lv_at hl 5 rfl) ?_
              refine q_getC E hC369 g0 fa_RX12_35 uc dX12_readCell_152 ?_
              refine lv_sipush (v := 2080) hx hb dX12_readCell_155 rfl ?_
              refine lv_iload_n hx hb dX12_readCell_158 rfl (lv_at hl 6 rfl) ?_
              refine q_if_ne hx hb (a := a1) e1 (tgt := 167) dX12_readCell_159 rfl (fun c376 => ?_) (fun c376 => absurd c376 (by omega))
              refine lv_iload_n hx hb dX12_readCell_167 rfl (lv_at hl 6 rfl) ?_
              refine lv_iconst (v := 1) hx hb dX12_readCell_168 rfl ?_
              refine q_icmp_ne hx hb (a := a1) (b := 1) e1 (by decide) (tgt := 177) dX12_readCell_169 rfl (fun c377 => absurd c377 (by omega)) (fun c377 => ?_)
              refine lv_bipush (v := 62) hx hb dX12_readCell_172 rfl ?_
              refine lv_goto (tgt := 179) hx hb dX12_readCell_174 rfl ?_
              refine lv_iadd hx hb dX12_readCell_179 (lv_topi (fun v378 ev378 => ?_))
              have ev378i : v378.toInt = (2080 + 62) := i_add ev378 (by decide) (by decide) (by omega) (by omega)
              refine lv_iload hx hb dX12_readCell_180 (lv_at hl 1 rfl) ?_
              refine lv_iadd hx hb dX12_readCell_182 (lv_topi (fun v379 ev379 => ?_))
              have ev379i : v379.toInt = ((2080 + 62) + ((6 * v30.toInt) + v25.toInt)) := i_add ev379 ev378i ev32i (by omega) (by omega)
              refine lv_iload hx hb dX12_readCell_183 (lv_at hl 0 rfl) ?_
              refine q_cast E hC369 hS369 gca (a := ((2080 + 62) + ((6 * v30.toInt) + v25.toInt))) ev379i (by omega) (by omega) (cs_n26 (a := ((2080 + 62) + ((6 * v30.toInt) + v25.toInt))) (b := v362.toInt) (by omega) (by omega) rfl (by omega) (by omega)) dX12_readCell_185 (fun H380 locs380 hC380 hS380 U380 => ?_)
              have hKp380 := Kp.upD gca rfl rfl (fun _ => ⟨fun _ => nd4 (by omega) (by omega), fun _ => by unfold dpu; omega, fun _ => by unfold dpn; omega⟩) U380 hKp369
              have mc := mc.ne U380 g0 gtq gca (by decide)
              have ym := ym.up U380 g0 gca (by omega)
              have m381 : (sI H380 h0 (X.1.2 11 12)).toInt = (sI H369 h0 (X.1.2 11 12)).toInt := congrArg Int32.toInt (up_nI U380 (ne_k g0 gca (by decide)))
              have m382 : (sI H380 h0 (X.1.2 11 14)).toInt = (sI H369 h0 (X.1.2 11 14)).toInt := congrArg Int32.toInt (up_nI U380 (ne_k g0 gca (by decide)))
              have m383 := congrArg tk m382
              have m384 : (sI H380 h0 (X.1.2 11 16)).toInt = (sI H369 h0 (X.1.2 11 16)).toInt := congrArg Int32.toInt (up_nI U380 (ne_k g0 gca (by decide)))
              have m385 : (sI H380 h0 (X.1.2 11 18)).toInt = (sI H369 h0 (X.1.2 11 18)).toInt := congrArg Int32.toInt (up_nI U380 (ne_k g0 gca (by decide)))
              have m386 : (sI H380 h0 (X.1.2 11 17)).toInt = (sI H369 h0 (X.1.2 11 17)).toInt := congrArg Int32.toInt (up_nI U380 (ne_k g0 gca (by decide)))
              have e387 := up_I U380
              have hz8 := tk_nn (sI H380 h0 (X.1.2 11 14)).toInt
              have hpost : ((sI H380 h0 (X.1.2 11 12)).toInt = 0 ∧ ∃ (S1 : YSt) (i1 : Nat), gHeap kd vl (bfO a1) a1 (lmO a1) S i S1 i1 ∧ MC X H380 h0 tq kd vl w3 pos N i1 ∧ YSM X Γ H380 h0 ca kd vl w3 N S1) ∨ ((sI H380 h0 (X.1.2 11 12)).toInt ≠ 0 ∧ ∀ (S1 : YSt) (i1 : Nat), ¬ gHeap kd vl (bfO a1) a1 (lmO a1) S i S1 i1) := by first | (exfalso; omega) | exact Or.inr ⟨by omega, hno⟩ | exact Or.inl ⟨by omega, _, _, ⟨⟨hP.1.2.1, hP.1.2.2.1, by have := hP.1.2.2.2; omega⟩, ⟨hP.2.1, hP.2.2.1, (show vl (i + 1 + 1) ≤ _ by have := hP.2.2.2; omega)⟩, by omega, by (first | rw [(bfO_0 (a := a1) (by omega)).1] | rw [(bfO_1 (a := a1) (by omega)).1] | rw [(bfO_2 (a := a1) (by omega)).1]); exact hQ.1.2, by (first | rw [(bfO_0 (a := a1) (by omega)).2] | rw [(bfO_1 (a := a1) (by omega)).2] | rw [(bfO_2 (a := a1) (by omega)).2]); exact hQ.2, rfl, rfl⟩, mc, ym⟩ | exact Or.inr ⟨by omega, fun S1 i1 q => by obtain ⟨q1, q2, q3, q4, q5, -, -⟩ := q; (first | (have e1 := bfO_0 (a := a1) (by omega); rw [e1.1] at q4; rw [e1.2] at q5) | (have e1 := bfO_1 (a := a1) (by omega); rw [e1.1] at q4; rw [e1.2] at q5) | (have e1 := bfO_2 (a := a1) (by omega); rw [e1.1] at q4; rw [e1.2] at q5)); first | exact HD.no hd (by omega) ⟨⟨trivial, q4⟩, q5⟩ | exact HD.no hd (by omega) ⟨⟨⟨⟨trivial, q1.1, q1.2.1, by have := q1.2.2; omega⟩, q2.1, q2.2.1, (show vl (i + 2) ≤ _ by have := q2.2.2; omega)⟩, q4⟩, q5⟩⟩
              exact ret H380 locs380 _ _ dX12_readCell_186 ⟨hKp380, ⟨by omega, by omega, by omega, by omega, hpost⟩⟩ hC380 hS380
            · have hz8 := tk_nn (sI H362 h0 (X.1.2 11 14)).toInt
              have hpost : ((sI H362 h0 (X.1.2 11 12)).toInt = 0 ∧ ∃ (S1 : YSt) (i1 : Nat), gHeap kd vl (bfO a1) a1 (lmO a1) S i S1 i1 ∧ MC X H362 h0 tq kd vl w3 pos N i1 ∧ YSM X Γ H362 h0 ca kd vl w3 N S1) ∨ ((sI H362 h0 (X.1.2 11 12)).toInt ≠ 0 ∧ ∀ (S1 : YSt) (i1 : Nat), ¬ gHeap kd vl (bfO a1) a1 (lmO a1) S i S1 i1) := by first | (exfalso; omega) | exact Or.inr ⟨by omega, hno⟩ | exact Or.inl ⟨by omega, _, _, ⟨⟨hP.1.2.1, hP.1.2.2.1, by have := hP.1.2.2.2; omega⟩, ⟨hP.2.1, hP.2.2.1, (show vl (i + 1 + 1) ≤ _ by have := hP.2.2.2; omega)⟩, by omega, by (first | rw [(bfO_0 (a := a1) (by omega)).1] | rw [(bfO_1 (a := a1) (by omega)).1] | rw [(bfO_2 (a := a1) (by omega)).1]); exact hQ.1.2, by (first | rw [(bfO_0 (a := a1) (by omega)).2] | rw [(bfO_1 (a := a1) (by omega)).2] | rw [(bfO_2 (a := a1) (by omega)).2]); exact hQ.2, rfl, rfl⟩, mc, ym⟩ | exact Or.inr ⟨by omega, fun S1 i1 q => by obtain ⟨q1, q2, q3, q4, q5, -, -⟩ := q; (first | (have e1 := bfO_0 (a := a1) (by omega); rw [e1.1] at q4; rw [e1.2] at q5) | (have e1 := bfO_1 (a := a1) (by omega); rw [e1.1] at q4; rw [e1.2] at q5) | (have e1 := bfO_2 (a := a1) (by omega); rw [e1.1] at q4; rw [e1.2] at q5)); first | exact HD.no hd (by omega) ⟨⟨trivial, q4⟩, q5⟩ | exact HD.no hd (by omega) ⟨⟨⟨⟨trivial, q1.1, q1.2.1, by have := q1.2.2; omega⟩, q2.1, q2.2.1, (show vl (i + 2) ≤ _ by have := q2.2.2; omega)⟩, q4⟩, q5⟩⟩
              exact ret H362 locs362 _ _ dX12_readCell_137 ⟨hKp362, ⟨by omega, by omega, by omega, by omega, hpost⟩⟩ hC362 hS362
          · have hw7 := hw
            refine lv_goto (tgt := 108) hx hb dX12_readCell_101 rfl ?_
            refine q_goV (q_runV (As := [.int 0]) (rest := []) E hC327 hS359 (m_X12_must l X Γ H327 hC327 h0 g0 0 (a1 := 0) (by decide) ca gca uc tq ((kp_R hKp327 g0 (ci := 11) (k := 7) rfl (by decide) rfl).trans htq) gtq (by omega) (by omega)) cw_X12_must cl_RX12_244 g0 ⟨rfl, rfl⟩ rfl hl.1 rfl (Nat.zero_le _) (by decide) dX12_readCell_108) hS359 (fun H388 locs388 hr388 hC388 hS388 => ?_)
            obtain ⟨hp388, hr388⟩ := hr388
            have hKp388 := hKp327.tr (hp388.mono rfl)
            obtain ⟨f388_0, f388_1, f388_2, f388_3, f388_4, f388_5⟩ := hr388
            have hd := HD.must hd hp388 g0 gca (by first | exact hbz | exact Or.inl ⟨rfl, hw⟩ | exact Or.inr ⟨rfl, hw⟩) f388_5 f388_2 (by omega) rfl rfl (by decide)
            refine lv_aload_n hx hb dX12_readCell_111 rfl (lv_at hl 4 rfl) ?_
            refine lv_iconst (v := 0) hx hb dX12_readCell_112 rfl ?_
            refine lv_iload_n hx hb dX12_readCell_113 rfl (lv_at hl 5 rfl) ?_
            refine lv_iconst (v := 2) hx hb dX12_readCell_114 rfl ?_
            refine q_icmp_ne hx hb (a := a1) (b := 2) e1 (by decide) (tgt := 123) dX12_readCell_115 rfl (fun c389 => ?_) (fun c389 => absurd c389 (by omega))
            refine lv_bipush (v := 99) hx hb dX12_readCell_123 rfl ?_
            refine q_goI (q_runV (As := [.int 0, .int 99]) (rest := []) E hC388 hS388 (m_X12_count l X Γ H388 hC388 h0 g0 0 (a1 := 0) (by decide) 99 (a2 := 99) (by decide) ca gca uc tq ((kp_R hKp388 g0 (ci := 11) (k := 7) rfl (by decide) rfl).trans htq) gtq (by omega) (by omega) (by omega) (by omega)) cw_X12_count cl_RX12_248 g0 ⟨rfl, rfl⟩ rfl hl.1 rfl (Nat.zero_le _) (by decide) dX12_readCell_125) hS388 (fun v390 H390 locs390 hr390 hC390 hS390 => ?_)
            obtain ⟨hp390, hr390⟩ := hr390
            have hKp390 := hKp388.tr (hp390.mono rfl)
            obtain ⟨f390_0, f390_1, f390_2, f390_3, f390_4, f390_5, f390_6, f390_7, f390_8⟩ := hr390
            have hdc := HD.count hd hp390 g0 gca f390_8 f390_2 (by omega) rfl rfl
            have hd := hdc.1
            refine lv_istore hx hb dX12_readCell_128 hl (by decide) rfl (fun ls hl => ?_)
            have hl : lv_has ls 7 [(6, .int v390), (5, .int v32), (4, .int v30), (3, .int v26), (2, .int v25), (0, .ref h0), (1, .int p1)] := hl
            refine lv_aload_n hx hb dX12_readCell_130 rfl (lv_at hl 5 rfl) ?_
            refine q_getI E hC390 g0 fa_RX12_218 dX12_readCell_131 (fun v391 ev391 lv391 uv391 => ?_)
            have m392 : (sI H390 h0 (X.1.2 11 12)).toInt = v391.toInt := (congrArg Int32.toInt ev391).trans rfl
            refine q_if_le hx hb (a := v391.toInt) rfl (tgt := 138) dX12_readCell_134 rfl (fun c393 => ?_) (fun c393 => ?_)
            · obtain ⟨hQ, mc, ym⟩ := HD.live hd (by omega)
              have mc := mc
              have ym := ym
              refine lv_aload_n hx hb dX12_readCell_138 rfl (lv_at hl 5 rfl) ?_
              refine q_getR E hC390 g0 fa_RX12_41 dX12_readCell_139 (fun q394 eq394 gq394 => ?_)
              have hte2 := eq394; have htg2 := gq394
              refine lv_bipush (v := 36) hx hb dX12_readCell_142 rfl ?_
              refine lv_iload_n hx hb dX12_readCell_144 rfl (lv_at hl 6 rfl) ?_
              refine lv_imul hx hb dX12_readCell_145 (lv_topi (fun v395 ev395 => ?_))
              have ev395i : v395.toInt = (36 * a1) := i_mul ev395 (by decide) e1 (by omega) (by omega)
              refine lv_iload hx hb dX12_readCell_146 (lv_at hl 1 rfl) ?_
              refine lv_iadd hx hb dX12_readCell_148 (lv_topi (fun v396 ev396 => ?_))
              have ev396i : v396.toInt = ((36 * a1) + ((6 * v30.toInt) + v25.toInt)) := i_add ev396 ev395i ev32i (by omega) (by omega)
              refine lv_iconst (v := 1) hx hb dX12_readCell_149 rfl ?_
              refine q_iast E hC390 hS390 gq394 (by decide) rfl rfl (i_in (a := ((36 * a1) + ((6 * v30.toInt) + v25.toInt))) ev396i (by omega) (by omega)) tv_F dX12_readCell_150 (fun H397 locs397 hC397 hS397 U397 => ?_)
              have hKp397 := Kp.upA gq394 rfl (by decide) rfl U397 hKp390
              have mc := mc.ne U397 g0 gtq gq394 (by decide)
              have m398 : (sI H397 h0 (X.1.2 11 12)).toInt = (sI H390 h0 (X.1.2 11 12)).toInt := congrArg Int32.toInt (up_nI U397 (ne_k g0 gq394 (by decide)))
              have m399 : (sI H397 h0 (X.1.2 11 14)).toInt = (sI H390 h0 (X.1.2 11 14)).toInt := congrArg Int32.toInt (up_nI U397 (ne_k g0 gq394 (by decide)))
              have m400 := congrArg tk m399
              have m401 : (sI H397 h0 (X.1.2 11 16)).toInt = (sI H390 h0 (X.1.2 11 16)).toInt := congrArg Int32.toInt (up_nI U397 (ne_k g0 gq394 (by decide)))
              have m402 : (sI H397 h0 (X.1.2 11 18)).toInt = (sI H390 h0 (X.1.2 11 18)).toInt := congrArg Int32.toInt (up_nI U397 (ne_k g0 gq394 (by decide)))
              have m403 : (sI H397 h0 (X.1.2 11 17)).toInt = (sI H390 h0 (X.1.2 11 17)).toInt := congrArg Int32.toInt (up_nI U397 (ne_k g0 gq394 (by decide)))
              have ym := ym.told U397 g0 gca hte2 htg2 (w := a1) (z := (6 * vl (i + 2) + vl (i + 1))) (by rw [i_ix ev396i]; omega) (by omega) (by decide)
              refine lv_aload_n hx hb dX12_readCell_151 rfl (lv_at hl 5 rfl) ?_
              refine q_getC E hC397 g0 fa_RX12_35 uc dX12_readCell_152 ?_
              refine lv_sipush (v := 2080) hx hb dX12_readCell_155 rfl ?_
              refine lv_iload_n hx hb dX12_readCell_158 rfl (lv_at hl 6 rfl) ?_
              refine q_if_ne hx hb (a := a1) e1 (tgt := 167) dX12_readCell_159 rfl (fun c404 => ?_) (fun c404 => absurd c404 (by omega))
              refine lv_iload_n hx hb dX12_readCell_167 rfl (lv_at hl 6 rfl) ?_
              refine lv_iconst (v := 1) hx hb dX12_readCell_168 rfl ?_
              refine q_icmp_ne hx hb (a := a1) (b := 1) e1 (by decide) (tgt := 177) dX12_readCell_169 rfl (fun c405 => absurd c405 (by omega)) (fun c405 => ?_)
              refine lv_bipush (v := 62) hx hb dX12_readCell_172 rfl ?_
              refine lv_goto (tgt := 179) hx hb dX12_readCell_174 rfl ?_
              refine lv_iadd hx hb dX12_readCell_179 (lv_topi (fun v406 ev406 => ?_))
              have ev406i : v406.toInt = (2080 + 62) := i_add ev406 (by decide) (by decide) (by omega) (by omega)
              refine lv_iload hx hb dX12_readCell_180 (lv_at hl 1 rfl) ?_
              refine lv_iadd hx hb dX12_readCell_182 (lv_topi (fun v407 ev407 => ?_))
              have ev407i : v407.toInt = ((2080 + 62) + ((6 * v30.toInt) + v25.toInt)) := i_add ev407 ev406i ev32i (by omega) (by omega)
              refine lv_iload hx hb dX12_readCell_183 (lv_at hl 0 rfl) ?_
              refine q_cast E hC397 hS397 gca (a := ((2080 + 62) + ((6 * v30.toInt) + v25.toInt))) ev407i (by omega) (by omega) (cs_n26 (a := ((2080 + 62) + ((6 * v30.toInt) + v25.toInt))) (b := v390.toInt) (by omega) (by omega) rfl (by omega) (by omega)) dX12_readCell_185 (fun H408 locs408 hC408 hS408 U408 => ?_)
              have hKp408 := Kp.upD gca rfl rfl (fun _ => ⟨fun _ => nd4 (by omega) (by omega), fun _ => by unfold dpu; omega, fun _ => by unfold dpn; omega⟩) U408 hKp397
              have mc := mc.ne U408 g0 gtq gca (by decide)
              have ym := ym.up U408 g0 gca (by omega)
              have m409 : (sI H408 h0 (X.1.2 11 12)).toInt = (sI H397 h0 (X.1.2 11 12)).toInt := congrArg Int32.toInt (up_nI U408 (ne_k g0 gca (by decide)))
              have m410 : (sI H408 h0 (X.1.2 11 14)).toInt = (sI H397 h0 (X.1.2 11 14)).toInt := congrArg Int32.toInt (up_nI U408 (ne_k g0 gca (by decide)))
              have m411 := congrArg tk m410
              have m412 : (sI H408 h0 (X.1.2 11 16)).toInt = (sI H397 h0 (X.1.2 11 16)).toInt := congrArg Int32.toInt (up_nI U408 (ne_k g0 gca (by decide)))
              have m413 : (sI H408 h0 (X.1.2 11 18)).toInt = (sI H397 h0 (X.1.2 11 18)).toInt := congrArg Int32.toInt (up_nI U408 (ne_k g0 gca (by decide)))
              have m414 : (sI H408 h0 (X.1.2 11 17)).toInt = (sI H397 h0 (X.1.2 11 17)).toInt := congrArg Int32.toInt (up_nI U408 (ne_k g0 gca (by decide)))
              have e415 := up_I U408
              have hz8 := tk_nn (sI H408 h0 (X.1.2 11 14)).toInt
              have hpost : ((sI H408 h0 (X.1.2 11 12)).toInt = 0 ∧ ∃ (S1 : YSt) (i1 : Nat), gHeap kd vl (bfO a1) a1 (lmO a1) S i S1 i1 ∧ MC X H408 h0 tq kd vl w3 pos N i1 ∧ YSM X Γ H408 h0 ca kd vl w3 N S1) ∨ ((sI H408 h0 (X.1.2 11 12)).toInt ≠ 0 ∧ ∀ (S1 : YSt) (i1 : Nat), ¬ gHeap kd vl (bfO a1) a1 (lmO a1) S i S1 i1) := by first | (exfalso; omega) | exact Or.inr ⟨by omega, hno⟩ | exact Or.inl ⟨by omega, _, _, ⟨⟨hP.1.2.1, hP.1.2.2.1, by have := hP.1.2.2.2; omega⟩, ⟨hP.2.1, hP.2.2.1, (show vl (i + 1 + 1) ≤ _ by have := hP.2.2.2; omega)⟩, by omega, by (first | rw [(bfO_0 (a := a1) (by omega)).1] | rw [(bfO_1 (a := a1) (by omega)).1] | rw [(bfO_2 (a := a1) (by omega)).1]); exact hQ.1.2, by (first | rw [(bfO_0 (a := a1) (by omega)).2] | rw [(bfO_1 (a := a1) (by omega)).2] | rw [(bfO_2 (a := a1) (by omega)).2]); exact hQ.2, rfl, rfl⟩, mc, ym⟩ | exact Or.inr ⟨by omega, fun S1 i1 q => by obtain ⟨q1, q2, q3, q4, q5, -, -⟩ := q; (first | (have e1 := bfO_0 (a := a1) (by omega); rw [e1.1] at q4; rw [e1.2] at q5) | (have e1 := bfO_1 (a := a1) (by omega); rw [e1.1] at q4; rw [e1.2] at q5) | (have e1 := bfO_2 (a := a1) (by omega); rw [e1.1] at q4; rw [e1.2] at q5)); first | exact HD.no hd (by omega) ⟨⟨trivial, q4⟩, q5⟩ | exact HD.no hd (by omega) ⟨⟨⟨⟨trivial, q1.1, q1.2.1, by have := q1.2.2; omega⟩, q2.1, q2.2.1, (show vl (i + 2) ≤ _ by have := q2.2.2; omega)⟩, q4⟩, q5⟩⟩
              exact ret H408 locs408 _ _ dX12_readCell_186 ⟨hKp408, ⟨by omega, by omega, by omega, by omega, hpost⟩⟩ hC408 hS408
            · have hz8 := tk_nn (sI H390 h0 (X.1.2 11 14)).toInt
              have hpost : ((sI H390 h0 (X.1.2 11 12)).toInt = 0 ∧ ∃ (S1 : YSt) (i1 : Nat), gHeap kd vl (bfO a1) a1 (lmO a1) S i S1 i1 ∧ MC X H390 h0 tq kd vl w3 pos N i1 ∧ YSM X Γ H390 h0 ca kd vl w3 N S1) ∨ ((sI H390 h0 (X.1.2 11 12)).toInt ≠ 0 ∧ ∀ (S1 : YSt) (i1 : Nat), ¬ gHeap kd vl (bfO a1) a1 (lmO a1) S i S1 i1) := by first | (exfalso; omega) | exact Or.inr ⟨by omega, hno⟩ | exact Or.inl ⟨by omega, _, _, ⟨⟨hP.1.2.1, hP.1.2.2.1, by have := hP.1.2.2.2; omega⟩, ⟨hP.2.1, hP.2.2.1, (show vl (i + 1 + 1) ≤ _ by have := hP.2.2.2; omega)⟩, by omega, by (first | rw [(bfO_0 (a := a1) (by omega)).1] | rw [(bfO_1 (a := a1) (by omega)).1] | rw [(bfO_2 (a := a1) (by omega)).1]); exact hQ.1.2, by (first | rw [(bfO_0 (a := a1) (by omega)).2] | rw [(bfO_1 (a := a1) (by omega)).2] | rw [(bfO_2 (a := a1) (by omega)).2]); exact hQ.2, rfl, rfl⟩, mc, ym⟩ | exact Or.inr ⟨by omega, fun S1 i1 q => by obtain ⟨q1, q2, q3, q4, q5, -, -⟩ := q; (first | (have e1 := bfO_0 (a := a1) (by omega); rw [e1.1] at q4; rw [e1.2] at q5) | (have e1 := bfO_1 (a := a1) (by omega); rw [e1.1] at q4; rw [e1.2] at q5) | (have e1 := bfO_2 (a := a1) (by omega); rw [e1.1] at q4; rw [e1.2] at q5)); first | exact HD.no hd (by omega) ⟨⟨trivial, q4⟩, q5⟩ | exact HD.no hd (by omega) ⟨⟨⟨⟨trivial, q1.1, q1.2.1, by have := q1.2.2; omega⟩, q2.1, q2.2.1, (show vl (i + 2) ≤ _ by have := q2.2.2; omega)⟩, q4⟩, q5⟩⟩
              exact ret H390 locs390 _ _ dX12_readCell_137 ⟨hKp390, ⟨by omega, by omega, by omega, by omega, hpost⟩⟩ hC390 hS390
      · refine lv_aload_n hx hb dX12_readCell_85 rfl (lv_at hl 4 rfl) ?_
        refine q_goIp (q_runV (As := []) (rest := [.ref h0]) E hC327 hS327 (m_X12_isDeep l X Γ H327 hC327 h0 g0 ca gca uc) cw_X12_isDeep cl_RX12_181 g0 ⟨rfl, rfl⟩ rfl hl.1 rfl (show _ ≤ _ from by simp [Value.category]) (by decide) dX12_readCell_86) hS327 (fun v416 locs416 hr416 hS416 => ?_)
        rcases hr416 with ⟨rfl, hw⟩ | ⟨rfl, hw⟩
        · have hw5 := hw
          refine lv_goto (tgt := 108) hx hb dX12_readCell_89 rfl ?_
          refine q_goV (q_runV (As := [.int 1]) (rest := []) E hC327 hS416 (m_X12_must l X Γ H327 hC327 h0 g0 1 (a1 := 1) (by decide) ca gca uc tq ((kp_R hKp327 g0 (ci := 11) (k := 7) rfl (by decide) rfl).trans htq) gtq (by omega) (by omega)) cw_X12_must cl_RX12_244 g0 ⟨rfl, rfl⟩ rfl hl.1 rfl (Nat.zero_le _) (by decide) dX12_readCell_108) hS416 (fun H417 locs417 hr417 hC417 hS417 => ?_)
          obtain ⟨hp417, hr417⟩ := hr417
          have hKp417 := hKp327.tr (hp417.mono rfl)
          obtain ⟨f417_0, f417_1, f417_2, f417_3, f417_4, f417_5⟩ := hr417
          have hd := HD.must hd hp417 g0 gca (by first | exact hbz | exact Or.inl ⟨rfl, hw⟩ | exact Or.inr ⟨rfl, hw⟩) f417_5 f417_2 (by omega) rfl rfl (by decide)
          refine lv_aload_n hx hb dX12_readCell_111 rfl (lv_at hl 4 rfl) ?_
          refine lv_iconst (v := 0) hx hb dX12_readCell_112 rfl ?_
          refine lv_iload_n hx hb dX12_readCell_113 rfl (lv_at hl 5 rfl) ?_
          refine lv_iconst (v := 2) hx hb dX12_readCell_114 rfl ?_
          refine q_icmp_ne hx hb (a := a1) (b := 2) e1 (by decide) (tgt := 123) dX12_readCell_115 rfl (fun c418 => ?_) (fun c418 => absurd c418 (by omega))
          refine lv_bipush (v := 99) hx hb dX12_readCell_123 rfl ?_
          refine q_goI (q_runV (As := [.int 0, .int 99]) (rest := []) E hC417 hS417 (m_X12_count l X Γ H417 hC417 h0 g0 0 (a1 := 0) (by decide) 99 (a2 := 99) (by decide) ca gca uc tq ((kp_R hKp417 g0 (ci := 11) (k := 7) rfl (by decide) rfl).trans htq) gtq (by omega) (by omega) (by omega) (by omega)) cw_X12_count cl_RX12_248 g0 ⟨rfl, rfl⟩ rfl hl.1 rfl (Nat.zero_le _) (by decide) dX12_readCell_125) hS417 (fun v419 H419 locs419 hr419 hC419 hS419 => ?_)
          obtain ⟨hp419, hr419⟩ := hr419
          have hKp419 := hKp417.tr (hp419.mono rfl)
          obtain ⟨f419_0, f419_1, f419_2, f419_3, f419_4, f419_5, f419_6, f419_7, f419_8⟩ := hr419
          have hdc := HD.count hd hp419 g0 gca f419_8 f419_2 (by omega) rfl rfl
          have hd := hdc.1
          refine lv_istore hx hb dX12_readCell_128 hl (by decide) rfl (fun ls hl => ?_)
          have hl : lv_has ls 7 [(6, .int v419), (5, .int v32), (4, .int v30), (3, .int v26), (2, .int v25), (0, .ref h0), (1, .int p1)] := hl
          refine lv_aload_n hx hb dX12_readCell_130 rfl (lv_at hl 5 rfl) ?_
          refine q_getI E hC419 g0 fa_RX12_218 dX12_readCell_131 (fun v420 ev420 lv420 uv420 => ?_)
          have m421 : (sI H419 h0 (X.1.2 11 12)).toInt = v420.toInt := (congrArg Int32.toInt ev420).trans rfl
          refine q_if_le hx hb (a := v420.toInt) rfl (tgt := 138) dX12_readCell_134 rfl (fun c422 => ?_) (fun c422 => ?_)
          · obtain ⟨hQ, mc, ym⟩ := HD.live hd (by omega)
            have mc := mc
            have ym := ym
            refine lv_aload_n hx hb dX12_readCell_138 rfl (lv_at hl 5 rfl) ?_
            refine q_getR E hC419 g0 fa_RX12_41 dX12_readCell_139 (fun q423 eq423 gq423 => ?_)
            have hte2 := eq423; have htg2 := gq423
            refine lv_bipush (v := 36) hx hb dX12_readCell_142 rfl ?_
            refine lv_iload_n hx hb dX12_readCell_144 rfl (lv_at hl 6 rfl) ?_
            refine lv_imul hx hb dX12_readCell_145 (lv_topi (fun v424 ev424 => ?_))
            have ev424i : v424.toInt = (36 * a1) := i_mul ev424 (by decide) e1 (by omega) (by omega)
            refine lv_iload hx hb dX12_readCell_146 (lv_at hl 1 rfl) ?_
            refine lv_iadd hx hb dX12_readCell_148 (lv_topi (fun v425 ev425 => ?_))
            have ev425i : v425.toInt = ((36 * a1) + ((6 * v30.toInt) + v25.toInt)) := i_add ev425 ev424i ev32i (by omega) (by omega)
            refine lv_iconst (v := 1) hx hb dX12_readCell_149 rfl ?_
            refine q_iast E hC419 hS419 gq423 (by decide) rfl rfl (i_in (a := ((36 * a1) + ((6 * v30.toInt) + v25.toInt))) ev425i (by omega) (by omega)) tv_F dX12_readCell_150 (fun H426 locs426 hC426 hS426 U426 => ?_)
            have hKp426 := Kp.upA gq423 rfl (by decide) rfl U426 hKp419
            have mc := mc.ne U426 g0 gtq gq423 (by decide)
            have m427 : (sI H426 h0 (X.1.2 11 12)).toInt = (sI H419 h0 (X.1.2 11 12)).toInt := congrArg Int32.toInt (up_nI U426 (ne_k g0 gq423 (by decide)))
            have m428 : (sI H426 h0 (X.1.2 11 14)).toInt = (sI H419 h0 (X.1.2 11 14)).toInt := congrArg Int32.toInt (up_nI U426 (ne_k g0 gq423 (by decide)))
            have m429 := congrArg tk m428
            have m430 : (sI H426 h0 (X.1.2 11 16)).toInt = (sI H419 h0 (X.1.2 11 16)).toInt := congrArg Int32.toInt (up_nI U426 (ne_k g0 gq423 (by decide)))
            have m431 : (sI H426 h0 (X.1.2 11 18)).toInt = (sI H419 h0 (X.1.2 11 18)).toInt := congrArg Int32.toInt (up_nI U426 (ne_k g0 gq423 (by decide)))
            have m432 : (sI H426 h0 (X.1.2 11 17)).toInt = (sI H419 h0 (X.1.2 11 17)).toInt := congrArg Int32.toInt (up_nI U426 (ne_k g0 gq423 (by decide)))
            have ym := ym.told U426 g0 gca hte2 htg2 (w := a1) (z := (6 * vl (i + 2) + vl (i + 1))) (by rw [i_ix ev425i]; omega) (by omega) (by decide)
            refine lv_aload_n hx hb dX12_readCell_151 rfl (lv_at hl 5 rfl) ?_
            refine q_getC E hC426 g0 fa_RX12_35 uc dX12_readCell_152 ?_
            refine lv_sipush (v := 2080) hx hb dX12_readCell_155 rfl ?_
            refine lv_iload_n hx hb dX12_readCell_158 rfl (lv_at hl 6 rfl) ?_
            refine q_if_ne hx hb (a := a1) e1 (tgt := 167) dX12_readCell_159 rfl (fun c433 => absurd c433 (by omega)) (fun c433 => ?_)
            refine lv_bipush (v := 26) hx hb dX12_readCell_162 rfl ?_
            refine lv_goto (tgt := 179) hx hb dX12_readCell_164 rfl ?_
            refine lv_iadd hx hb dX12_readCell_179 (lv_topi (fun v434 ev434 => ?_))
            have ev434i : v434.toInt = (2080 + 26) := i_add ev434 (by decide) (by decide) (by omega) (by omega)
            refine lv_iload hx hb dX12_readCell_180 (lv_at hl 1 rfl) ?_
            refine lv_iadd hx hb dX12_readCell_182 (lv_topi (fun v435 ev435 => ?_))
            have ev435i : v435.toInt = ((2080 + 26) + ((6 * v30.toInt) + v25.toInt)) := i_add ev435 ev434i ev32i (by omega) (by omega)
            refine lv_iload hx hb dX12_readCell_183 (lv_at hl 0 rfl) ?_
            refine q_cast E hC426 hS426 gca (a := ((2080 + 26) + ((6 * v30.toInt) + v25.toInt))) ev435i (by omega) (by omega) (cs_n26 (a := ((2080 + 26) + ((6 * v30.toInt) + v25.toInt))) (b := v419.toInt) (by omega) (by omega) rfl (by omega) (by omega)) dX12_readCell_185 (fun H436 locs436 hC436 hS436 U436 => ?_)
            have hKp436 := Kp.upD gca rfl rfl (fun _ => ⟨fun _ => nd4 (by omega) (by omega), fun _ => by unfold dpu; omega, fun _ => by unfold dpn; omega⟩) U436 hKp426
            have mc := mc.ne U436 g0 gtq gca (by decide)
            have ym := ym.up U436 g0 gca (by omega)
            have m437 : (sI H436 h0 (X.1.2 11 12)).toInt = (sI H426 h0 (X.1.2 11 12)).toInt := congrArg Int32.toInt (up_nI U436 (ne_k g0 gca (by decide)))
            have m438 : (sI H436 h0 (X.1.2 11 14)).toInt = (sI H426 h0 (X.1.2 11 14)).toInt := congrArg Int32.toInt (up_nI U436 (ne_k g0 gca (by decide)))
            have m439 := congrArg tk m438
            have m440 : (sI H436 h0 (X.1.2 11 16)).toInt = (sI H426 h0 (X.1.2 11 16)).toInt := congrArg Int32.toInt (up_nI U436 (ne_k g0 gca (by decide)))
            have m441 : (sI H436 h0 (X.1.2 11 18)).toInt = (sI H426 h0 (X.1.2 11 18)).toInt := congrArg Int32.toInt (up_nI U436 (ne_k g0 gca (by decide)))
            have m442 : (sI H436 h0 (X.1.2 11 17)).toInt = (sI H426 h0 (X.1.2 11 17)).toInt := congrArg Int32.toInt (up_nI U436 (ne_k g0 gca (by decide)))
            have e443 := up_I U436
            have hz8 := tk_nn (sI H436 h0 (X.1.2 11 14)).toInt
            have hpost : ((sI H436 h0 (X.1.2 11 12)).toInt = 0 ∧ ∃ (S1 : YSt) (i1 : Nat), gHeap kd vl (bfO a1) a1 (lmO a1) S i S1 i1 ∧ MC X H436 h0 tq kd vl w3 pos N i1 ∧ YSM X Γ H436 h0 ca kd vl w3 N S1) ∨ ((sI H436 h0 (X.1.2 11 12)).toInt ≠ 0 ∧ ∀ (S1 : YSt) (i1 : Nat), ¬ gHeap kd vl (bfO a1) a1 (lmO a1) S i S1 i1) := by first | (exfalso; omega) | exact Or.inr ⟨by omega, hno⟩ | exact Or.inl ⟨by omega, _, _, ⟨⟨hP.1.2.1, hP.1.2.2.1, by have := hP.1.2.2.2; omega⟩, ⟨hP.2.1, hP.2.2.1, (show vl (i + 1 + 1) ≤ _ by have := hP.2.2.2; omega)⟩, by omega, by (first | rw [(bfO_0 (a := a1) (by omega)).1] | rw [(bfO_1 (a := a1) (by omega)).1] | rw [(bfO_2 (a := a1) (by omega)).1]); exact hQ.1.2, by (first | rw [(bfO_0 (a := a1) (by omega)).2] | rw [(bfO_1 (a := a1) (by omega)).2] | rw [(bfO_2 (a := a1) (by omega)).2]); exact hQ.2, rfl, rfl⟩, mc, ym⟩ | exact Or.inr ⟨by omega, fun S1 i1 q => by obtain ⟨q1, q2, q3, q4, q5, -, -⟩ := q; (first | (have e1 := bfO_0 (a := a1) (by omega); rw [e1.1] at q4; rw [e1.2] at q5) | (have e1 := bfO_1 (a := a1) (by omega); rw [e1.1] at q4; rw [e1.2] at q5) | (have e1 := bfO_2 (a := a1) (by omega); rw [e1.1] at q4; rw [e1.2] at q5)); first | exact HD.no hd (by omega) ⟨⟨trivial, q4⟩, q5⟩ | exact HD.no hd (by omega) ⟨⟨⟨⟨trivial, q1.1, q1.2.1, by have := q1.2.2; omega⟩, q2.1, q2.2.1, (show vl (i + 2) ≤ _ by have := q2.2.2; omega)⟩, q4⟩, q5⟩⟩
            exact ret H436 locs436 _ _ dX12_readCell_186 ⟨hKp436, ⟨by omega, by omega, by omega, by omega, hpost⟩⟩ hC436 hS436
          · have hz8 := tk_nn (sI H419 h0 (X.1.2 11 14)).toInt
            have hpost : ((sI H419 h0 (X.1.2 11 12)).toInt = 0 ∧ ∃ (S1 : YSt) (i1 : Nat), gHeap kd vl (bfO a1) a1 (lmO a1) S i S1 i1 ∧ MC X H419 h0 tq kd vl w3 pos N i1 ∧ YSM X Γ H419 h0 ca kd vl w3 N S1) ∨ ((sI H419 h0 (X.1.2 11 12)).toInt ≠ 0 ∧ ∀ (S1 : YSt) (i1 : Nat), ¬ gHeap kd vl (bfO a1) a1 (lmO a1) S i S1 i1) := by first | (exfalso; omega) | exact Or.inr ⟨by omega, hno⟩ | exact Or.inl ⟨by omega, _, _, ⟨⟨hP.1.2.1, hP.1.2.2.1, by have := hP.1.2.2.2; omega⟩, ⟨hP.2.1, hP.2.2.1, (show vl (i + 1 + 1) ≤ _ by have := hP.2.2.2; omega)⟩, by omega, by (first | rw [(bfO_0 (a := a1) (by omega)).1] | rw [(bfO_1 (a := a1) (by omega)).1] | rw [(bfO_2 (a := a1) (by omega)).1]); exact hQ.1.2, by (first | rw [(bfO_0 (a := a1) (by omega)).2] | rw [(bfO_1 (a := a1) (by omega)).2] | rw [(bfO_2 (a := a1) (by omega)).2]); exact hQ.2, rfl, rfl⟩, mc, ym⟩ | exact Or.inr ⟨by omega, fun S1 i1 q => by obtain ⟨q1, q2, q3, q4, q5, -, -⟩ := q; (first | (have e1 := bfO_0 (a := a1) (by omega); rw [e1.1] at q4; rw [e1.2] at q5) | (have e1 := bfO_1 (a := a1) (by omega); rw [e1.1] at q4; rw [e1.2] at q5) | (have e1 := bfO_2 (a := a1) (by omega); rw [e1.1] at q4; rw [e1.2] at q5)); first | exact HD.no hd (by omega) ⟨⟨trivial, q4⟩, q5⟩ | exact HD.no hd (by omega) ⟨⟨⟨⟨trivial, q1.1, q1.2.1, by have := q1.2.2; omega⟩, q2.1, q2.2.1, (show vl (i + 2) ≤ _ by have := q2.2.2; omega)⟩, q4⟩, q5⟩⟩
            exact ret H419 locs419 _ _ dX12_readCell_137 ⟨hKp419, ⟨by omega, by omega, by omega, by omega, hpost⟩⟩ hC419 hS419
        · have hw5 := hw
          refine lv_goto (tgt := 108) hx hb dX12_readCell_89 rfl ?_
          refine q_goV (q_runV (As := [.int 0]) (rest := []) E hC327 hS416 (m_X12_must l X Γ H327 hC327 h0 g0 0 (a1 := 0) (by decide) ca gca uc tq ((kp_R hKp327 g0 (ci := 11) (k := 7) rfl (by decide) rfl).trans htq) gtq (by omega) (by omega)) cw_X12_must cl_RX12_244 g0 ⟨rfl, rfl⟩ rfl hl.1 rfl (Nat.zero_le _) (by decide) dX12_readCell_108) hS416 (fun H444 locs444 hr444 hC444 hS444 => ?_)
          obtain ⟨hp444, hr444⟩ := hr444
          have hKp444 := hKp327.tr (hp444.mono rfl)
          obtain ⟨f444_0, f444_1, f444_2, f444_3, f444_4, f444_5⟩ := hr444
          have hd := HD.must hd hp444 g0 gca (by first | exact hbz | exact Or.inl ⟨rfl, hw⟩ | exact Or.inr ⟨rfl, hw⟩) f444_5 f444_2 (by omega) rfl rfl (by decide)
          refine lv_aload_n hx hb dX12_readCell_111 rfl (lv_at hl 4 rfl) ?_
          refine lv_iconst (v := 0) hx hb dX12_readCell_112 rfl ?_
          refine lv_iload_n hx hb dX12_readCell_113 rfl (lv_at hl 5 rfl) ?_
          refine lv_iconst (v := 2) hx hb dX12_readCell_114 rfl ?_
          refine q_icmp_ne hx hb (a := a1) (b := 2) e1 (by decide) (tgt := 123) dX12_readCell_115 rfl (fun c445 => ?_) (fun c445 => absurd c445 (by omega))
          refine lv_bipush (v := 99) hx hb dX12_readCell_123 rfl ?_
          refine q_goI (q_runV (As := [.int 0, .int 99]) (rest := []) E hC444 hS444 (m_X12_count l X Γ H444 hC444 h0 g0 0 (a1 := 0) (by decide) 99 (a2 := 99) (by decide) ca gca uc tq ((kp_R hKp444 g0 (ci := 11) (k := 7) rfl (by decide) rfl).trans htq) gtq (by omega) (by omega) (by omega) (by omega)) cw_X12_count cl_RX12_248 g0 ⟨rfl, rfl⟩ rfl hl.1 rfl (Nat.zero_le _) (by decide) dX12_readCell_125) hS444 (fun v446 H446 locs446 hr446 hC446 hS446 => ?_)
          obtain ⟨hp446, hr446⟩ := hr446
          have hKp446 := hKp444.tr (hp446.mono rfl)
          obtain ⟨f446_0, f446_1, f446_2, f446_3, f446_4, f446_5, f446_6, f446_7, f446_8⟩ := hr446
          have hdc := HD.count hd hp446 g0 gca f446_8 f446_2 (by omega) rfl rfl
          have hd := hdc.1
          refine lv_istore hx hb dX12_readCell_128 hl (by decide) rfl (fun ls hl => ?_)
          have hl : lv_has ls 7 [(6, .int v446), (5, .int v32), (4, .int v30), (3, .int v26), (2, .int v25), (0, .ref h0), (1, .int p1)] := hl
          refine lv_aload_n hx hb dX12_readCell_130 rfl (lv_at hl 5 rfl) ?_
          refine q_getI E hC446 g0 fa_RX12_218 dX12_readCell_131 (fun v447 ev447 lv447 uv447 => ?_)
          have m448 : (sI H446 h0 (X.1.2 11 12)).toInt = v447.toInt := (congrArg Int32.toInt ev447).trans rfl
          refine q_if_le hx hb (a := v447.toInt) rfl (tgt := 138) dX12_readCell_134 rfl (fun c449 => ?_) (fun c449 => ?_)
          · obtain ⟨hQ, mc, ym⟩ := HD.live hd (by omega)
            have mc := mc
            have ym := ym
            refine lv_aload_n hx hb dX12_readCell_138 rfl (lv_at hl 5 rfl) ?_
            refine q_getR E hC446 g0 fa_RX12_41 dX12_readCell_139 (fun q450 eq450 gq450 => ?_)
            have hte2 := eq450; have htg2 := gq450
            refine lv_bipush (v := 36) hx hb dX12_readCell_142 rfl ?_
            refine lv_iload_n hx hb dX12_readCell_144 rfl (lv_at hl 6 rfl) ?_
            refine lv_imul hx hb dX12_readCell_145 (lv_topi (fun v451 ev451 => ?_))
            have ev451i : v451.toInt = (36 * a1) := i_mul ev451 (by decide) e1 (by omega) (by omega)
            refine lv_iload hx hb dX12_readCell_146 (lv_at hl 1 rfl) ?_
            refine lv_iadd hx hb dX12_readCell_148 (lv_topi (fun v452 ev452 => ?_))
            have ev452i : v452.toInt = ((36 * a1) + ((6 * v30.toInt) + v25.toInt)) := i_add ev452 ev451i ev32i (by omega) (by omega)
            refine lv_iconst (v := 1) hx hb dX12_readCell_149 rfl ?_
            refine q_iast E hC446 hS446 gq450 (by decide) rfl rfl (i_in (a := ((36 * a1) + ((6 * v30.toInt) + v25.toInt))) ev452i (by omega) (by omega)) tv_F dX12_readCell_150 (fun H453 locs453 hC453 hS453 U453 => ?_)
            have hKp453 := Kp.upA gq450 rfl (by decide) rfl U453 hKp446
            have mc := mc.ne U453 g0 gtq gq450 (by decide)
            have m454 : (sI H453 h0 (X.1.2 11 12)).toInt = (sI H446 h0 (X.1.2 11 12)).toInt := congrArg Int32.toInt (up_nI U453 (ne_k g0 gq450 (by decide)))
            have m455 : (sI H453 h0 (X.1.2 11 14)).toInt = (sI H446 h0 (X.1.2 11 14)).toInt := congrArg Int32.toInt (up_nI U453 (ne_k g0 gq450 (by decide)))
            have m456 := congrArg tk m455
            have m457 : (sI H453 h0 (X.1.2 11 16)).toInt = (sI H446 h0 (X.1.2 11 16)).toInt := congrArg Int32.toInt (up_nI U453 (ne_k g0 gq450 (by decide)))
            have m458 : (sI H453 h0 (X.1.2 11 18)).toInt = (sI H446 h0 (X.1.2 11 18)).toInt := congrArg Int32.toInt (up_nI U453 (ne_k g0 gq450 (by decide)))
            have m459 : (sI H453 h0 (X.1.2 11 17)).toInt = (sI H446 h0 (X.1.2 11 17)).toInt := congrArg Int32.toInt (up_nI U453 (ne_k g0 gq450 (by decide)))
            have ym := ym.told U453 g0 gca hte2 htg2 (w := a1) (z := (6 * vl (i + 2) + vl (i + 1))) (by rw [i_ix ev452i]; omega) (by omega) (by decide)
            refine lv_aload_n hx hb dX12_readCell_151 rfl (lv_at hl 5 rfl) ?_
            refine q_getC E hC453 g0 fa_RX12_35 uc dX12_readCell_152 ?_
            refine lv_sipush (v := 2080) hx hb dX12_readCell_155 rfl ?_
            refine lv_iload_n hx hb dX12_readCell_158 rfl (lv_at hl 6 rfl) ?_
            refine q_if_ne hx hb (a := a1) e1 (tgt := 167) dX12_readCell_159 rfl (fun c460 => absurd c460 (by omega)) (fun c460 => ?_)
            refine lv_bipush (v := 26) hx hb dX12_readCell_162 rfl ?_
            refine lv_goto (tgt := 179) hx hb dX12_readCell_164 rfl ?_
            refine lv_iadd hx hb dX12_readCell_179 (lv_topi (fun v461 ev461 => ?_))
            have ev461i : v461.toInt = (2080 + 26) := i_add ev461 (by decide) (by decide) (by omega) (by omega)
            refine lv_iload hx hb dX12_readCell_180 (lv_at hl 1 rfl) ?_
            refine lv_iadd hx hb dX12_readCell_182 (lv_topi (fun v462 ev462 => ?_))
            have ev462i : v462.toInt = ((2080 + 26) + ((6 * v30.toInt) + v25.toInt)) := i_add ev462 ev461i ev32i (by omega) (by omega)
            refine lv_iload hx hb dX12_readCell_183 (lv_at hl 0 rfl) ?_
            refine q_cast E hC453 hS453 gca (a := ((2080 + 26) + ((6 * v30.toInt) + v25.toInt))) ev462i (by omega) (by omega) (cs_n26 (a := ((2080 + 26) + ((6 * v30.toInt) + v25.toInt))) (b := v446.toInt) (by omega) (by omega) rfl (by omega) (by omega)) dX12_readCell_185 (fun H463 locs463 hC463 hS463 U463 => ?_)
            have hKp463 := Kp.upD gca rfl rfl (fun _ => ⟨fun _ => nd4 (by omega) (by omega), fun _ => by unfold dpu; omega, fun _ => by unfold dpn; omega⟩) U463 hKp453
            have mc := mc.ne U463 g0 gtq gca (by decide)
            have ym := ym.up U463 g0 gca (by omega)
            have m464 : (sI H463 h0 (X.1.2 11 12)).toInt = (sI H453 h0 (X.1.2 11 12)).toInt := congrArg Int32.toInt (up_nI U463 (ne_k g0 gca (by decide)))
            have m465 : (sI H463 h0 (X.1.2 11 14)).toInt = (sI H453 h0 (X.1.2 11 14)).toInt := congrArg Int32.toInt (up_nI U463 (ne_k g0 gca (by decide)))
            have m466 := congrArg tk m465
            have m467 : (sI H463 h0 (X.1.2 11 16)).toInt = (sI H453 h0 (X.1.2 11 16)).toInt := congrArg Int32.toInt (up_nI U463 (ne_k g0 gca (by decide)))
            have m468 : (sI H463 h0 (X.1.2 11 18)).toInt = (sI H453 h0 (X.1.2 11 18)).toInt := congrArg Int32.toInt (up_nI U463 (ne_k g0 gca (by decide)))
            have m469 : (sI H463 h0 (X.1.2 11 17)).toInt = (sI H453 h0 (X.1.2 11 17)).toInt := congrArg Int32.toInt (up_nI U463 (ne_k g0 gca (by decide)))
            have e470 := up_I U463
            have hz8 := tk_nn (sI H463 h0 (X.1.2 11 14)).toInt
            have hpost : ((sI H463 h0 (X.1.2 11 12)).toInt = 0 ∧ ∃ (S1 : YSt) (i1 : Nat), gHeap kd vl (bfO a1) a1 (lmO a1) S i S1 i1 ∧ MC X H463 h0 tq kd vl w3 pos N i1 ∧ YSM X Γ H463 h0 ca kd vl w3 N S1) ∨ ((sI H463 h0 (X.1.2 11 12)).toInt ≠ 0 ∧ ∀ (S1 : YSt) (i1 : Nat), ¬ gHeap kd vl (bfO a1) a1 (lmO a1) S i S1 i1) := by first | (exfalso; omega) | exact Or.inr ⟨by omega, hno⟩ | exact Or.inl ⟨by omega, _, _, ⟨⟨hP.1.2.1, hP.1.2.2.1, by have := hP.1.2.2.2; omega⟩, ⟨hP.2.1, hP.2.2.1, (show vl (i + 1 + 1) ≤ _ by have := hP.2.2.2; omega)⟩, by omega, by (first | rw [(bfO_0 (a := a1) (by omega)).1] | rw [(bfO_1 (a := a1) (by omega)).1] | rw [(bfO_2 (a := a1) (by omega)).1]); exact hQ.1.2, by (first | rw [(bfO_0 (a := a1) (by omega)).2] | rw [(bfO_1 (a := a1) (by omega)).2] | rw [(bfO_2 (a := a1) (by omega)).2]); exact hQ.2, rfl, rfl⟩, mc, ym⟩ | exact Or.inr ⟨by omega, fun S1 i1 q => by obtain ⟨q1, q2, q3, q4, q5, -, -⟩ := q; (first | (have e1 := bfO_0 (a := a1) (by omega); rw [e1.1] at q4; rw [e1.2] at q5) | (have e1 := bfO_1 (a := a1) (by omega); rw [e1.1] at q4; rw [e1.2] at q5) | (have e1 := bfO_2 (a := a1) (by omega); rw [e1.1] at q4; rw [e1.2] at q5)); first | exact HD.no hd (by omega) ⟨⟨trivial, q4⟩, q5⟩ | exact HD.no hd (by omega) ⟨⟨⟨⟨trivial, q1.1, q1.2.1, by have := q1.2.2; omega⟩, q2.1, q2.2.1, (show vl (i + 2) ≤ _ by have := q2.2.2; omega)⟩, q4⟩, q5⟩⟩
            exact ret H463 locs463 _ _ dX12_readCell_186 ⟨hKp463, ⟨by omega, by omega, by omega, by omega, hpost⟩⟩ hC463 hS463
          · have hz8 := tk_nn (sI H446 h0 (X.1.2 11 14)).toInt
            have hpost : ((sI H446 h0 (X.1.2 11 12)).toInt = 0 ∧ ∃ (S1 : YSt) (i1 : Nat), gHeap kd vl (bfO a1) a1 (lmO a1) S i S1 i1 ∧ MC X H446 h0 tq kd vl w3 pos N i1 ∧ YSM X Γ H446 h0 ca kd vl w3 N S1) ∨ ((sI H446 h0 (X.1.2 11 12)).toInt ≠ 0 ∧ ∀ (S1 : YSt) (i1 : Nat), ¬ gHeap kd vl (bfO a1) a1 (lmO a1) S i S1 i1) := by first | (exfalso; omega) | exact Or.inr ⟨by omega, hno⟩ | exact Or.inl ⟨by omega, _, _, ⟨⟨hP.1.2.1, hP.1.2.2.1, by have := hP.1.2.2.2; omega⟩, ⟨hP.2.1, hP.2.2.1, (show vl (i + 1 + 1) ≤ _ by have := hP.2.2.2; omega)⟩, by omega, by (first | rw [(bfO_0 (a := a1) (by omega)).1] | rw [(bfO_1 (a := a1) (by omega)).1] | rw [(bfO_2 (a := a1) (by omega)).1]); exact hQ.1.2, by (first | rw [(bfO_0 (a := a1) (by omega)).2] | rw [(bfO_1 (a := a1) (by omega)).2] | rw [(bfO_2 (a := a1) (by omega)).2]); exact hQ.2, rfl, rfl⟩, mc, ym⟩ | exact Or.inr ⟨by omega, fun S1 i1 q => by obtain ⟨q1, q2, q3, q4, q5, -, -⟩ := q; (first | (have e1 := bfO_0 (a := a1) (by omega); rw [e1.1] at q4; rw [e1.2] at q5) | (have e1 := bfO_1 (a := a1) (by omega); rw [e1.1] at q4; rw [e1.2] at q5) | (have e1 := bfO_2 (a := a1) (by omega); rw [e1.1] at q4; rw [e1.2] at q5)); first | exact HD.no hd (by omega) ⟨⟨trivial, q4⟩, q5⟩ | exact HD.no hd (by omega) ⟨⟨⟨⟨trivial, q1.1, q1.2.1, by have := q1.2.2; omega⟩, q2.1, q2.2.1, (show vl (i + 2) ≤ _ by have := q2.2.2; omega)⟩, q4⟩, q5⟩⟩
            exact ret H446 locs446 _ _ dX12_readCell_137 ⟨hKp446, ⟨by omega, by omega, by omega, by omega, hpost⟩⟩ hC446 hS446
