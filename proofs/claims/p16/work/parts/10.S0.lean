set_option maxRecDepth 100000 in
set_option maxHeartbeats 4000000 in
theorem m_X11_status (l : Launch) (X : xW) (Γ : Nat → Option Nat) (H0 : Heap) (hC0 : Conf X Γ H0) (h0 : Nat) (g0 : Γ h0 = some 0) : Ctr l X Γ yX11_status cX11_status 1 (some .int) 0 [.ref h0] H0 (QI X Γ (fun v H1 => H1 = H0 ∧ (True))) := by
  refine q_enterI (own := "SnowForts") (by decide) rfl (Nat.le_of_ble_eq_true rfl) ?_
  intro p e s m args below meth c ls Qz E hl ret hS0
  have hx := E.1; have hb := E.2.1
  have hl : lv_has ls 1 [(0, .ref h0)] := hl
  refine lv_aload_n hx hb dX11_status_0 rfl (lv_at hl 0 rfl) ?_
  refine q_getI E hC0 g0 fa_RX11_102 dX11_status_1 (fun v21 ev21 _ _ => ?_)
  exact ret v21 H0 [] _ _ dX11_status_4 ⟨rfl, trivial⟩ hC0 hS0
set_option maxRecDepth 100000 in
set_option maxHeartbeats 4000000 in
theorem m_X11_top (l : Launch) (X : xW) (Γ : Nat → Option Nat) (H0 : Heap) (hC0 : Conf X Γ H0) (h0 : Nat) (g0 : Γ h0 = some 0) : Ctr l X Γ yX11_top cX11_top 1 (some .long) 0 [.ref h0] H0 (QJ X Γ (fun v H1 => H1 = H0 ∧ (True))) := by
  refine q_enterJ (own := "SnowForts") (by decide) rfl (Nat.le_of_ble_eq_true rfl) ?_
  intro p e s m args below meth c ls Qz E hl ret hS0
  have hx := E.1; have hb := E.2.1
  have hl : lv_has ls 1 [(0, .ref h0)] := hl
  refine lv_aload_n hx hb dX11_top_0 rfl (lv_at hl 0 rfl) ?_
  refine q_getR E hC0 g0 fa_RX11_84 dX11_top_1 (fun q21 eq21 gq21 => ?_)
  refine q_getJ E hC0 gq21 fa_RX11_106 dX11_top_4 (fun v22 ev22 => ?_)
  exact ret v22 H0 [] _ _ dX11_top_7 ⟨rfl, trivial⟩ hC0 hS0
set_option maxRecDepth 100000 in
set_option maxHeartbeats 4000000 in
theorem m_X11_bottom (l : Launch) (X : xW) (Γ : Nat → Option Nat) (H0 : Heap) (hC0 : Conf X Γ H0) (h0 : Nat) (g0 : Γ h0 = some 0) : Ctr l X Γ yX11_bottom cX11_bottom 1 (some .long) 0 [.ref h0] H0 (QJ X Γ (fun v H1 => H1 = H0 ∧ (True))) := by
  refine q_enterJ (own := "SnowForts") (by decide) rfl (Nat.le_of_ble_eq_true rfl) ?_
  intro p e s m args below meth c ls Qz E hl ret hS0
  have hx := E.1; have hb := E.2.1
  have hl : lv_has ls 1 [(0, .ref h0)] := hl
  refine lv_aload_n hx hb dX11_bottom_0 rfl (lv_at hl 0 rfl) ?_
  refine q_getR E hC0 g0 fa_RX11_84 dX11_bottom_1 (fun q21 eq21 gq21 => ?_)
  refine q_getJ E hC0 gq21 fa_RX11_110 dX11_bottom_4 (fun v22 ev22 => ?_)
  exact ret v22 H0 [] _ _ dX11_bottom_7 ⟨rfl, trivial⟩ hC0 hS0
set_option maxRecDepth 100000 in
set_option maxHeartbeats 4000000 in
theorem m_X11_isWithin (l : Launch) (X : xW) (Γ : Nat → Option Nat) (H0 : Heap) (hC0 : Conf X Γ H0) (p0 : Int64) {a0 : Int} (e0 : p0.toInt = a0) (p1 : Int32) {a1 : Int} (e1 : p1.toInt = a1) (p2 : Int32) {a2 : Int} (e2 : p2.toInt = a2) : Ctr l X Γ yX11_isWithin cX11_isWithin 4 (some .boolean) 0 [.long p0, .int p1, .int p2] H0 (QI X Γ (fun v H1 => H1 = H0 ∧ ((v = 1 ∧ (a1 ≤ a0 ∧ a0 ≤ a2)) ∨ (v = 0 ∧ (a0 < a1 ∨ a2 < a0))))) := by
  refine q_enterZ (own := "SnowForts") (by decide) rfl (Nat.le_of_ble_eq_true rfl) ?_
  intro p e s m args below meth c ls Qz E hl ret hS0
  have hx := E.1; have hb := E.2.1
  have hl : lv_has ls 4 [(0, .long p0), (2, .int p1), (3, .int p2)] := hl
  refine lv_lload_n hx hb dX11_isWithin_0 rfl (lv_at hl 0 rfl) ?_
  refine lv_iload_n hx hb dX11_isWithin_1 rfl (lv_at hl 1 rfl) ?_
  refine lv_i2l (v := p1.toInt64) hx hb dX11_isWithin_2 rfl (lv_topl (fun v21 ev21 => ?_))
  have ev21i : v21.toInt = a1 := l_ofi ev21.symm e1
  refine q_lcmp_lt hx hb (a := a0) (b := a1) e0 ev21i (tgt := 18) dX11_isWithin_3 dX11_isWithin_4 rfl (fun c22 => ?_) (fun c22 => ?_)
  · refine lv_iconst (v := 0) hx hb dX11_isWithin_18 rfl ?_
    exact ret 0 H0 [] _ _ dX11_isWithin_19 (Or.inl rfl) ⟨rfl, Or.inr ⟨rfl, by omega⟩⟩ hC0 hS0
  · refine lv_lload_n hx hb dX11_isWithin_7 rfl (lv_at hl 0 rfl) ?_
    refine lv_iload_n hx hb dX11_isWithin_8 rfl (lv_at hl 2 rfl) ?_
    refine lv_i2l (v := p2.toInt64) hx hb dX11_isWithin_9 rfl (lv_topl (fun v23 ev23 => ?_))
    have ev23i : v23.toInt = a2 := l_ofi ev23.symm e2
    refine q_lcmp_gt hx hb (a := a0) (b := a2) e0 ev23i (tgt := 18) dX11_isWithin_10 dX11_isWithin_11 rfl (fun c24 => ?_) (fun c24 => ?_)
    · refine lv_iconst (v := 0) hx hb dX11_isWithin_18 rfl ?_
      exact ret 0 H0 [] _ _ dX11_isWithin_19 (Or.inl rfl) ⟨rfl, Or.inr ⟨rfl, by omega⟩⟩ hC0 hS0
    · refine lv_iconst (v := 1) hx hb dX11_isWithin_14 rfl ?_
      refine lv_goto (tgt := 19) hx hb dX11_isWithin_15 rfl ?_
      exact ret 1 H0 [] _ _ dX11_isWithin_19 (Or.inr rfl) ⟨rfl, Or.inl ⟨rfl, by omega, by omega⟩⟩ hC0 hS0
set_option maxRecDepth 100000 in
set_option maxHeartbeats 4000000 in
theorem m_X11_isTray (l : Launch) (X : xW) (Γ : Nat → Option Nat) (H0 : Heap) (hC0 : Conf X Γ H0) (p0 : Int32) {a0 : Int} (e0 : p0.toInt = a0) : Ctr l X Γ yX11_isTray cX11_isTray 1 (some .boolean) 1 [.int p0] H0 (QI X Γ (fun v H1 => H1 = H0 ∧ ((v = 1 ∧ (0 ≤ a0 ∧ a0 ≤ 3)) ∨ (v = 0 ∧ (a0 < 0 ∨ 3 < a0))))) := by
  refine q_enterZ (own := "SnowForts") (by decide) rfl (Nat.le_of_ble_eq_true rfl) ?_
  intro p e s m args below meth c ls Qz E hl ret hS0
  have hx := E.1; have hb := E.2.1
  have hl : lv_has ls 1 [(0, .int p0)] := hl
  refine lv_iload_n hx hb dX11_isTray_0 rfl (lv_at hl 0 rfl) ?_
  refine lv_i2l (v := p0.toInt64) hx hb dX11_isTray_1 rfl (lv_topl (fun v21 ev21 => ?_))
  have ev21i : v21.toInt = a0 := l_ofi ev21.symm e0
  refine lv_iconst (v := 0) hx hb dX11_isTray_2 rfl ?_
  refine lv_iconst (v := 3) hx hb dX11_isTray_3 rfl ?_
  refine q_goIp (q_runS (As := [.long v21, .int 0, .int 3]) (rest := []) E hS0 (m_X11_isWithin l X Γ H0 hC0 v21 (a0 := a0) ev21i 0 (a1 := 0) (by decide) 3 (a2 := 3) (by decide)) cw_X11_isWithin cl_RX11_113 rfl hl.1 rfl (Nat.zero_le _) (by decide) dX11_isTray_4) hS0 (fun v22 locs22 hr22 hS22 => ?_)
  rcases hr22 with ⟨rfl, f22a0, f22a1⟩ | ⟨rfl, f22b⟩
  · exact ret 1 H0 locs22 _ _ dX11_isTray_7 (Or.inr rfl) ⟨rfl, Or.inl ⟨rfl, by omega, by omega⟩⟩ hC0 hS22
  · exact ret 0 H0 locs22 _ _ dX11_isTray_7 (Or.inl rfl) ⟨rfl, Or.inr ⟨rfl, by omega⟩⟩ hC0 hS22
set_option maxRecDepth 100000 in
set_option maxHeartbeats 4000000 in
theorem m_X11_deny (l : Launch) (X : xW) (Γ : Nat → Option Nat) (H0 : Heap) (hC0 : Conf X Γ H0) (h0 : Nat) (g0 : Γ h0 = some 0) (p1 : Int32) {a1 : Int} (e1 : p1.toInt = a1) : Ctr l X Γ yX11_deny cX11_deny 2 (some .boolean) 0 [.ref h0, .int p1] H0 (QI X Γ (fun v H1 => Kp X Γ [0, 2, 3, 4, 5, 18, 21, 23, 25, 27, 29, 31, 32, 33, 34, 37, 39, 40, 41] H0 H1 ∧ ((v = 1 ∧ ((0 : Int) = 1)) ∨ (v = 0 ∧ (True))))) := by
  refine q_enterZ (own := "SnowForts") (by decide) rfl (Nat.le_of_ble_eq_true rfl) ?_
  intro p e s m args below meth c ls Qz E hl ret hS0
  have hx := E.1; have hb := E.2.1
  have hKp0 : Kp X Γ [0, 2, 3, 4, 5, 18, 21, 23, 25, 27, 29, 31, 32, 33, 34, 37, 39, 40, 41] H0 H0 := Kp.rf
  have hl : lv_has ls 2 [(0, .ref h0), (1, .int p1)] := hl
  refine lv_aload_n hx hb dX11_deny_0 rfl (lv_at hl 0 rfl) ?_
  refine lv_iload_n hx hb dX11_deny_1 rfl (lv_at hl 1 rfl) ?_
  refine q_put E hC0 hS0 g0 fp_RX11_102 tv_F rfl rfl dX11_deny_2 (fun H21 locs21 hC21 hS21 U21 => ?_)
  have hKp21 := Kp.upO E g0 fp_RX11_102 rfl U21 hKp0
  have e22 := up_I U21
  refine lv_iconst (v := 0) hx hb dX11_deny_5 rfl ?_
  exact ret 0 H21 locs21 _ _ dX11_deny_6 (Or.inl rfl) ⟨hKp21, Or.inr ⟨rfl, trivial⟩⟩ hC21 hS21
set_option maxRecDepth 100000 in
set_option maxHeartbeats 4000000 in
theorem m_X6_become (l : Launch) (X : xW) (Γ : Nat → Option Nat) (H0 : Heap) (hC0 : Conf X Γ H0) (h0 : Nat) (g0 : Γ h0 = some 1) (p1 : Int32) {a1 : Int} (e1 : p1.toInt = a1) (p2 : Int32) {a2 : Int} (e2 : p2.toInt = a2) (r0 : 0 ≤ a2) (r1 : a2 ≤ 60) : Ctr l X Γ yX6_become cX6_become 3 none 1 [.ref h0, .int p1, .int p2] H0 (QV X Γ (fun H1 => Kp X Γ [0, 3, 4, 5, 18, 25, 27, 29, 31, 32, 33, 34, 37, 39, 40, 41] H0 H1 ∧ (((sI H1 h0 (X.1.2 6 2)).toInt = a2) ∧ ((sI H1 h0 (X.1.2 6 1)).toInt = a1) ∧ (OTH X Γ h0 H0 H1) ∧ (∀ q, sR H0 h0 (X.1.2 6 0) = some q → (∀ j : Nat, j < 60 → sJ H1 q j = 0) ∧ ∀ a j : Nat, Γ a = some 24 → a ≠ q → sJ H1 a j = sJ H0 a j)))) := by
  refine q_enterV (own := "SnowForts$Tray") (by decide) rfl (Nat.le_of_ble_eq_true rfl) ?_
  intro p e s m args below meth c ls Qz E hl ret hS0
  have hx := E.1; have hb := E.2.1
  have hKp0 : Kp X Γ [0, 3, 4, 5, 18, 25, 27, 29, 31, 32, 33, 34, 37, 39, 40, 41] H0 H0 := Kp.rf
  have hl : lv_has ls 3 [(0, .ref h0), (1, .int p1), (2, .int p2)] := hl
  have oth : OTH X Γ h0 H0 H0 := OTH.rf
  refine lv_aload_n hx hb dX6_become_0 rfl (lv_at hl 0 rfl) ?_
  refine lv_iload_n hx hb dX6_become_1 rfl (lv_at hl 1 rfl) ?_
  refine q_put E hC0 hS0 g0 fp_RX6_19 tv_F rfl rfl dX6_become_2 (fun H21 locs21 hC21 hS21 U21 => ?_)
  have hKp21 := Kp.upO E g0 fp_RX6_19 rfl U21 hKp0
  have e22 := up_I U21
  have m23 : (sI H21 h0 (X.1.2 6 1)).toInt = a1 := (congrArg Int32.toInt e22).trans e1
  have oth : OTH X Γ h0 H0 H21 := OTH.ne oth U21 g0
  have m24 : (sI H21 h0 (X.1.2 6 2)).toInt = (sI H0 h0 (X.1.2 6 2)).toInt := congrArg Int32.toInt (up_nI U21 (ne_f E 6 2 1 rfl (by decide) (by decide) (by decide)))
  have uu1 := U21
  refine lv_aload_n hx hb dX6_become_5 rfl (lv_at hl 0 rfl) ?_
  refine lv_iload_n hx hb dX6_become_6 rfl (lv_at hl 2 rfl) ?_
  refine q_put E hC21 hS21 g0 fp_RX6_15 (tv_I e2 (by omega) (by omega)) rfl rfl dX6_become_7 (fun H25 locs25 hC25 hS25 U25 => ?_)
  have hKp25 := Kp.upO E g0 fp_RX6_15 rfl U25 hKp21
  have e26 := up_I U25
  have m27 : (sI H25 h0 (X.1.2 6 2)).toInt = a2 := (congrArg Int32.toInt e26).trans e2
  have oth : OTH X Γ h0 H0 H25 := OTH.ne oth U25 g0
  have m28 : (sI H25 h0 (X.1.2 6 1)).toInt = (sI H21 h0 (X.1.2 6 1)).toInt := congrArg Int32.toInt (up_nI U25 (ne_f E 6 1 2 rfl (by decide) (by decide) (by decide)))
  have uu2 := U25
  refine lv_aload_n hx hb dX6_become_10 rfl (lv_at hl 0 rfl) ?_
  refine q_getR E hC25 g0 fa_RX6_9 dX6_become_11 (fun q29 eq29 gq29 => ?_)
  have eqn0 : sR H0 h0 (X.1.2 6 0) = some q29 := (((up_nR uu2 (ne_f E 6 0 2 rfl (by decide) (by decide) (by decide))).trans (up_nR uu1 (ne_f E 6 0 1 rfl (by decide) (by decide) (by decide)))).symm).trans eq29
  refine lv_lconst (v := 0) hx hb dX6_become_14 rfl ?_
  refine q_goV (q_runS (As := [.ref q29, .long 0]) (rest := []) E hS25 (m_fillJ l X Γ H25 hC25 q29 gq29 (by decide) rfl rfl (fun _ => rfl) (by decide) 0) cw_J7_fill_d0a16 cl_RX6_22 rfl hl.1 rfl (Nat.zero_le _) (by decide) dX6_become_15) hS25 (fun H30 locs30 U30 hC30 hS30 => ?_)
  obtain ⟨U30, F30⟩ := U30
  have hKp30 := Kp.upC gq29 rfl (by decide) rfl U30 hKp25
  have oth : OTH X Γ h0 H0 H30 := OTH.cp oth U30 gq29 (by decide)
  have mm1 : (sI H30 h0 (X.1.2 6 2)).toInt = a2 := (congrArg Int32.toInt (cp_I (j := (X.1.2 6 2)) U30 (nek g0 gq29 (by decide)))).trans (by omega)
  have mm2 : (sI H30 h0 (X.1.2 6 1)).toInt = a1 := (congrArg Int32.toInt (cp_I (j := (X.1.2 6 1)) U30 (nek g0 gq29 (by decide)))).trans (by omega)
  have hnb : ∀ q, sR H0 h0 (X.1.2 6 0) = some q → (∀ j : Nat, j < 60 → sJ H30 q j = 0) ∧ ∀ a j : Nat, Γ a = some 24 → a ≠ q → sJ H30 a j = sJ H0 a j := fun q hq => by cases Option.some.inj (eqn0.symm.trans hq); exact ⟨F30, fun a j ga hne => (cp_J U30 hne).trans ((up_nJ uu2 (fun hh => absurd hh.1 (nek ga g0 (by decide)))).trans (up_nJ uu1 (fun hh => absurd hh.1 (nek ga g0 (by decide)))))⟩
  exact ret H30 locs30 _ _ dX6_become_18 ⟨hKp30, ⟨by omega, by omega, oth, hnb⟩⟩ hC30 hS30
set_option maxRecDepth 100000 in
set_option maxHeartbeats 4000000 in
theorem m_X11_grant (l : Launch) (X : xW) (Γ : Nat → Option Nat) (H0 : Heap) (hC0 : Conf X Γ H0) (h0 : Nat) (g0 : Γ h0 = some 0) : Ctr l X Γ yX11_grant cX11_grant 1 (some .boolean) 0 [.ref h0] H0 (QI X Γ (fun v H1 => Kp X Γ [0, 2, 3, 4, 5, 18, 21, 23, 25, 27, 29, 31, 32, 33, 34, 37, 39, 40, 41] H0 H1 ∧ ((v = 1 ∧ (True)) ∨ (v = 0 ∧ ((0 : Int) = 1))))) := by
  refine q_enterZ (own := "SnowForts") (by decide) rfl (Nat.le_of_ble_eq_true rfl) ?_
  intro p e s m args below meth c ls Qz E hl ret hS0
  have hx := E.1; have hb := E.2.1
  have hKp0 : Kp X Γ [0, 2, 3, 4, 5, 18, 21, 23, 25, 27, 29, 31, 32, 33, 34, 37, 39, 40, 41] H0 H0 := Kp.rf
  have hl : lv_has ls 1 [(0, .ref h0)] := hl
  refine lv_aload_n hx hb dX11_grant_0 rfl (lv_at hl 0 rfl) ?_
  refine lv_iconst (v := 0) hx hb dX11_grant_1 rfl ?_
  refine q_put E hC0 hS0 g0 fp_RX11_102 tv_F rfl rfl dX11_grant_2 (fun H21 locs21 hC21 hS21 U21 => ?_)
  have hKp21 := Kp.upO E g0 fp_RX11_102 rfl U21 hKp0
  have e22 := up_I U21
  refine lv_iconst (v := 1) hx hb dX11_grant_5 rfl ?_
  exact ret 1 H21 locs21 _ _ dX11_grant_6 (Or.inr rfl) ⟨hKp21, Or.inl ⟨rfl, trivial⟩⟩ hC21 hS21
set_option maxRecDepth 100000 in
set_option maxHeartbeats 4000000 in
theorem m_X11_tray (l : Launch) (X : xW) (Γ : Nat → Option Nat) (H0 : Heap) (hC0 : Conf X Γ H0) (h0 : Nat) (g0 : Γ h0 = some 0) (p1 : Int32) {a1 : Int} (e1 : p1.toInt = a1) (p2 : Int32) {a2 : Int} (e2 : p2.toInt = a2) (p3 : Int32) {a3 : Int} (e3 : p3.toInt = a3) (ta : Nat) (td nd : Nat → Nat) (sh : SHP X Γ H0 h0 ta td nd) : Ctr l X Γ yX11_tray cX11_tray 4 (some .boolean) 2 [.ref h0, .int p1, .int p2, .int p3] H0 (QI X Γ (fun v H1 => Kp X Γ [0, 3, 4, 5, 18, 25, 27, 29, 31, 32, 33, 34, 37, 39, 40, 41] H0 H1 ∧ (((0 ≤ a1 ∧ a1 ≤ 3 ∧ 0 ≤ a2 ∧ a2 ≤ 3 ∧ 0 ≤ a3 ∧ a3 ≤ 60 ∧ v.toInt = 1 ∧ TSt X td H0 H1 a1 a3 a2 ∧ NZr (nC nd H0) (nC nd H1) a1 a3) ∨ ((a1 < 0 ∨ 3 < a1 ∨ a2 < 0 ∨ 3 < a2 ∨ a3 < 0 ∨ 60 < a3) ∧ v.toInt = 0 ∧ TSm X td H0 H1 ∧ NSm (nC nd H0) (nC nd H1)))))) := by
  refine q_enterZ (own := "SnowForts") (by decide) rfl (Nat.le_of_ble_eq_true rfl) ?_
  intro p e s m args below meth c ls Qz E hl ret hS0
  have hx := E.1; have hb := E.2.1
  have hKp0 : Kp X Γ [0, 3, 4, 5, 18, 25, 27, 29, 31, 32, 33, 34, 37, 39, 40, 41] H0 H0 := Kp.rf
  have hl : lv_has ls 4 [(0, .ref h0), (1, .int p1), (2, .int p2), (3, .int p3)] := hl
  have tsm : TSm X td H0 H0 := TSm.rf
  have ncs : NSm (nC nd H0) (nC nd H0) := NSm.rf
  refine lv_iload_n hx hb dX11_tray_0 rfl (lv_at hl 1 rfl) ?_
  refine q_goIp (q_runS (As := [.int p1]) (rest := []) E hS0 (m_X11_isTray l X Γ H0 hC0 p1 (a0 := a1) e1) cw_X11_isTray cl_RX11_117 rfl hl.1 rfl (Nat.zero_le _) (by decide) dX11_tray_1) hS0 (fun v21 locs21 hr21 hS21 => ?_)
  rcases hr21 with ⟨rfl, f21a0, f21a1⟩ | ⟨rfl, f21b⟩
  · refine q_if_eq hx hb (a := 1) (by decide) (tgt := 17) dX11_tray_4 rfl (fun c22 => absurd c22 (by omega)) (fun c22 => ?_)
    refine lv_iload_n hx hb dX11_tray_7 rfl (lv_at hl 2 rfl) ?_
    refine lv_i2l (v := p2.toInt64) hx hb dX11_tray_8 rfl (lv_topl (fun v23 ev23 => ?_))
    have ev23i : v23.toInt = a2 := l_ofi ev23.symm e2
    refine lv_iconst (v := 0) hx hb dX11_tray_9 rfl ?_
    refine lv_iconst (v := 3) hx hb dX11_tray_10 rfl ?_
    refine q_goIp (q_runS (As := [.long v23, .int 0, .int 3]) (rest := []) E hS21 (m_X11_isWithin l X Γ H0 hC0 v23 (a0 := a2) ev23i 0 (a1 := 0) (by decide) 3 (a2 := 3) (by decide)) cw_X11_isWithin cl_RX11_113 rfl hl.1 rfl (Nat.zero_le _) (by decide) dX11_tray_11) hS21 (fun v24 locs24 hr24 hS24 => ?_)
    rcases hr24 with ⟨rfl, f24a0, f24a1⟩ | ⟨rfl, f24b⟩
    · refine q_if_ne hx hb (a := 1) (by decide) (tgt := 23) dX11_tray_14 rfl (fun c25 => ?_) (fun c25 => absurd c25 (by omega))
      refine lv_iload_n hx hb dX11_tray_23 rfl (lv_at hl 3 rfl) ?_
      refine lv_bipush (v := 60) hx hb dX11_tray_24 rfl ?_
      refine q_icmp_le hx hb (a := a3) (b := 60) e3 (by decide) (tgt := 35) dX11_tray_26 rfl (fun c26 => ?_) (fun c26 => ?_)
      · refine lv_iload_n hx hb dX11_tray_35 rfl (lv_at hl 3 rfl) ?_
        refine q_if_ge hx hb (a := a3) e3 (tgt := 46) dX11_tray_36 rfl (fun c27 => ?_) (fun c27 => ?_)
        · refine lv_aload_n hx hb dX11_tray_46 rfl (lv_at hl 0 rfl) ?_
          refine q_getS E hC0 g0 fa_RX11_10 sh.2.1 dX11_tray_47 (fun _ => ?_)
          refine lv_iload_n hx hb dX11_tray_50 rfl (lv_at hl 1 rfl) ?_
          refine q_aaldS E hC0 sh.1 rfl rfl (fun _ => rfl) (C := "SnowForts$Tray") rfl (z := a1) e1 (by omega) (by omega) ((sh.2.2.1 _ (by omega)).1) dX11_tray_51 (fun g28 => ?_)
          refine lv_iload_n hx hb dX11_tray_52 rfl (lv_at hl 2 rfl) ?_
          refine lv_iload_n hx hb dX11_tray_53 rfl (lv_at hl 3 rfl) ?_
          refine q_goV (q_runV (As := [.int p2, .int p3]) (rest := []) E hC0 hS24 (m_X6_become l X Γ H0 hC0 (td (a1 : Int).toNat) g28 p2 (a1 := a2) e2 p3 (a2 := a3) e3 (by omega) (by omega)) cw_X6_become cl_RX11_131 g28 ⟨rfl, rfl⟩ rfl hl.1 rfl (Nat.zero_le _) (by decide) dX11_tray_54) hS24 (fun H29 locs29 hr29 hC29 hS29 => ?_)
          obtain ⟨hp29, hr29⟩ := hr29
          have hKp29 := hKp0.tr (hp29.mono rfl)
          obtain ⟨f29_0, f29_1, f29_2, f29_3⟩ := hr29
          have tst : TSt X td H0 H29 a1 a3 a2 := TSt.mk sh (z := (a1 : Int).toNat) (by omega) (by omega) f29_0 f29_1 f29_2
          have nzr : NZr (nC nd H0) (nC nd H29) a1 a3 := nC_zr sh (z := (a1 : Int).toNat) (by omega) (by omega) (f29_3 _ ((sh.2.2.2.2.1 _ (by omega)).1)).1 (f29_3 _ ((sh.2.2.2.2.1 _ (by omega)).1)).2
          refine lv_aload_n hx hb dX11_tray_57 rfl (lv_at hl 0 rfl) ?_
          refine q_goI (q_runV (As := []) (rest := []) E hC29 hS29 (m_X11_grant l X Γ H29 hC29 h0 g0) cw_X11_grant cl_RX11_135 g0 ⟨rfl, rfl⟩ rfl hl.1 rfl (Nat.zero_le _) (by decide) dX11_tray_58) hS29 (fun v30 H30 locs30 hr30 hC30 hS30 => ?_)
          obtain ⟨hp30, hr30⟩ := hr30
          have hKp30 := hKp29.tr (hp30.mono rfl)
          have tst : TSt X td H0 H30 a1 a3 a2 := TSt.kp tst hp30 sh rfl
          have nzr : NZr (nC nd H0) (nC nd H30) a1 a3 := NZr.sm nzr (nC_kp NSm.rf hp30 sh rfl)
          rcases hr30 with ⟨rfl, -⟩ | ⟨rfl, f30b⟩
          · have hpost : (0 ≤ a1 ∧ a1 ≤ 3 ∧ 0 ≤ a2 ∧ a2 ≤ 3 ∧ 0 ≤ a3 ∧ a3 ≤ 60 ∧ (1 : Int32).toInt = 1 ∧ TSt X td H0 H30 a1 a3 a2 ∧ NZr (nC nd H0) (nC nd H30) a1 a3) ∨ ((a1 < 0 ∨ 3 < a1 ∨ a2 < 0 ∨ 3 < a2 ∨ a3 < 0 ∨ 60 < a3) ∧ (1 : Int32).toInt = 0 ∧ TSm X td H0 H30 ∧ NSm (nC nd H0) (nC nd H30)) := Or.inl ⟨by omega, by omega, by omega, by omega, by omega, by omega, by decide, tst, nzr⟩
            have c31 : (1 : Int32).toInt = 1 := (by decide)
            exact ret 1 H30 locs30 _ _ dX11_tray_61 (Or.inr rfl) ⟨hKp30, hpost⟩ hC30 hS30
          · exact absurd f30b (by decide)
        · refine lv_aload_n hx hb dX11_tray_39 rfl (lv_at hl 0 rfl) ?_
          refine lv_bipush (v := 6) hx hb dX11_tray_40 rfl ?_
          refine q_goI (q_runV (As := [.int 6]) (rest := []) E hC0 hS24 (m_X11_deny l X Γ H0 hC0 h0 g0 6 (a1 := 6) (by decide)) cw_X11_deny cl_RX11_128 g0 ⟨rfl, rfl⟩ rfl hl.1 rfl (Nat.zero_le _) (by decide) dX11_tray_42) hS24 (fun v32 H32 locs32 hr32 hC32 hS32 => ?_)
          obtain ⟨hp32, hr32⟩ := hr32
          have hKp32 := hKp0.tr (hp32.mono rfl)
          have tsm : TSm X td H0 H32 := TSm.kp tsm hp32 sh rfl
          have ncs : NSm (nC nd H0) (nC nd H32) := nC_kp ncs hp32 sh rfl
          rcases hr32 with ⟨rfl, f32a⟩ | ⟨rfl, -⟩
          · exact absurd f32a (by decide)
          · have hpost : (0 ≤ a1 ∧ a1 ≤ 3 ∧ 0 ≤ a2 ∧ a2 ≤ 3 ∧ 0 ≤ a3 ∧ a3 ≤ 60 ∧ (0 : Int32).toInt = 1 ∧ TSt X td H0 H32 a1 a3 a2 ∧ NZr (nC nd H0) (nC nd H32) a1 a3) ∨ ((a1 < 0 ∨ 3 < a1 ∨ a2 < 0 ∨ 3 < a2 ∨ a3 < 0 ∨ 60 < a3) ∧ (0 : Int32).toInt = 0 ∧ TSm X td H0 H32 ∧ NSm (nC nd H0) (nC nd H32)) := Or.inr ⟨by omega, by decide, tsm, ncs⟩
            have c33 : (0 : Int32).toInt = 0 := (by decide)
            exact ret 0 H32 locs32 _ _ dX11_tray_45 (Or.inl rfl) ⟨hKp32, hpost⟩ hC32 hS32
      · refine lv_aload_n hx hb dX11_tray_29 rfl (lv_at hl 0 rfl) ?_
        refine lv_iconst (v := 5) hx hb dX11_tray_30 rfl ?_
        refine q_goI (q_runV (As := [.int 5]) (rest := []) E hC0 hS24 (m_X11_deny l X Γ H0 hC0 h0 g0 5 (a1 := 5) (by decide)) cw_X11_deny cl_RX11_128 g0 ⟨rfl, rfl⟩ rfl hl.1 rfl (Nat.zero_le _) (by decide) dX11_tray_31) hS24 (fun v34 H34 locs34 hr34 hC34 hS34 => ?_)
        obtain ⟨hp34, hr34⟩ := hr34
        have hKp34 := hKp0.tr (hp34.mono rfl)
        have tsm : TSm X td H0 H34 := TSm.kp tsm hp34 sh rfl
        have ncs : NSm (nC nd H0) (nC nd H34) := nC_kp ncs hp34 sh rfl
        rcases hr34 with ⟨rfl, f34a⟩ | ⟨rfl, -⟩
        · exact absurd f34a (by decide)
        · have hpost : (0 ≤ a1 ∧ a1 ≤ 3 ∧ 0 ≤ a2 ∧ a2 ≤ 3 ∧ 0 ≤ a3 ∧ a3 ≤ 60 ∧ (0 : Int32).toInt = 1 ∧ TSt X td H0 H34 a1 a3 a2 ∧ NZr (nC nd H0) (nC nd H34) a1 a3) ∨ ((a1 < 0 ∨ 3 < a1 ∨ a2 < 0 ∨ 3 < a2 ∨ a3 < 0 ∨ 60 < a3) ∧ (0 : Int32).toInt = 0 ∧ TSm X td H0 H34 ∧ NSm (nC nd H0) (nC nd H34)) := Or.inr ⟨by omega, by decide, tsm, ncs⟩
          have c35 : (0 : Int32).toInt = 0 := (by decide)
          exact ret 0 H34 locs34 _ _ dX11_tray_34 (Or.inl rfl) ⟨hKp34, hpost⟩ hC34 hS34
    · refine q_if_ne hx hb (a := 0) (by decide) (tgt := 23) dX11_tray_14 rfl (fun c36 => absurd c36 (by omega)) (fun c36 => ?_)
      refine lv_aload_n hx hb dX11_tray_17 rfl (lv_at hl 0 rfl) ?_
      refine lv_iconst (v := 1) hx hb dX11_tray_18 rfl ?_
      refine q_goI (q_runV (As := [.int 1]) (rest := []) E hC0 hS24 (m_X11_deny l X Γ H0 hC0 h0 g0 1 (a1 := 1) (by decide)) cw_X11_deny cl_RX11_128 g0 ⟨rfl, rfl⟩ rfl hl.1 rfl (Nat.zero_le _) (by decide) dX11_tray_19) hS24 (fun v37 H37 locs37 hr37 hC37 hS37 => ?_)
      obtain ⟨hp37, hr37⟩ := hr37
      have hKp37 := hKp0.tr (hp37.mono rfl)
      have tsm : TSm X td H0 H37 := TSm.kp tsm hp37 sh rfl
      have ncs : NSm (nC nd H0) (nC nd H37) := nC_kp ncs hp37 sh rfl
      rcases hr37 with ⟨rfl, f37a⟩ | ⟨rfl, -⟩
      · exact absurd f37a (by decide)
      · have hpost : (0 ≤ a1 ∧ a1 ≤ 3 ∧ 0 ≤ a2 ∧ a2 ≤ 3 ∧ 0 ≤ a3 ∧ a3 ≤ 60 ∧ (0 : Int32).toInt = 1 ∧ TSt X td H0 H37 a1 a3 a2 ∧ NZr (nC nd H0) (nC nd H37) a1 a3) ∨ ((a1 < 0 ∨ 3 < a1 ∨ a2 < 0 ∨ 3 < a2 ∨ a3 < 0 ∨ 60 < a3) ∧ (0 : Int32).toInt = 0 ∧ TSm X td H0 H37 ∧ NSm (nC nd H0) (nC nd H37)) := Or.inr ⟨by omega, by decide, tsm, ncs⟩
        have c38 : (0 : Int32).toInt = 0 := (by decide)
        exact ret 0 H37 locs37 _ _ dX11_tray_22 (Or.inl rfl) ⟨hKp37, hpost⟩ hC37 hS37
  · refine q_if_eq hx hb (a := 0) (by decide) (tgt := 17) dX11_tray_4 rfl (fun c39 => ?_) (fun c39 => absurd c39 (by omega))
    refine lv_aload_n hx hb dX11_tray_17 rfl (lv_at hl 0 rfl) ?_
    refine lv_iconst (v := 1) hx hb dX11_tray_18 rfl ?_
    refine q_goI (q_runV (As := [.int 1]) (rest := []) E hC0 hS21 (m_X11_deny l X Γ H0 hC0 h0 g0 1 (a1 := 1) (by decide)) cw_X11_deny cl_RX11_128 g0 ⟨rfl, rfl⟩ rfl hl.1 rfl (Nat.zero_le _) (by decide) dX11_tray_19) hS21 (fun v40 H40 locs40 hr40 hC40 hS40 => ?_)
    obtain ⟨hp40, hr40⟩ := hr40
    have hKp40 := hKp0.tr (hp40.mono rfl)
    have tsm : TSm X td H0 H40 := TSm.kp tsm hp40 sh rfl
    have ncs : NSm (nC nd H0) (nC nd H40) := nC_kp ncs hp40 sh rfl
    rcases hr40 with ⟨rfl, f40a⟩ | ⟨rfl, -⟩
    · exact absurd f40a (by decide)
    · have hpost : (0 ≤ a1 ∧ a1 ≤ 3 ∧ 0 ≤ a2 ∧ a2 ≤ 3 ∧ 0 ≤ a3 ∧ a3 ≤ 60 ∧ (0 : Int32).toInt = 1 ∧ TSt X td H0 H40 a1 a3 a2 ∧ NZr (nC nd H0) (nC nd H40) a1 a3) ∨ ((a1 < 0 ∨ 3 < a1 ∨ a2 < 0 ∨ 3 < a2 ∨ a3 < 0 ∨ 60 < a3) ∧ (0 : Int32).toInt = 0 ∧ TSm X td H0 H40 ∧ NSm (nC nd H0) (nC nd H40)) := Or.inr ⟨by omega, by decide, tsm, ncs⟩
      have c41 : (0 : Int32).toInt = 0 := (by decide)
      exact ret 0 H40 locs40 _ _ dX11_tray_22 (Or.inl rfl) ⟨hKp40, hpost⟩ hC40 hS40
set_option maxRecDepth 100000 in
set_option maxHeartbeats 4000000 in
theorem m_X6_isMissing (l : Launch) (X : xW) (Γ : Nat → Option Nat) (H0 : Heap) (hC0 : Conf X Γ H0) (h0 : Nat) (g0 : Γ h0 = some 1) : Ctr l X Γ yX6_isMissing cX6_isMissing 1 (some .boolean) 0 [.ref h0] H0 (QI X Γ (fun v H1 => H1 = H0 ∧ ((v = 1 ∧ ((sI H0 h0 (X.1.2 6 2)).toInt < 0)) ∨ (v = 0 ∧ (0 ≤ (sI H0 h0 (X.1.2 6 2)).toInt))))) := by
  refine q_enterZ (own := "SnowForts$Tray") (by decide) rfl (Nat.le_of_ble_eq_true rfl) ?_
  intro p e s m args below meth c ls Qz E hl ret hS0
  have hx := E.1; have hb := E.2.1
  have hl : lv_has ls 1 [(0, .ref h0)] := hl
  have hz1 := f_bd hC0 g0 (ci := 6) (k := 2) rfl rfl
  refine lv_aload_n hx hb dX6_isMissing_0 rfl (lv_at hl 0 rfl) ?_
  refine q_getI E hC0 g0 fa_RX6_15 dX6_isMissing_1 (fun v21 ev21 lv21 uv21 => ?_)
  have m22 : (sI H0 h0 (X.1.2 6 2)).toInt = v21.toInt := (congrArg Int32.toInt ev21).trans rfl
  refine q_if_ge hx hb (a := v21.toInt) rfl (tgt := 11) dX6_isMissing_4 rfl (fun c23 => ?_) (fun c23 => ?_)
  · refine lv_iconst (v := 0) hx hb dX6_isMissing_11 rfl ?_
    exact ret 0 H0 [] _ _ dX6_isMissing_12 (Or.inl rfl) ⟨rfl, Or.inr ⟨rfl, by omega⟩⟩ hC0 hS0
  · refine lv_iconst (v := 1) hx hb dX6_isMissing_7 rfl ?_
    refine lv_goto (tgt := 12) hx hb dX6_isMissing_8 rfl ?_
    exact ret 1 H0 [] _ _ dX6_isMissing_12 (Or.inr rfl) ⟨rfl, Or.inl ⟨rfl, by omega⟩⟩ hC0 hS0
set_option maxRecDepth 100000 in
set_option maxHeartbeats 4000000 in
theorem m_X6_hasPlace (l : Launch) (X : xW) (Γ : Nat → Option Nat) (H0 : Heap) (hC0 : Conf X Γ H0) (h0 : Nat) (g0 : Γ h0 = some 1) (p1 : Int32) {a1 : Int} (e1 : p1.toInt = a1) : Ctr l X Γ yX6_hasPlace cX6_hasPlace 2 (some .boolean) 0 [.ref h0, .int p1] H0 (QI X Γ (fun v H1 => H1 = H0 ∧ ((v = 1 ∧ (0 ≤ a1 ∧ a1 ≤ 59 ∧ a1 < (sI H0 h0 (X.1.2 6 2)).toInt)) ∨ (v = 0 ∧ (a1 < 0 ∨ (sI H0 h0 (X.1.2 6 2)).toInt ≤ a1))))) := by
  refine q_enterZ (own := "SnowForts$Tray") (by decide) rfl (Nat.le_of_ble_eq_true rfl) ?_
  intro p e s m args below meth c ls Qz E hl ret hS0
  have hx := E.1; have hb := E.2.1
  have hl : lv_has ls 2 [(0, .ref h0), (1, .int p1)] := hl
  have hz1 := f_bd hC0 g0 (ci := 6) (k := 2) rfl rfl
  refine lv_iload_n hx hb dX6_hasPlace_0 rfl (lv_at hl 1 rfl) ?_
  refine q_if_lt hx hb (a := a1) e1 (tgt := 22) dX6_hasPlace_1 rfl (fun c21 => ?_) (fun c21 => ?_)
  · refine lv_iconst (v := 0) hx hb dX6_hasPlace_22 rfl ?_
    exact ret 0 H0 [] _ _ dX6_hasPlace_23 (Or.inl rfl) ⟨rfl, Or.inr ⟨rfl, by omega⟩⟩ hC0 hS0
  · refine lv_iload_n hx hb dX6_hasPlace_4 rfl (lv_at hl 1 rfl) ?_
    refine lv_aload_n hx hb dX6_hasPlace_5 rfl (lv_at hl 0 rfl) ?_
    refine q_getI E hC0 g0 fa_RX6_15 dX6_hasPlace_6 (fun v22 ev22 lv22 uv22 => ?_)
    have m23 : (sI H0 h0 (X.1.2 6 2)).toInt = v22.toInt := (congrArg Int32.toInt ev22).trans rfl
    refine q_icmp_ge hx hb (a := a1) (b := v22.toInt) e1 rfl (tgt := 22) dX6_hasPlace_9 rfl (fun c24 => ?_) (fun c24 => ?_)
    · refine lv_iconst (v := 0) hx hb dX6_hasPlace_22 rfl ?_
      exact ret 0 H0 [] _ _ dX6_hasPlace_23 (Or.inl rfl) ⟨rfl, Or.inr ⟨rfl, by omega⟩⟩ hC0 hS0
    · refine lv_iload_n hx hb dX6_hasPlace_12 rfl (lv_at hl 1 rfl) ?_
      refine lv_bipush (v := 60) hx hb dX6_hasPlace_13 rfl ?_
      refine q_icmp_ge hx hb (a := a1) (b := 60) e1 (by decide) (tgt := 22) dX6_hasPlace_15 rfl (fun c25 => absurd c25 (by omega)) (fun c25 => ?_)
      refine lv_iconst (v := 1) hx hb dX6_hasPlace_18 rfl ?_
      refine lv_goto (tgt := 23) hx hb dX6_hasPlace_19 rfl ?_
      exact ret 1 H0 [] _ _ dX6_hasPlace_23 (Or.inr rfl) ⟨rfl, Or.inl ⟨rfl, by omega, by omega, by omega⟩⟩ hC0 hS0
set_option maxRecDepth 100000 in
set_option maxHeartbeats 4000000 in
theorem m_X11_whyNotPlace (l : Launch) (X : xW) (Γ : Nat → Option Nat) (H0 : Heap) (hC0 : Conf X Γ H0) (h0 : Nat) (g0 : Γ h0 = some 0) (p1 : Int32) {a1 : Int} (e1 : p1.toInt = a1) (p2 : Int32) {a2 : Int} (e2 : p2.toInt = a2) (ta : Nat) (td nd : Nat → Nat) (sh : SHP X Γ H0 h0 ta td nd) : Ctr l X Γ yX11_whyNotPlace cX11_whyNotPlace 3 (some .int) 2 [.ref h0, .int p1, .int p2] H0 (QI X Γ (fun v H1 => H1 = H0 ∧ (((v.toInt = 1 ∧ (a1 < 0 ∨ 3 < a1)) ∨ (v.toInt = 3 ∧ 0 ≤ a1 ∧ a1 ≤ 3 ∧ (sI H0 (td (a1 : Int).toNat) (X.1.2 6 2)).toInt < 0) ∨ (v.toInt = 4 ∧ 0 ≤ a1 ∧ a1 ≤ 3 ∧ 0 ≤ (sI H0 (td (a1 : Int).toNat) (X.1.2 6 2)).toInt ∧ (a2 < 0 ∨ (sI H0 (td (a1 : Int).toNat) (X.1.2 6 2)).toInt ≤ a2)) ∨ (v.toInt = 0 ∧ 0 ≤ a1 ∧ a1 ≤ 3 ∧ 0 ≤ a2 ∧ a2 < (sI H0 (td (a1 : Int).toNat) (X.1.2 6 2)).toInt))))) := by
  refine q_enterI (own := "SnowForts") (by decide) rfl (Nat.le_of_ble_eq_true rfl) ?_
  intro p e s m args below meth c ls Qz E hl ret hS0
  have hx := E.1; have hb := E.2.1
  have hl : lv_has ls 3 [(0, .ref h0), (1, .int p1), (2, .int p2)] := hl
  refine lv_iload_n hx hb dX11_whyNotPlace_0 rfl (lv_at hl 1 rfl) ?_
  refine q_goIp (q_runS (As := [.int p1]) (rest := []) E hS0 (m_X11_isTray l X Γ H0 hC0 p1 (a0 := a1) e1) cw_X11_isTray cl_RX11_117 rfl hl.1 rfl (Nat.zero_le _) (by decide) dX11_whyNotPlace_1) hS0 (fun v21 locs21 hr21 hS21 => ?_)
  rcases hr21 with ⟨rfl, f21a0, f21a1⟩ | ⟨rfl, f21b⟩
  · refine q_if_ne hx hb (a := 1) (by decide) (tgt := 9) dX11_whyNotPlace_4 rfl (fun c22 => ?_) (fun c22 => absurd c22 (by omega))
    refine lv_aload_n hx hb dX11_whyNotPlace_9 rfl (lv_at hl 0 rfl) ?_
    refine q_getS E hC0 g0 fa_RX11_10 sh.2.1 dX11_whyNotPlace_10 (fun _ => ?_)
    refine lv_iload_n hx hb dX11_whyNotPlace_13 rfl (lv_at hl 1 rfl) ?_
    refine q_aaldS E hC0 sh.1 rfl rfl (fun _ => rfl) (C := "SnowForts$Tray") rfl (z := a1) e1 (by omega) (by omega) ((sh.2.2.1 _ (by omega)).1) dX11_whyNotPlace_14 (fun g23 => ?_)
    refine q_goIp (q_runV (As := []) (rest := []) E hC0 hS21 (m_X6_isMissing l X Γ H0 hC0 (td (a1 : Int).toNat) g23) cw_X6_isMissing cl_RX11_121 g23 ⟨rfl, rfl⟩ rfl hl.1 rfl (Nat.zero_le _) (by decide) dX11_whyNotPlace_15) hS21 (fun v24 locs24 hr24 hS24 => ?_)
    rcases hr24 with ⟨rfl, f24a⟩ | ⟨rfl, f24b⟩
    · refine q_if_eq hx hb (a := 1) (by decide) (tgt := 23) dX11_whyNotPlace_18 rfl (fun c25 => absurd c25 (by omega)) (fun c25 => ?_)
      refine lv_iconst (v := 3) hx hb dX11_whyNotPlace_21 rfl ?_
      have c26 : (3 : Int32).toInt = 3 := (by decide)
      exact ret 3 H0 locs24 _ _ dX11_whyNotPlace_22 ⟨rfl, by omega⟩ hC0 hS24
    · refine q_if_eq hx hb (a := 0) (by decide) (tgt := 23) dX11_whyNotPlace_18 rfl (fun c27 => ?_) (fun c27 => absurd c27 (by omega))
      refine lv_aload_n hx hb dX11_whyNotPlace_23 rfl (lv_at hl 0 rfl) ?_
      refine q_getS E hC0 g0 fa_RX11_10 sh.2.1 dX11_whyNotPlace_24 (fun _ => ?_)
      refine lv_iload_n hx hb dX11_whyNotPlace_27 rfl (lv_at hl 1 rfl) ?_
      refine q_aaldS E hC0 sh.1 rfl rfl (fun _ => rfl) (C := "SnowForts$Tray") rfl (z := a1) e1 (by omega) (by omega) ((sh.2.2.1 _ (by omega)).1) dX11_whyNotPlace_28 (fun g28 => ?_)
      refine lv_iload_n hx hb dX11_whyNotPlace_29 rfl (lv_at hl 2 rfl) ?_
      refine q_goIp (q_runV (As := [.int p2]) (rest := []) E hC0 hS24 (m_X6_hasPlace l X Γ H0 hC0 (td (a1 : Int).toNat) g28 p2 (a1 := a2) e2) cw_X6_hasPlace cl_RX11_125 g28 ⟨rfl, rfl⟩ rfl hl.1 rfl (Nat.zero_le _) (by decide) dX11_whyNotPlace_30) hS24 (fun v29 locs29 hr29 hS29 => ?_)
      rcases hr29 with ⟨rfl, f29a0, f29a1, f29a2⟩ | ⟨rfl, f29b⟩
      · refine q_if_eq hx hb (a := 1) (by decide) (tgt := 40) dX11_whyNotPlace_33 rfl (fun c30 => absurd c30 (by omega)) (fun c30 => ?_)
        refine lv_iconst (v := 0) hx hb dX11_whyNotPlace_36 rfl ?_
        refine lv_goto (tgt := 41) hx hb dX11_whyNotPlace_37 rfl ?_
        have c31 : (0 : Int32).toInt = 0 := (by decide)
        exact ret 0 H0 locs29 _ _ dX11_whyNotPlace_41 ⟨rfl, by omega⟩ hC0 hS29
      · refine q_if_eq hx hb (a := 0) (by decide) (tgt := 40) dX11_whyNotPlace_33 rfl (fun c32 => ?_) (fun c32 => absurd c32 (by omega))
        refine lv_iconst (v := 4) hx hb dX11_whyNotPlace_40 rfl ?_
        have c33 : (4 : Int32).toInt = 4 := (by decide)
        exact ret 4 H0 locs29 _ _ dX11_whyNotPlace_41 ⟨rfl, by omega⟩ hC0 hS29
  · refine q_if_ne hx hb (a := 0) (by decide) (tgt := 9) dX11_whyNotPlace_4 rfl (fun c34 => absurd c34 (by omega)) (fun c34 => ?_)
    refine lv_iconst (v := 1) hx hb dX11_whyNotPlace_7 rfl ?_
    have c35 : (1 : Int32).toInt = 1 := (by decide)
    exact ret 1 H0 locs21 _ _ dX11_whyNotPlace_8 ⟨rfl, by omega⟩ hC0 hS21
set_option maxRecDepth 100000 in
set_option maxHeartbeats 4000000 in
theorem m_X6_cut (l : Launch) (X : xW) (Γ : Nat → Option Nat) (H0 : Heap) (hC0 : Conf X Γ H0) (h0 : Nat) (g0 : Γ h0 = some 1) (p1 : Int64) {a1 : Int} (e1 : p1.toInt = a1) : Ctr l X Γ yX6_cut cX6_cut 3 (some .long) 0 [.ref h0, .long p1] H0 (QJ X Γ (fun v H1 => H1 = H0 ∧ ((v = cutJ (sI H0 h0 (X.1.2 6 1)).toInt p1)))) := by
  refine q_enterJ (own := "SnowForts$Tray") (by decide) rfl (Nat.le_of_ble_eq_true rfl) ?_
  intro p e s m args below meth c ls Qz E hl ret hS0
  have hx := E.1; have hb := E.2.1
  have hl : lv_has ls 3 [(0, .ref h0), (1, .long p1)] := hl
  refine lv_aload_n hx hb dX6_cut_0 rfl (lv_at hl 0 rfl) ?_
  refine q_getI E hC0 g0 fa_RX6_19 dX6_cut_1 (fun v21 ev21 _ _ => ?_)
  have m22 : (sI H0 h0 (X.1.2 6 1)).toInt = v21.toInt := (congrArg Int32.toInt ev21).trans rfl
  by_cases c23_0 : v21.toInt = 0
  · have c23_x := (show v21.toInt = v21.toInt from rfl).trans c23_0
    refine lv_tableIn hx hb dX6_cut_4 (by rw [c23_x]; decide) (by rw [c23_x]; decide) (off := 28) (by rw [c23_x]; rfl) (tgt := 32) rfl ?_
    refine lv_lload_n hx hb dX6_cut_32 rfl (lv_at hl 1 rfl) ?_
    refine lv_l2i hx hb dX6_cut_33 rfl (lv_topi (fun v24 ev24 => ?_))
    refine lv_i2b hx hb dX6_cut_34 rfl (lv_topi (fun v25 ev25 => ?_))
    refine lv_i2l (v := v25.toInt64) hx hb dX6_cut_35 rfl (lv_topl (fun v26 ev26 => ?_))
    have ev26i : v26.toInt = v25.toInt := l_ofi ev26.symm rfl
    have hcut : v26 = cutJ (sI H0 h0 (X.1.2 6 1)).toInt p1 := by unfold cutJ; (repeat' split) <;> first | omega | (subst_vars; rfl)
    exact ret v26 H0 [] _ _ dX6_cut_36 ⟨rfl, hcut⟩ hC0 hS0
  by_cases c23_1 : v21.toInt = 1
  · have c23_x := (show v21.toInt = v21.toInt from rfl).trans c23_1
    refine lv_tableIn hx hb dX6_cut_4 (by rw [c23_x]; decide) (by rw [c23_x]; decide) (off := 33) (by rw [c23_x]; rfl) (tgt := 37) rfl ?_
    refine lv_lload_n hx hb dX6_cut_37 rfl (lv_at hl 1 rfl) ?_
    refine lv_l2i hx hb dX6_cut_38 rfl (lv_topi (fun v27 ev27 => ?_))
    refine lv_i2s hx hb dX6_cut_39 rfl (lv_topi (fun v28 ev28 => ?_))
    refine lv_i2l (v := v28.toInt64) hx hb dX6_cut_40 rfl (lv_topl (fun v29 ev29 => ?_))
    have ev29i : v29.toInt = v28.toInt := l_ofi ev29.symm rfl
    have hcut : v29 = cutJ (sI H0 h0 (X.1.2 6 1)).toInt p1 := by unfold cutJ; (repeat' split) <;> first | omega | (subst_vars; rfl)
    exact ret v29 H0 [] _ _ dX6_cut_41 ⟨rfl, hcut⟩ hC0 hS0
  by_cases c23_2 : v21.toInt = 2
  · have c23_x := (show v21.toInt = v21.toInt from rfl).trans c23_2
    refine lv_tableIn hx hb dX6_cut_4 (by rw [c23_x]; decide) (by rw [c23_x]; decide) (off := 38) (by rw [c23_x]; rfl) (tgt := 42) rfl ?_
    refine lv_lload_n hx hb dX6_cut_42 rfl (lv_at hl 1 rfl) ?_
    refine lv_l2i hx hb dX6_cut_43 rfl (lv_topi (fun v30 ev30 => ?_))
    refine lv_i2l (v := v30.toInt64) hx hb dX6_cut_44 rfl (lv_topl (fun v31 ev31 => ?_))
    have ev31i : v31.toInt = v30.toInt := l_ofi ev31.symm rfl
    have hcut : v31 = cutJ (sI H0 h0 (X.1.2 6 1)).toInt p1 := by unfold cutJ; (repeat' split) <;> first | omega | (subst_vars; rfl)
    exact ret v31 H0 [] _ _ dX6_cut_45 ⟨rfl, hcut⟩ hC0 hS0
  refine lv_tableOut hx hb dX6_cut_4 (by rw [show v21.toInt = v21.toInt from rfl]; omega) (tgt := 46) rfl ?_
  refine lv_lload_n hx hb dX6_cut_46 rfl (lv_at hl 1 rfl) ?_
  have hcut : p1 = cutJ (sI H0 h0 (X.1.2 6 1)).toInt p1 := by unfold cutJ; (repeat' split) <;> first | omega | (subst_vars; rfl)
  exact ret p1 H0 [] _ _ dX6_cut_47 ⟨rfl, hcut⟩ hC0 hS0
set_option maxRecDepth 100000 in
set_option maxHeartbeats 4000000 in
theorem m_X6_put (l : Launch) (X : xW) (Γ : Nat → Option Nat) (H0 : Heap) (hC0 : Conf X Γ H0) (h0 : Nat) (g0 : Γ h0 = some 1) (p1 : Int32) {a1 : Int} (e1 : p1.toInt = a1) (p2 : Int64) {a2 : Int} (e2 : p2.toInt = a2) : Ctr l X Γ yX6_put cX6_put 4 none 1 [.ref h0, .int p1, .long p2] H0 (QV X Γ (fun H1 => Kp X Γ [0, 3, 4, 5, 18, 21, 25, 27, 29, 31, 32, 33, 34, 37, 39, 40, 41] H0 H1 ∧ ((0 ≤ a1 → a1 < (sI H0 h0 (X.1.2 6 2)).toInt → ∀ q, sR H0 h0 (X.1.2 6 0) = some q → NUp H0 H1 q (a1 : Int).toNat (cutJ (sI H0 h0 (X.1.2 6 1)).toInt p2))))) := by
  refine q_enterV (own := "SnowForts$Tray") (by decide) rfl (Nat.le_of_ble_eq_true rfl) ?_
  intro p e s m args below meth c ls Qz E hl ret hS0
  have hx := E.1; have hb := E.2.1
  have hKp0 : Kp X Γ [0, 3, 4, 5, 18, 21, 25, 27, 29, 31, 32, 33, 34, 37, 39, 40, 41] H0 H0 := Kp.rf
  have hl : lv_has ls 4 [(0, .ref h0), (1, .int p1), (2, .long p2)] := hl
  refine lv_aload_n hx hb dX6_put_0 rfl (lv_at hl 0 rfl) ?_
  refine lv_iload_n hx hb dX6_put_1 rfl (lv_at hl 1 rfl) ?_
  refine q_goIp (q_runV (As := [.int p1]) (rest := []) E hC0 hS0 (m_X6_hasPlace l X Γ H0 hC0 h0 g0 p1 (a1 := a1) e1) cw_X6_hasPlace cl_RX6_28 g0 ⟨rfl, rfl⟩ rfl hl.1 rfl (Nat.zero_le _) (by decide) dX6_put_2) hS0 (fun v21 locs21 hr21 hS21 => ?_)
  rcases hr21 with ⟨rfl, f21a0, f21a1, f21a2⟩ | ⟨rfl, f21b⟩
  · refine q_if_eq hx hb (a := 1) (by decide) (tgt := 19) dX6_put_5 rfl (fun c22 => absurd c22 (by omega)) (fun c22 => ?_)
    refine lv_aload_n hx hb dX6_put_8 rfl (lv_at hl 0 rfl) ?_
    refine q_getR E hC0 g0 fa_RX6_9 dX6_put_9 (fun q23 eq23 gq23 => ?_)
    have eqn := eq23
    refine lv_iload_n hx hb dX6_put_12 rfl (lv_at hl 1 rfl) ?_
    refine lv_aload_n hx hb dX6_put_13 rfl (lv_at hl 0 rfl) ?_
    refine lv_lload_n hx hb dX6_put_14 rfl (lv_at hl 2 rfl) ?_
    refine q_goJp (q_runV (As := [.long p2]) (rest := [.int p1, .ref q23]) E hC0 hS21 (m_X6_cut l X Γ H0 hC0 h0 g0 p2 (a1 := a2) e2) cw_X6_cut cl_RX6_32 g0 ⟨rfl, rfl⟩ rfl hl.1 rfl (show _ ≤ _ from by simp [Value.category]) (by decide) dX6_put_15) hS21 (fun v24 locs24 hr24 hS24 => ?_)
    have f24_0 := hr24
    have hcv := f24_0
    refine q_last2 E hC0 hS24 gq23 (by decide) rfl rfl (fun _ => rfl) (a := a1) e1 (by omega) (by omega) dX6_put_18 (fun H25 locs25 hC25 hS25 U25 => ?_)
    have hKp25 := Kp.upA gq23 rfl (by decide) rfl U25 hKp0
    have hnp0 : 0 ≤ a1 → a1 < (sI H0 h0 (X.1.2 6 2)).toInt → ∀ q, sR H0 h0 (X.1.2 6 0) = some q → NUp H0 H25 q (a1 : Int).toNat (cutJ (sI H0 h0 (X.1.2 6 1)).toInt p2) := fun _ _ q hq => by cases Option.some.inj (eqn.symm.trans hq); rw [← hcv]; exact NUp.mk U25
    have hnp : 0 ≤ a1 → a1 < (sI H0 h0 (X.1.2 6 2)).toInt → ∀ q, sR H0 h0 (X.1.2 6 0) = some q → NUp H0 H25 q (a1 : Int).toNat (cutJ (sI H0 h0 (X.1.2 6 1)).toInt p2) := by first | exact hnp0 | exact fun h1 h2 => absurd h2 (by omega)
    exact ret H25 locs25 _ _ dX6_put_19 ⟨hKp25, hnp⟩ hC25 hS25
  · refine q_if_eq hx hb (a := 0) (by decide) (tgt := 19) dX6_put_5 rfl (fun c26 => ?_) (fun c26 => absurd c26 (by omega))
    have hnp : 0 ≤ a1 → a1 < (sI H0 h0 (X.1.2 6 2)).toInt → ∀ q, sR H0 h0 (X.1.2 6 0) = some q → NUp H0 H0 q (a1 : Int).toNat (cutJ (sI H0 h0 (X.1.2 6 1)).toInt p2) := by first | exact hnp0 | exact fun h1 h2 => absurd h2 (by omega)
    exact ret H0 locs21 _ _ dX6_put_19 ⟨hKp0, hnp⟩ hC0 hS21
set_option maxRecDepth 100000 in
set_option maxHeartbeats 4000000 in
theorem m_X11_write (l : Launch) (X : xW) (Γ : Nat → Option Nat) (H0 : Heap) (hC0 : Conf X Γ H0) (h0 : Nat) (g0 : Γ h0 = some 0) (p1 : Int32) {a1 : Int} (e1 : p1.toInt = a1) (p2 : Int32) {a2 : Int} (e2 : p2.toInt = a2) (p3 : Int64) {a3 : Int} (e3 : p3.toInt = a3) (ta : Nat) (td nd : Nat → Nat) (sh : SHP X Γ H0 h0 ta td nd) : Ctr l X Γ yX11_write cX11_write 6 (some .boolean) 3 [.ref h0, .int p1, .int p2, .long p3] H0 (QI X Γ (fun v H1 => Kp X Γ [0, 3, 4, 5, 18, 21, 25, 27, 29, 31, 32, 33, 34, 37, 39, 40, 41] H0 H1 ∧ (((0 ≤ a1 ∧ a1 ≤ 3 ∧ 0 ≤ a2 ∧ a2 < (sI H0 (td (a1 : Int).toNat) (X.1.2 6 2)).toInt ∧ v.toInt = 1 ∧ NWr (nC nd H0) (nC nd H1) a1 a2 (cutJ (sI H0 (td (a1 : Int).toNat) (X.1.2 6 1)).toInt p3)) ∨ ((a1 < 0 ∨ 3 < a1 ∨ a2 < 0 ∨ (sI H0 (td (a1 : Int).toNat) (X.1.2 6 2)).toInt ≤ a2) ∧ v.toInt = 0 ∧ NSm (nC nd H0) (nC nd H1)))))) := by
  refine q_enterZ (own := "SnowForts") (by decide) rfl (Nat.le_of_ble_eq_true rfl) ?_
  intro p e s m args below meth c ls Qz E hl ret hS0
  have hx := E.1; have hb := E.2.1
  have hKp0 : Kp X Γ [0, 3, 4, 5, 18, 21, 25, 27, 29, 31, 32, 33, 34, 37, 39, 40, 41] H0 H0 := Kp.rf
  have hl : lv_has ls 6 [(0, .ref h0), (1, .int p1), (2, .int p2), (3, .long p3)] := hl
  have ncs : NSm (nC nd H0) (nC nd H0) := NSm.rf
  refine lv_aload_n hx hb dX11_write_0 rfl (lv_at hl 0 rfl) ?_
  refine lv_iload_n hx hb dX11_write_1 rfl (lv_at hl 1 rfl) ?_
  refine lv_iload_n hx hb dX11_write_2 rfl (lv_at hl 2 rfl) ?_
  refine q_goIp (q_runV (As := [.int p1, .int p2]) (rest := []) E hC0 hS0 (m_X11_whyNotPlace l X Γ H0 hC0 h0 g0 p1 (a1 := a1) e1 p2 (a2 := a2) e2 ta td nd sh) cw_X11_whyNotPlace cl_RX11_138 g0 ⟨rfl, rfl⟩ rfl hl.1 rfl (Nat.zero_le _) (by decide) dX11_write_3) hS0 (fun v21 locs21 hr21 hS21 => ?_)
  have f21_0 := hr21
  refine lv_istore hx hb dX11_write_6 hl (by decide) rfl (fun ls hl => ?_)
  have hl : lv_has ls 6 [(5, .int v21), (0, .ref h0), (1, .int p1), (2, .int p2), (3, .long p3)] := hl
  refine lv_iload hx hb dX11_write_8 (lv_at hl 0 rfl) ?_
  refine q_if_ne hx hb (a := v21.toInt) rfl (tgt := 20) dX11_write_10 rfl (fun c22 => ?_) (fun c22 => ?_)
  · refine lv_aload_n hx hb dX11_write_20 rfl (lv_at hl 1 rfl) ?_
    refine lv_iload hx hb dX11_write_21 (lv_at hl 0 rfl) ?_
    refine q_goI (q_runV (As := [.int v21]) (rest := []) E hC0 hS21 (m_X11_deny l X Γ H0 hC0 h0 g0 v21 (a1 := v21.toInt) rfl) cw_X11_deny cl_RX11_128 g0 ⟨rfl, rfl⟩ rfl hl.1 rfl (Nat.zero_le _) (by decide) dX11_write_23) hS21 (fun v23 H23 locs23 hr23 hC23 hS23 => ?_)
    obtain ⟨hp23, hr23⟩ := hr23
    have hKp23 := hKp0.tr (hp23.mono rfl)
    have ncs : NSm (nC nd H0) (nC nd H23) := nC_kp ncs hp23 sh rfl
    rcases hr23 with ⟨rfl, f23a⟩ | ⟨rfl, -⟩
    · exact absurd f23a (by decide)
    · have hpost : (0 ≤ a1 ∧ a1 ≤ 3 ∧ 0 ≤ a2 ∧ a2 < (sI H0 (td (a1 : Int).toNat) (X.1.2 6 2)).toInt ∧ (0 : Int32).toInt = 1 ∧ NWr (nC nd H0) (nC nd H23) a1 a2 (cutJ (sI H0 (td (a1 : Int).toNat) (X.1.2 6 1)).toInt p3)) ∨ ((a1 < 0 ∨ 3 < a1 ∨ a2 < 0 ∨ (sI H0 (td (a1 : Int).toNat) (X.1.2 6 2)).toInt ≤ a2) ∧ (0 : Int32).toInt = 0 ∧ NSm (nC nd H0) (nC nd H23)) := Or.inr ⟨by omega, by decide, ncs⟩
      have c24 : (0 : Int32).toInt = 0 := (by decide)
      exact ret 0 H23 locs23 _ _ dX11_write_26 (Or.inl rfl) ⟨hKp23, hpost⟩ hC23 hS23
  · refine lv_iload_n hx hb dX11_write_13 rfl (lv_at hl 2 rfl) ?_
    refine q_goIp (q_runS (As := [.int p1]) (rest := []) E hS21 (m_X11_isTray l X Γ H0 hC0 p1 (a0 := a1) e1) cw_X11_isTray cl_RX11_117 rfl hl.1 rfl (Nat.zero_le _) (by decide) dX11_write_14) hS21 (fun v25 locs25 hr25 hS25 => ?_)
    rcases hr25 with ⟨rfl, f25a0, f25a1⟩ | ⟨rfl, f25b⟩
    · refine q_if_ne hx hb (a := 1) (by decide) (tgt := 27) dX11_write_17 rfl (fun c26 => ?_) (fun c26 => absurd c26 (by omega))
      refine lv_aload_n hx hb dX11_write_27 rfl (lv_at hl 1 rfl) ?_
      refine q_getS E hC0 g0 fa_RX11_10 sh.2.1 dX11_write_28 (fun _ => ?_)
      refine lv_iload_n hx hb dX11_write_31 rfl (lv_at hl 2 rfl) ?_
      refine q_aaldS E hC0 sh.1 rfl rfl (fun _ => rfl) (C := "SnowForts$Tray") rfl (z := a1) e1 (by omega) (by omega) ((sh.2.2.1 _ (by omega)).1) dX11_write_32 (fun g27 => ?_)
      refine lv_iload_n hx hb dX11_write_33 rfl (lv_at hl 3 rfl) ?_
      refine lv_lload_n hx hb dX11_write_34 rfl (lv_at hl 4 rfl) ?_
      refine q_goV (q_runV (As := [.int p2, .long p3]) (rest := []) E hC0 hS25 (m_X6_put l X Γ H0 hC0 (td (a1 : Int).toNat) g27 p2 (a1 := a2) e2 p3 (a2 := a3) e3) cw_X6_put cl_RX11_142 g27 ⟨rfl, rfl⟩ rfl hl.1 rfl (Nat.zero_le _) (by decide) dX11_write_35) hS25 (fun H28 locs28 hr28 hC28 hS28 => ?_)
      obtain ⟨hp28, hr28⟩ := hr28
      have hKp28 := hKp0.tr (hp28.mono rfl)
      have f28_0 := hr28
      have nwr : NWr (nC nd H0) (nC nd H28) a1 a2 (cutJ (sI H0 (td (a1 : Int).toNat) (X.1.2 6 1)).toInt p3) := NUp.wr sh (z := (a1 : Int).toNat) (k := (a2 : Int).toNat) (by omega) (by omega) (by omega) (f28_0 (by omega) (by omega) _ ((sh.2.2.2.2.1 _ (by omega)).1))
      refine lv_aload_n hx hb dX11_write_38 rfl (lv_at hl 1 rfl) ?_
      refine q_goI (q_runV (As := []) (rest := []) E hC28 hS28 (m_X11_grant l X Γ H28 hC28 h0 g0) cw_X11_grant cl_RX11_135 g0 ⟨rfl, rfl⟩ rfl hl.1 rfl (Nat.zero_le _) (by decide) dX11_write_39) hS28 (fun v29 H29 locs29 hr29 hC29 hS29 => ?_)
      obtain ⟨hp29, hr29⟩ := hr29
      have hKp29 := hKp28.tr (hp29.mono rfl)
      have nwr : NWr (nC nd H0) (nC nd H29) a1 a2 (cutJ (sI H0 (td (a1 : Int).toNat) (X.1.2 6 1)).toInt p3) := NWr.sm nwr (nC_kp NSm.rf hp29 sh rfl)
      rcases hr29 with ⟨rfl, -⟩ | ⟨rfl, f29b⟩
      · have hpost : (0 ≤ a1 ∧ a1 ≤ 3 ∧ 0 ≤ a2 ∧ a2 < (sI H0 (td (a1 : Int).toNat) (X.1.2 6 2)).toInt ∧ (1 : Int32).toInt = 1 ∧ NWr (nC nd H0) (nC nd H29) a1 a2 (cutJ (sI H0 (td (a1 : Int).toNat) (X.1.2 6 1)).toInt p3)) ∨ ((a1 < 0 ∨ 3 < a1 ∨ a2 < 0 ∨ (sI H0 (td (a1 : Int).toNat) (X.1.2 6 2)).toInt ≤ a2) ∧ (1 : Int32).toInt = 0 ∧ NSm (nC nd H0) (nC nd H29)) := Or.inl ⟨by omega, by omega, by omega, by omega, by decide, nwr⟩
        have c30 : (1 : Int32).toInt = 1 := (by decide)
        exact ret 1 H29 locs29 _ _ dX11_write_42 (Or.inr rfl) ⟨hKp29, hpost⟩ hC29 hS29
      · exact absurd f29b (by decide)
    · refine q_if_ne hx hb (a := 0) (by decide) (tgt := 27) dX11_write_17 rfl (fun c31 => absurd c31 (by omega)) (fun c31 => ?_)
      refine lv_aload_n hx hb dX11_write_20 rfl (lv_at hl 1 rfl) ?_
      refine lv_iload hx hb dX11_write_21 (lv_at hl 0 rfl) ?_
      refine q_goI (q_runV (As := [.int v21]) (rest := []) E hC0 hS25 (m_X11_deny l X Γ H0 hC0 h0 g0 v21 (a1 := v21.toInt) rfl) cw_X11_deny cl_RX11_128 g0 ⟨rfl, rfl⟩ rfl hl.1 rfl (Nat.zero_le _) (by decide) dX11_write_23) hS25 (fun v32 H32 locs32 hr32 hC32 hS32 => ?_)
      obtain ⟨hp32, hr32⟩ := hr32
      have hKp32 := hKp0.tr (hp32.mono rfl)
      have ncs : NSm (nC nd H0) (nC nd H32) := nC_kp ncs hp32 sh rfl
      rcases hr32 with ⟨rfl, f32a⟩ | ⟨rfl, -⟩
      · exact absurd f32a (by decide)
      · have hpost : (0 ≤ a1 ∧ a1 ≤ 3 ∧ 0 ≤ a2 ∧ a2 < (sI H0 (td (a1 : Int).toNat) (X.1.2 6 2)).toInt ∧ (0 : Int32).toInt = 1 ∧ NWr (nC nd H0) (nC nd H32) a1 a2 (cutJ (sI H0 (td (a1 : Int).toNat) (X.1.2 6 1)).toInt p3)) ∨ ((a1 < 0 ∨ 3 < a1 ∨ a2 < 0 ∨ (sI H0 (td (a1 : Int).toNat) (X.1.2 6 2)).toInt ≤ a2) ∧ (0 : Int32).toInt = 0 ∧ NSm (nC nd H0) (nC nd H32)) := Or.inr ⟨by omega, by decide, ncs⟩
        have c33 : (0 : Int32).toInt = 0 := (by decide)
        exact ret 0 H32 locs32 _ _ dX11_write_26 (Or.inl rfl) ⟨hKp32, hpost⟩ hC32 hS32
set_option maxRecDepth 100000 in
set_option maxHeartbeats 4000000 in
theorem m_X11_refuse (l : Launch) (X : xW) (Γ : Nat → Option Nat) (H0 : Heap) (hC0 : Conf X Γ H0) (h0 : Nat) (g0 : Γ h0 = some 0) (p1 : Int32) {a1 : Int} (e1 : p1.toInt = a1) : Ctr l X Γ yX11_refuse cX11_refuse 2 (some .int) 0 [.ref h0, .int p1] H0 (QI X Γ (fun v H1 => Kp X Γ [0, 2, 3, 4, 5, 18, 21, 23, 25, 27, 29, 31, 32, 33, 34, 37, 39, 40, 41] H0 H1 ∧ ((v.toInt = -1)))) := by
  refine q_enterI (own := "SnowForts") (by decide) rfl (Nat.le_of_ble_eq_true rfl) ?_
  intro p e s m args below meth c ls Qz E hl ret hS0
  have hx := E.1; have hb := E.2.1
  have hKp0 : Kp X Γ [0, 2, 3, 4, 5, 18, 21, 23, 25, 27, 29, 31, 32, 33, 34, 37, 39, 40, 41] H0 H0 := Kp.rf
  have hl : lv_has ls 2 [(0, .ref h0), (1, .int p1)] := hl
  refine lv_aload_n hx hb dX11_refuse_0 rfl (lv_at hl 0 rfl) ?_
  refine lv_iload_n hx hb dX11_refuse_1 rfl (lv_at hl 1 rfl) ?_
  refine q_put E hC0 hS0 g0 fp_RX11_102 tv_F rfl rfl dX11_refuse_2 (fun H21 locs21 hC21 hS21 U21 => ?_)
  have hKp21 := Kp.upO E g0 fp_RX11_102 rfl U21 hKp0
  have e22 := up_I U21
  refine lv_iconst (v := (-1)) hx hb dX11_refuse_5 rfl ?_
  have c23 : ((-1) : Int32).toInt = (-1) := (by decide)
  exact ret (-1) H21 locs21 _ _ dX11_refuse_6 ⟨hKp21, by omega⟩ hC21 hS21
set_option maxRecDepth 100000 in
set_option maxHeartbeats 4000000 in
theorem m_X6_numberAt (l : Launch) (X : xW) (Γ : Nat → Option Nat) (H0 : Heap) (hC0 : Conf X Γ H0) (h0 : Nat) (g0 : Γ h0 = some 1) (p1 : Int32) {a1 : Int} (e1 : p1.toInt = a1) : Ctr l X Γ yX6_numberAt cX6_numberAt 2 (some .long) 1 [.ref h0, .int p1] H0 (QJ X Γ (fun v H1 => H1 = H0 ∧ ((∀ q, sR H0 h0 (X.1.2 6 0) = some q → 0 ≤ a1 → a1 < (sI H0 h0 (X.1.2 6 2)).toInt → v = sJ H0 q (a1 : Int).toNat)))) := by
  refine q_enterJ (own := "SnowForts$Tray") (by decide) rfl (Nat.le_of_ble_eq_true rfl) ?_
  intro p e s m args below meth c ls Qz E hl ret hS0
  have hx := E.1; have hb := E.2.1
  have hl : lv_has ls 2 [(0, .ref h0), (1, .int p1)] := hl
  refine lv_aload_n hx hb dX6_numberAt_0 rfl (lv_at hl 0 rfl) ?_
  refine lv_iload_n hx hb dX6_numberAt_1 rfl (lv_at hl 1 rfl) ?_
  refine q_goIp (q_runV (As := [.int p1]) (rest := []) E hC0 hS0 (m_X6_hasPlace l X Γ H0 hC0 h0 g0 p1 (a1 := a1) e1) cw_X6_hasPlace cl_RX6_28 g0 ⟨rfl, rfl⟩ rfl hl.1 rfl (Nat.zero_le _) (by decide) dX6_numberAt_2) hS0 (fun v21 locs21 hr21 hS21 => ?_)
  rcases hr21 with ⟨rfl, f21a0, f21a1, f21a2⟩ | ⟨rfl, f21b⟩
  · refine q_if_eq hx hb (a := 1) (by decide) (tgt := 17) dX6_numberAt_5 rfl (fun c22 => absurd c22 (by omega)) (fun c22 => ?_)
    refine lv_aload_n hx hb dX6_numberAt_8 rfl (lv_at hl 0 rfl) ?_
    refine q_getR E hC0 g0 fa_RX6_9 dX6_numberAt_9 (fun q23 eq23 gq23 => ?_)
    have eqn := eq23
    refine lv_iload_n hx hb dX6_numberAt_12 rfl (lv_at hl 1 rfl) ?_
    refine q_lald2 E hC0 gq23 rfl rfl (fun _ => rfl) (a := a1) e1 (by omega) (by omega) dX6_numberAt_13 (fun v24 ev24 => ?_)
    have hna : ∀ q, sR H0 h0 (X.1.2 6 0) = some q → 0 ≤ a1 → a1 < (sI H0 h0 (X.1.2 6 2)).toInt → (v24 : Int64) = sJ H0 q (a1 : Int).toNat := fun q hq _ _ => by cases Option.some.inj (eqn.symm.trans hq); exact ev24.symm
    refine lv_goto (tgt := 20) hx hb dX6_numberAt_14 rfl ?_
    exact ret v24 H0 locs21 _ _ dX6_numberAt_20 ⟨rfl, hna⟩ hC0 hS21
  · refine q_if_eq hx hb (a := 0) (by decide) (tgt := 17) dX6_numberAt_5 rfl (fun c25 => ?_) (fun c25 => absurd c25 (by omega))
    have hna : ∀ q, sR H0 h0 (X.1.2 6 0) = some q → 0 ≤ a1 → a1 < (sI H0 h0 (X.1.2 6 2)).toInt → (-1 : Int64) = sJ H0 q (a1 : Int).toNat := fun q hq h1 h2 => absurd h1 (by omega)
    refine lv_ldc2 (v := (-1)) hx hb E.2.2.2.1 (E.2.2.2.2.1 _ w_534) dX6_numberAt_17 ?_
    exact ret (-1) H0 locs21 _ _ dX6_numberAt_20 ⟨rfl, hna⟩ hC0 hS21
set_option maxRecDepth 100000 in
set_option maxHeartbeats 4000000 in
theorem m_X11_read (l : Launch) (X : xW) (Γ : Nat → Option Nat) (H0 : Heap) (hC0 : Conf X Γ H0) (h0 : Nat) (g0 : Γ h0 = some 0) (p1 : Int32) {a1 : Int} (e1 : p1.toInt = a1) (p2 : Int32) {a2 : Int} (e2 : p2.toInt = a2) (ta : Nat) (td nd : Nat → Nat) (sh : SHP X Γ H0 h0 ta td nd) : Ctr l X Γ yX11_read cX11_read 4 (some .long) 3 [.ref h0, .int p1, .int p2] H0 (QJ X Γ (fun v H1 => Kp X Γ [0, 2, 3, 4, 5, 18, 21, 23, 25, 27, 29, 31, 32, 33, 34, 37, 39, 40, 41] H0 H1 ∧ (((0 ≤ a1 ∧ a1 ≤ 3 ∧ 0 ≤ a2 ∧ a2 < (sI H0 (td (a1 : Int).toNat) (X.1.2 6 2)).toInt ∧ v = nC nd H0 (a1 : Int).toNat (a2 : Int).toNat) ∨ ((a1 < 0 ∨ 3 < a1 ∨ a2 < 0 ∨ (sI H0 (td (a1 : Int).toNat) (X.1.2 6 2)).toInt ≤ a2) ∧ v.toInt = -1))))) := by
  refine q_enterJ (own := "SnowForts") (by decide) rfl (Nat.le_of_ble_eq_true rfl) ?_
  intro p e s m args below meth c ls Qz E hl ret hS0
  have hx := E.1; have hb := E.2.1
  have hKp0 : Kp X Γ [0, 2, 3, 4, 5, 18, 21, 23, 25, 27, 29, 31, 32, 33, 34, 37, 39, 40, 41] H0 H0 := Kp.rf
  have hl : lv_has ls 4 [(0, .ref h0), (1, .int p1), (2, .int p2)] := hl
  have ncs : NSm (nC nd H0) (nC nd H0) := NSm.rf
  have tsm : TSm X td H0 H0 := TSm.rf
  refine lv_aload_n hx hb dX11_read_0 rfl (lv_at hl 0 rfl) ?_
  refine lv_iload_n hx hb dX11_read_1 rfl (lv_at hl 1 rfl) ?_
  refine lv_iload_n hx hb dX11_read_2 rfl (lv_at hl 2 rfl) ?_
  refine q_goIp (q_runV (As := [.int p1, .int p2]) (rest := []) E hC0 hS0 (m_X11_whyNotPlace l X Γ H0 hC0 h0 g0 p1 (a1 := a1) e1 p2 (a2 := a2) e2 ta td nd sh) cw_X11_whyNotPlace cl_RX11_138 g0 ⟨rfl, rfl⟩ rfl hl.1 rfl (Nat.zero_le _) (by decide) dX11_read_3) hS0 (fun v21 locs21 hr21 hS21 => ?_)
  have f21_0 := hr21
  refine lv_istore_n hx hb dX11_read_6 rfl hl (by decide) rfl (fun ls hl => ?_)
  have hl : lv_has ls 4 [(3, .int v21), (0, .ref h0), (1, .int p1), (2, .int p2)] := hl
  refine lv_iload_n hx hb dX11_read_7 rfl (lv_at hl 0 rfl) ?_
  refine q_if_ne hx hb (a := v21.toInt) rfl (tgt := 18) dX11_read_8 rfl (fun c22 => ?_) (fun c22 => ?_)
  · refine lv_aload_n hx hb dX11_read_18 rfl (lv_at hl 1 rfl) ?_
    refine lv_iload_n hx hb dX11_read_19 rfl (lv_at hl 0 rfl) ?_
    refine q_goI (q_runV (As := [.int v21]) (rest := []) E hC0 hS21 (m_X11_refuse l X Γ H0 hC0 h0 g0 v21 (a1 := v21.toInt) rfl) cw_X11_refuse cl_RX11_146 g0 ⟨rfl, rfl⟩ rfl hl.1 rfl (Nat.zero_le _) (by decide) dX11_read_20) hS21 (fun v23 H23 locs23 hr23 hC23 hS23 => ?_)
    obtain ⟨hp23, hr23⟩ := hr23
    have hKp23 := hKp0.tr (hp23.mono rfl)
    have ncs : NSm (nC nd H0) (nC nd H23) := nC_kp ncs hp23 sh rfl
    have tsm : TSm X td H0 H23 := TSm.kp tsm hp23 sh rfl
    have f23_0 := hr23
    refine lv_i2l (v := v23.toInt64) hx hb dX11_read_23 rfl (lv_topl (fun v24 ev24 => ?_))
    have ev24i : v24.toInt = v23.toInt := l_ofi ev24.symm rfl
    have hpost : (0 ≤ a1 ∧ a1 ≤ 3 ∧ 0 ≤ a2 ∧ a2 < (sI H0 (td (a1 : Int).toNat) (X.1.2 6 2)).toInt ∧ (v24 : Int64) = nC nd H0 (a1 : Int).toNat (a2 : Int).toNat) ∨ ((a1 < 0 ∨ 3 < a1 ∨ a2 < 0 ∨ (sI H0 (td (a1 : Int).toNat) (X.1.2 6 2)).toInt ≤ a2) ∧ (v24 : Int64).toInt = -1) := Or.inr ⟨by omega, by omega⟩
    exact ret v24 H23 locs23 _ _ dX11_read_24 ⟨hKp23, hpost⟩ hC23 hS23
  · refine lv_iload_n hx hb dX11_read_11 rfl (lv_at hl 2 rfl) ?_
    refine q_goIp (q_runS (As := [.int p1]) (rest := []) E hS21 (m_X11_isTray l X Γ H0 hC0 p1 (a0 := a1) e1) cw_X11_isTray cl_RX11_117 rfl hl.1 rfl (Nat.zero_le _) (by decide) dX11_read_12) hS21 (fun v25 locs25 hr25 hS25 => ?_)
    rcases hr25 with ⟨rfl, f25a0, f25a1⟩ | ⟨rfl, f25b⟩
    · refine q_if_ne hx hb (a := 1) (by decide) (tgt := 25) dX11_read_15 rfl (fun c26 => ?_) (fun c26 => absurd c26 (by omega))
      refine lv_aload_n hx hb dX11_read_25 rfl (lv_at hl 1 rfl) ?_
      refine lv_iconst (v := 0) hx hb dX11_read_26 rfl ?_
      refine q_put E hC0 hS25 g0 fp_RX11_102 tv_F rfl rfl dX11_read_27 (fun H27 locs27 hC27 hS27 U27 => ?_)
      have hKp27 := Kp.upO E g0 fp_RX11_102 rfl U27 hKp0
      have e28 := up_I U27
      have ncs : NSm (nC nd H0) (nC nd H27) := nC_ne ncs U27 (sh.neN g0 (by decide))
      have tsm : TSm X td H0 H27 := TSm.ne tsm U27 (sh.ne g0 (by decide))
      refine lv_aload_n hx hb dX11_read_30 rfl (lv_at hl 1 rfl) ?_
      refine q_getS E hC27 g0 fa_RX11_10 (sh.kp g0 hKp27 rfl).2.1 dX11_read_31 (fun _ => ?_)
      refine lv_iload_n hx hb dX11_read_34 rfl (lv_at hl 2 rfl) ?_
      refine q_aaldS E hC27 sh.1 rfl rfl (fun _ => rfl) (C := "SnowForts$Tray") rfl (z := a1) e1 (by omega) (by omega) (((sh.kp g0 hKp27 rfl).2.2.1 _ (by omega)).1) dX11_read_35 (fun g29 => ?_)
      refine lv_iload_n hx hb dX11_read_36 rfl (lv_at hl 3 rfl) ?_
      refine q_goJp (q_runV (As := [.int p2]) (rest := []) E hC27 hS27 (m_X6_numberAt l X Γ H27 hC27 (td (a1 : Int).toNat) g29 p2 (a1 := a2) e2) cw_X6_numberAt cl_RX11_150 g29 ⟨rfl, rfl⟩ rfl hl.1 rfl (Nat.zero_le _) (by decide) dX11_read_37) hS27 (fun v30 locs30 hr30 hS30 => ?_)
      have f30_0 := hr30
      have hrd := f30_0
      have ht := tsm (a1 : Int).toNat
      have hb6 := f_bd hC0 ((sh.2.2.1 (a1 : Int).toNat (by omega)).2) (ci := 6) (k := 2) rfl rfl
      have hpost : (0 ≤ a1 ∧ a1 ≤ 3 ∧ 0 ≤ a2 ∧ a2 < (sI H0 (td (a1 : Int).toNat) (X.1.2 6 2)).toInt ∧ (v30 : Int64) = nC nd H0 (a1 : Int).toNat (a2 : Int).toNat) ∨ ((a1 < 0 ∨ 3 < a1 ∨ a2 < 0 ∨ (sI H0 (td (a1 : Int).toNat) (X.1.2 6 2)).toInt ≤ a2) ∧ (v30 : Int64).toInt = -1) := Or.inl ⟨by omega, by omega, by omega, by omega, (hrd _ (((sh.kp g0 hKp27 rfl).2.2.2.2.1 _ (by omega)).1) (by omega) (by omega)).trans (ncs (a1 : Int).toNat (a2 : Int).toNat (by omega) (by omega))⟩
      exact ret v30 H27 locs30 _ _ dX11_read_40 ⟨hKp27, hpost⟩ hC27 hS30
    · refine q_if_ne hx hb (a := 0) (by decide) (tgt := 25) dX11_read_15 rfl (fun c31 => absurd c31 (by omega)) (fun c31 => ?_)
      refine lv_aload_n hx hb dX11_read_18 rfl (lv_at hl 1 rfl) ?_
      refine lv_iload_n hx hb dX11_read_19 rfl (lv_at hl 0 rfl) ?_
      refine q_goI (q_runV (As := [.int v21]) (rest := []) E hC0 hS25 (m_X11_refuse l X Γ H0 hC0 h0 g0 v21 (a1 := v21.toInt) rfl) cw_X11_refuse cl_RX11_146 g0 ⟨rfl, rfl⟩ rfl hl.1 rfl (Nat.zero_le _) (by decide) dX11_read_20) hS25 (fun v32 H32 locs32 hr32 hC32 hS32 => ?_)
      obtain ⟨hp32, hr32⟩ := hr32
      have hKp32 := hKp0.tr (hp32.mono rfl)
      have ncs : NSm (nC nd H0) (nC nd H32) := nC_kp ncs hp32 sh rfl
      have tsm : TSm X td H0 H32 := TSm.kp tsm hp32 sh rfl
      have f32_0 := hr32
      refine lv_i2l (v := v32.toInt64) hx hb dX11_read_23 rfl (lv_topl (fun v33 ev33 => ?_))
      have ev33i : v33.toInt = v32.toInt := l_ofi ev33.symm rfl
      have hpost : (0 ≤ a1 ∧ a1 ≤ 3 ∧ 0 ≤ a2 ∧ a2 < (sI H0 (td (a1 : Int).toNat) (X.1.2 6 2)).toInt ∧ (v33 : Int64) = nC nd H0 (a1 : Int).toNat (a2 : Int).toNat) ∨ ((a1 < 0 ∨ 3 < a1 ∨ a2 < 0 ∨ (sI H0 (td (a1 : Int).toNat) (X.1.2 6 2)).toInt ≤ a2) ∧ (v33 : Int64).toInt = -1) := Or.inr ⟨by omega, by omega⟩
      exact ret v33 H32 locs32 _ _ dX11_read_24 ⟨hKp32, hpost⟩ hC32 hS32
set_option maxRecDepth 100000 in
set_option maxHeartbeats 4000000 in
theorem m_X6_hasRow (l : Launch) (X : xW) (Γ : Nat → Option Nat) (H0 : Heap) (hC0 : Conf X Γ H0) (h0 : Nat) (g0 : Γ h0 = some 1) (p1 : Int32) {a1 : Int} (e1 : p1.toInt = a1) (p2 : Int32) {a2 : Int} (e2 : p2.toInt = a2) : Ctr l X Γ yX6_hasRow cX6_hasRow 3 (some .boolean) 0 [.ref h0, .int p1, .int p2] H0 (QI X Γ (fun v H1 => H1 = H0 ∧ ((v = 1 ∧ (0 ≤ a1 ∧ a1 + a2 ≤ 60 ∧ a1 ≤ (sI H0 h0 (X.1.2 6 2)).toInt ∧ a1 + a2 ≤ (sI H0 h0 (X.1.2 6 2)).toInt)) ∨ (v = 0 ∧ (a1 < 0 ∨ (sI H0 h0 (X.1.2 6 2)).toInt < a1 ∨ (sI H0 h0 (X.1.2 6 2)).toInt < a1 + a2))))) := by
  refine q_enterZ (own := "SnowForts$Tray") (by decide) rfl (Nat.le_of_ble_eq_true rfl) ?_
  intro p e s m args below meth c ls Qz E hl ret hS0
  have hx := E.1; have hb := E.2.1
  have hl : lv_has ls 3 [(0, .ref h0), (1, .int p1), (2, .int p2)] := hl
  have hz1 := f_bd hC0 g0 (ci := 6) (k := 2) rfl rfl
  refine lv_iload_n hx hb dX6_hasRow_0 rfl (lv_at hl 1 rfl) ?_
  refine q_if_lt hx hb (a := a1) e1 (tgt := 26) dX6_hasRow_1 rfl (fun c21 => ?_) (fun c21 => ?_)
  · refine lv_iconst (v := 0) hx hb dX6_hasRow_26 rfl ?_
    exact ret 0 H0 [] _ _ dX6_hasRow_27 (Or.inl rfl) ⟨rfl, Or.inr ⟨rfl, by omega⟩⟩ hC0 hS0
  · refine lv_iload_n hx hb dX6_hasRow_4 rfl (lv_at hl 1 rfl) ?_
    refine lv_aload_n hx hb dX6_hasRow_5 rfl (lv_at hl 0 rfl) ?_
    refine q_getI E hC0 g0 fa_RX6_15 dX6_hasRow_6 (fun v22 ev22 lv22 uv22 => ?_)
    have m23 : (sI H0 h0 (X.1.2 6 2)).toInt = v22.toInt := (congrArg Int32.toInt ev22).trans rfl
    refine q_icmp_gt hx hb (a := a1) (b := v22.toInt) e1 rfl (tgt := 26) dX6_hasRow_9 rfl (fun c24 => ?_) (fun c24 => ?_)
    · refine lv_iconst (v := 0) hx hb dX6_hasRow_26 rfl ?_
      exact ret 0 H0 [] _ _ dX6_hasRow_27 (Or.inl rfl) ⟨rfl, Or.inr ⟨rfl, by omega⟩⟩ hC0 hS0
    · refine lv_iload_n hx hb dX6_hasRow_12 rfl (lv_at hl 2 rfl) ?_
      refine lv_aload_n hx hb dX6_hasRow_13 rfl (lv_at hl 0 rfl) ?_
      refine q_getI E hC0 g0 fa_RX6_15 dX6_hasRow_14 (fun v25 ev25 lv25 uv25 => ?_)
      have qv25 := ev22.symm.trans ev25; subst qv25
      refine lv_iload_n hx hb dX6_hasRow_17 rfl (lv_at hl 1 rfl) ?_
      refine lv_isub hx hb dX6_hasRow_18 (lv_topi (fun v26 ev26 => ?_))
      have ev26i : v26.toInt = (v22.toInt - a1) := i_sub ev26 rfl e1 (by omega) (by omega)
      have c27 := i_rng p2; rw [show p2.toInt = a2 from e2] at c27
      refine q_icmp_gt hx hb (a := a2) (b := (v22.toInt - a1)) e2 ev26i (tgt := 26) dX6_hasRow_19 rfl (fun c28 => ?_) (fun c28 => ?_)
      · refine lv_iconst (v := 0) hx hb dX6_hasRow_26 rfl ?_
        exact ret 0 H0 [] _ _ dX6_hasRow_27 (Or.inl rfl) ⟨rfl, Or.inr ⟨rfl, by omega⟩⟩ hC0 hS0
      · refine lv_iconst (v := 1) hx hb dX6_hasRow_22 rfl ?_
        refine lv_goto (tgt := 27) hx hb dX6_hasRow_23 rfl ?_
        exact ret 1 H0 [] _ _ dX6_hasRow_27 (Or.inr rfl) ⟨rfl, Or.inl ⟨rfl, by omega, by omega, by omega, by omega⟩⟩ hC0 hS0
set_option maxRecDepth 100000 in
set_option maxHeartbeats 4000000 in
theorem m_X11_pour (l : Launch) (X : xW) (Γ : Nat → Option Nat) (H0 : Heap) (hC0 : Conf X Γ H0) (h0 : Nat) (g0 : Γ h0 = some 0) (p1 : Int32) {a1 : Int} (e1 : p1.toInt = a1) (p2 : Int32) {a2 : Int} (e2 : p2.toInt = a2) (p3 : Int32) {a3 : Int} (e3 : p3.toInt = a3) (p4 : Int32) {a4 : Int} (e4 : p4.toInt = a4) (p5 : Int32) {a5 : Int} (e5 : p5.toInt = a5) (ta : Nat) (td nd : Nat → Nat) (sh : SHP X Γ H0 h0 ta td nd) : Ctr l X Γ yX11_pour cX11_pour 8 (some .boolean) 2 [.ref h0, .int p1, .int p2, .int p3, .int p4, .int p5] H0 (QI X Γ (fun v H1 => Kp X Γ [0, 3, 4, 5, 18, 21, 25, 27, 29, 31, 32, 33, 34, 37, 39, 40, 41] H0 H1 ∧ (((0 ≤ a1 ∧ a1 ≤ 3 ∧ 0 ≤ a3 ∧ a3 ≤ 3 ∧ 0 ≤ (sI H0 (td (a1 : Int).toNat) (X.1.2 6 2)).toInt ∧ 0 ≤ (sI H0 (td (a3 : Int).toNat) (X.1.2 6 2)).toInt ∧ (sI H0 (td (a1 : Int).toNat) (X.1.2 6 1)).toInt = (sI H0 (td (a3 : Int).toNat) (X.1.2 6 1)).toInt ∧ 0 ≤ a5 ∧ 0 ≤ a2 ∧ a2 + a5 ≤ (sI H0 (td (a1 : Int).toNat) (X.1.2 6 2)).toInt ∧ 0 ≤ a4 ∧ a4 + a5 ≤ (sI H0 (td (a3 : Int).toNat) (X.1.2 6 2)).toInt ∧ v.toInt = 1 ∧ NPr (nC nd H0) (nC nd H1) a1 a2 a3 a4 0 a5) ∨ ((a1 < 0 ∨ 3 < a1 ∨ a3 < 0 ∨ 3 < a3 ∨ (sI H0 (td (a1 : Int).toNat) (X.1.2 6 2)).toInt < 0 ∨ (sI H0 (td (a3 : Int).toNat) (X.1.2 6 2)).toInt < 0 ∨ (sI H0 (td (a1 : Int).toNat) (X.1.2 6 1)).toInt ≠ (sI H0 (td (a3 : Int).toNat) (X.1.2 6 1)).toInt ∨ a5 < 0 ∨ a2 < 0 ∨ (sI H0 (td (a1 : Int).toNat) (X.1.2 6 2)).toInt < a2 + a5 ∨ a4 < 0 ∨ (sI H0 (td (a3 : Int).toNat) (X.1.2 6 2)).toInt < a4 + a5) ∧ v.toInt = 0 ∧ NSm (nC nd H0) (nC nd H1)))))) := by
  refine q_enterZ (own := "SnowForts") (by decide) rfl (Nat.le_of_ble_eq_true rfl) ?_
  intro p e s m args below meth c ls Qz E hl ret hS0
  have hx := E.1; have hb := E.2.1
  have hKp0 : Kp X Γ [0, 3, 4, 5, 18, 21, 25, 27, 29, 31, 32, 33, 34, 37, 39, 40, 41] H0 H0 := Kp.rf
  have hl : lv_has ls 8 [(0, .ref h0), (1, .int p1), (2, .int p2), (3, .int p3), (4, .int p4), (5, .int p5)] := hl
  have ncs : NSm (nC nd H0) (nC nd H0) := NSm.rf
  refine lv_iload_n hx hb dX11_pour_0 rfl (lv_at hl 1 rfl) ?_
  refine q_goIp (q_runS (As := [.int p1]) (rest := []) E hS0 (m_X11_isTray l X Γ H0 hC0 p1 (a0 := a1) e1) cw_X11_isTray cl_RX11_117 rfl hl.1 rfl (Nat.zero_le _) (by decide) dX11_pour_1) hS0 (fun v21 locs21 hr21 hS21 => ?_)
  rcases hr21 with ⟨rfl, f21a0, f21a1⟩ | ⟨rfl, f21b⟩
  · refine q_if_eq hx hb (a := 1) (by decide) (tgt := 14) dX11_pour_4 rfl (fun c22 => absurd c22 (by omega)) (fun c22 => ?_)
    refine lv_iload_n hx hb dX11_pour_7 rfl (lv_at hl 3 rfl) ?_
    refine q_goIp (q_runS (As := [.int p3]) (rest := []) E hS21 (m_X11_isTray l X Γ H0 hC0 p3 (a0 := a3) e3) cw_X11_isTray cl_RX11_117 rfl hl.1 rfl (Nat.zero_le _) (by decide) dX11_pour_8) hS21 (fun v23 locs23 hr23 hS23 => ?_)
    rcases hr23 with ⟨rfl, f23a0, f23a1⟩ | ⟨rfl, f23b⟩
    · refine q_if_ne hx hb (a := 1) (by decide) (tgt := 20) dX11_pour_11 rfl (fun c24 => ?_) (fun c24 => absurd c24 (by omega))
      refine lv_aload_n hx hb dX11_pour_20 rfl (lv_at hl 0 rfl) ?_
      refine q_getS E hC0 g0 fa_RX11_10 sh.2.1 dX11_pour_21 (fun _ => ?_)
      refine lv_iload_n hx hb dX11_pour_24 rfl (lv_at hl 1 rfl) ?_
      refine q_aaldS E hC0 sh.1 rfl rfl (fun _ => rfl) (C := "SnowForts$Tray") rfl (z := a1) e1 (by omega) (by omega) ((sh.2.2.1 _ (by omega)).1) dX11_pour_25 (fun g25 => ?_)
      refine lv_astore hx hb dX11_pour_26 hl (by decide) rfl (fun ls hl => ?_)
      have hl : lv_has ls 8 [(6, .ref (td (a1 : Int).toNat)), (0, .ref h0), (1, .int p1), (2, .int p2), (3, .int p3), (4, .int p4), (5, .int p5)] := hl
      refine lv_aload_n hx hb dX11_pour_28 rfl (lv_at hl 1 rfl) ?_
      refine q_getS E hC0 g0 fa_RX11_10 sh.2.1 dX11_pour_29 (fun _ => ?_)
      refine lv_iload_n hx hb dX11_pour_32 rfl (lv_at hl 4 rfl) ?_
      refine q_aaldS E hC0 sh.1 rfl rfl (fun _ => rfl) (C := "SnowForts$Tray") rfl (z := a3) e3 (by omega) (by omega) ((sh.2.2.1 _ (by omega)).1) dX11_pour_33 (fun g26 => ?_)
      refine lv_astore hx hb dX11_pour_34 hl (by decide) rfl (fun ls hl => ?_)
      have hl : lv_has ls 8 [(7, .ref (td (a3 : Int).toNat)), (6, .ref (td (a1 : Int).toNat)), (0, .ref h0), (1, .int p1), (2, .int p2), (3, .int p3), (4, .int p4), (5, .int p5)] := hl
      refine lv_aload hx hb dX11_pour_36 (lv_at hl 1 rfl) ?_
      refine q_goIp (q_runV (As := []) (rest := []) E hC0 hS23 (m_X6_isMissing l X Γ H0 hC0 (td (a1 : Int).toNat) g25) cw_X6_isMissing cl_RX11_121 g25 ⟨rfl, rfl⟩ rfl hl.1 rfl (Nat.zero_le _) (by decide) dX11_pour_38) hS23 (fun v27 locs27 hr27 hS27 => ?_)
      rcases hr27 with ⟨rfl, f27a⟩ | ⟨rfl, f27b⟩
      · refine q_if_ne hx hb (a := 1) (by decide) (tgt := 52) dX11_pour_41 rfl (fun c28 => ?_) (fun c28 => absurd c28 (by omega))
        refine lv_aload_n hx hb dX11_pour_52 rfl (lv_at hl 2 rfl) ?_
        refine lv_iconst (v := 3) hx hb dX11_pour_53 rfl ?_
        refine q_goI (q_runV (As := [.int 3]) (rest := []) E hC0 hS27 (m_X11_deny l X Γ H0 hC0 h0 g0 3 (a1 := 3) (by decide)) cw_X11_deny cl_RX11_128 g0 ⟨rfl, rfl⟩ rfl hl.1 rfl (Nat.zero_le _) (by decide) dX11_pour_54) hS27 (fun v29 H29 locs29 hr29 hC29 hS29 => ?_)
        obtain ⟨hp29, hr29⟩ := hr29
        have hKp29 := hKp0.tr (hp29.mono rfl)
        have ncs : NSm (nC nd H0) (nC nd H29) := nC_kp ncs hp29 sh rfl
        rcases hr29 with ⟨rfl, f29a⟩ | ⟨rfl, -⟩
        · exact absurd f29a (by decide)
        · have hpost : (0 ≤ a1 ∧ a1 ≤ 3 ∧ 0 ≤ a3 ∧ a3 ≤ 3 ∧ 0 ≤ (sI H0 (td (a1 : Int).toNat) (X.1.2 6 2)).toInt ∧ 0 ≤ (sI H0 (td (a3 : Int).toNat) (X.1.2 6 2)).toInt ∧ (sI H0 (td (a1 : Int).toNat) (X.1.2 6 1)).toInt = (sI H0 (td (a3 : Int).toNat) (X.1.2 6 1)).toInt ∧ 0 ≤ a5 ∧ 0 ≤ a2 ∧ a2 + a5 ≤ (sI H0 (td (a1 : Int).toNat) (X.1.2 6 2)).toInt ∧ 0 ≤ a4 ∧ a4 + a5 ≤ (sI H0 (td (a3 : Int).toNat) (X.1.2 6 2)).toInt ∧ (0 : Int32).toInt = 1 ∧ NPr (nC nd H0) (nC nd H29) a1 a2 a3 a4 0 a5) ∨ ((a1 < 0 ∨ 3 < a1 ∨ a3 < 0 ∨ 3 < a3 ∨ (sI H0 (td (a1 : Int).toNat) (X.1.2 6 2)).toInt < 0 ∨ (sI H0 (td (a3 : Int).toNat) (X.1.2 6 2)).toInt < 0 ∨ (sI H0 (td (a1 : Int).toNat) (X.1.2 6 1)).toInt ≠ (sI H0 (td (a3 : Int).toNat) (X.1.2 6 1)).toInt ∨ a5 < 0 ∨ a2 < 0 ∨ (sI H0 (td (a1 : Int).toNat) (X.1.2 6 2)).toInt < a2 + a5 ∨ a4 < 0 ∨ (sI H0 (td (a3 : Int).toNat) (X.1.2 6 2)).toInt < a4 + a5) ∧ (0 : Int32).toInt = 0 ∧ NSm (nC nd H0) (nC nd H29)) := Or.inr ⟨by omega, by decide, ncs⟩
          have c30 : (0 : Int32).toInt = 0 := (by decide)
          exact ret 0 H29 locs29 _ _ dX11_pour_57 (Or.inl rfl) ⟨hKp29, hpost⟩ hC29 hS29
      · refine q_if_ne hx hb (a := 0) (by decide) (tgt := 52) dX11_pour_41 rfl (fun c31 => absurd c31 (by omega)) (fun c31 => ?_)
        refine lv_aload hx hb dX11_pour_44 (lv_at hl 0 rfl) ?_
        refine q_goIp (q_runV (As := []) (rest := []) E hC0 hS27 (m_X6_isMissing l X Γ H0 hC0 (td (a3 : Int).toNat) g26) cw_X6_isMissing cl_RX11_121 g26 ⟨rfl, rfl⟩ rfl hl.1 rfl (Nat.zero_le _) (by decide) dX11_pour_46) hS27 (fun v32 locs32 hr32 hS32 => ?_)
        rcases hr32 with ⟨rfl, f32a⟩ | ⟨rfl, f32b⟩
        · refine q_if_eq hx hb (a := 1) (by decide) (tgt := 58) dX11_pour_49 rfl (fun c33 => absurd c33 (by omega)) (fun c33 => ?_)
          refine lv_aload_n hx hb dX11_pour_52 rfl (lv_at hl 2 rfl) ?_
          refine lv_iconst (v := 3) hx hb dX11_pour_53 rfl ?_
          refine q_goI (q_runV (As := [.int 3]) (rest := []) E hC0 hS32 (m_X11_deny l X Γ H0 hC0 h0 g0 3 (a1 := 3) (by decide)) cw_X11_deny cl_RX11_128 g0 ⟨rfl, rfl⟩ rfl hl.1 rfl (Nat.zero_le _) (by decide) dX11_pour_54) hS32 (fun v34 H34 locs34 hr34 hC34 hS34 => ?_)
          obtain ⟨hp34, hr34⟩ := hr34
          have hKp34 := hKp0.tr (hp34.mono rfl)
          have ncs : NSm (nC nd H0) (nC nd H34) := nC_kp ncs hp34 sh rfl
          rcases hr34 with ⟨rfl, f34a⟩ | ⟨rfl, -⟩
          · exact absurd f34a (by decide)
          · have hpost : (0 ≤ a1 ∧ a1 ≤ 3 ∧ 0 ≤ a3 ∧ a3 ≤ 3 ∧ 0 ≤ (sI H0 (td (a1 : Int).toNat) (X.1.2 6 2)).toInt ∧ 0 ≤ (sI H0 (td (a3 : Int).toNat) (X.1.2 6 2)).toInt ∧ (sI H0 (td (a1 : Int).toNat) (X.1.2 6 1)).toInt = (sI H0 (td (a3 : Int).toNat) (X.1.2 6 1)).toInt ∧ 0 ≤ a5 ∧ 0 ≤ a2 ∧ a2 + a5 ≤ (sI H0 (td (a1 : Int).toNat) (X.1.2 6 2)).toInt ∧ 0 ≤ a4 ∧ a4 + a5 ≤ (sI H0 (td (a3 : Int).toNat) (X.1.2 6 2)).toInt ∧ (0 : Int32).toInt = 1 ∧ NPr (nC nd H0) (nC nd H34) a1 a2 a3 a4 0 a5) ∨ ((a1 < 0 ∨ 3 < a1 ∨ a3 < 0 ∨ 3 < a3 ∨ (sI H0 (td (a1 : Int).toNat) (X.1.2 6 2)).toInt < 0 ∨ (sI H0 (td (a3 : Int).toNat) (X.1.2 6 2)).toInt < 0 ∨ (sI H0 (td (a1 : Int).toNat) (X.1.2 6 1)).toInt ≠ (sI H0 (td (a3 : Int).toNat) (X.1.2 6 1)).toInt ∨ a5 < 0 ∨ a2 < 0 ∨ (sI H0 (td (a1 : Int).toNat) (X.1.2 6 2)).toInt < a2 + a5 ∨ a4 < 0 ∨ (sI H0 (td (a3 : Int).toNat) (X.1.2 6 2)).toInt < a4 + a5) ∧ (0 : Int32).toInt = 0 ∧ NSm (nC nd H0) (nC nd H34)) := Or.inr ⟨by omega, by decide, ncs⟩
            have c35 : (0 : Int32).toInt = 0 := (by decide)
            exact ret 0 H34 locs34 _ _ dX11_pour_57 (Or.inl rfl) ⟨hKp34, hpost⟩ hC34 hS34
        · refine q_if_eq hx hb (a := 0) (by decide) (tgt := 58) dX11_pour_49 rfl (fun c36 => ?_) (fun c36 => absurd c36 (by omega))
          refine lv_aload hx hb dX11_pour_58 (lv_at hl 1 rfl) ?_
          refine q_getI E hC0 g25 fa_RX11_154 dX11_pour_60 (fun v37 ev37 _ _ => ?_)
          have m38 : (sI H0 (td (a1 : Int).toNat) (X.1.2 6 1)).toInt = v37.toInt := congrArg Int32.toInt ev37
          refine lv_aload hx hb dX11_pour_63 (lv_at hl 0 rfl) ?_
          refine q_getI E hC0 g26 fa_RX11_154 dX11_pour_65 (fun v39 ev39 _ _ => ?_)
          have m40 : (sI H0 (td (a3 : Int).toNat) (X.1.2 6 1)).toInt = v39.toInt := congrArg Int32.toInt ev39
          have c41 := i_rng v37; rw [show v37.toInt = v37.toInt from rfl] at c41
          have c42 := i_rng v39; rw [show v39.toInt = v39.toInt from rfl] at c42
          refine q_icmp_eq hx hb (a := v37.toInt) (b := v39.toInt) rfl rfl (tgt := 78) dX11_pour_68 rfl (fun c43 => ?_) (fun c43 => ?_)
          · refine lv_iload hx hb dX11_pour_78 (lv_at hl 7 rfl) ?_
            refine q_if_ge hx hb (a := a5) e5 (tgt := 90) dX11_pour_80 rfl (fun c44 => ?_) (fun c44 => ?_)
            · refine lv_aload hx hb dX11_pour_90 (lv_at hl 1 rfl) ?_
              refine lv_iload_n hx hb dX11_pour_92 rfl (lv_at hl 4 rfl) ?_
              refine lv_iload hx hb dX11_pour_93 (lv_at hl 7 rfl) ?_
              refine q_goIp (q_runV (As := [.int p2, .int p5]) (rest := []) E hC0 hS32 (m_X6_hasRow l X Γ H0 hC0 (td (a1 : Int).toNat) g25 p2 (a1 := a2) e2 p5 (a2 := a5) e5) cw_X6_hasRow cl_RX11_157 g25 ⟨rfl, rfl⟩ rfl hl.1 rfl (Nat.zero_le _) (by decide) dX11_pour_95) hS32 (fun v45 locs45 hr45 hS45 => ?_)
              rcases hr45 with ⟨rfl, f45a0, f45a1, f45a2, f45a3⟩ | ⟨rfl, f45b⟩
              · refine q_if_eq hx hb (a := 1) (by decide) (tgt := 113) dX11_pour_98 rfl (fun c46 => absurd c46 (by omega)) (fun c46 => ?_)
                refine lv_aload hx hb dX11_pour_101 (lv_at hl 0 rfl) ?_
                refine lv_iload hx hb dX11_pour_103 (lv_at hl 6 rfl) ?_
                refine lv_iload hx hb dX11_pour_105 (lv_at hl 7 rfl) ?_
                refine q_goIp (q_runV (As := [.int p4, .int p5]) (rest := []) E hC0 hS45 (m_X6_hasRow l X Γ H0 hC0 (td (a3 : Int).toNat) g26 p4 (a1 := a4) e4 p5 (a2 := a5) e5) cw_X6_hasRow cl_RX11_157 g26 ⟨rfl, rfl⟩ rfl hl.1 rfl (Nat.zero_le _) (by decide) dX11_pour_107) hS45 (fun v47 locs47 hr47 hS47 => ?_)
                rcases hr47 with ⟨rfl, f47a0, f47a1, f47a2, f47a3⟩ | ⟨rfl, f47b⟩
                · refine q_if_ne hx hb (a := 1) (by decide) (tgt := 119) dX11_pour_110 rfl (fun c48 => ?_) (fun c48 => absurd c48 (by omega))
                  refine lv_aload hx hb dX11_pour_119 (lv_at hl 1 rfl) ?_
                  refine q_getS E hC0 g25 fa_RX11_161 ((sh.2.2.2.2.1 _ (by omega)).1) dX11_pour_121 (fun g49 => ?_)
                  refine lv_iload_n hx hb dX11_pour_124 rfl (lv_at hl 4 rfl) ?_
                  refine lv_aload hx hb dX11_pour_125 (lv_at hl 0 rfl) ?_
                  refine q_getS E hC0 g26 fa_RX11_161 ((sh.2.2.2.2.1 _ (by omega)).1) dX11_pour_127 (fun g50 => ?_)
                  refine lv_iload hx hb dX11_pour_130 (lv_at hl 6 rfl) ?_
                  refine lv_iload hx hb dX11_pour_132 (lv_at hl 7 rfl) ?_
                  refine q_copyJ E hl.1 w_543 arrw hC0 hS47 g49 g50 (by decide) rfl rfl rfl rfl (fun _ => rfl) (fun _ => rfl) (a := a2) (b := a4) (d := a5) e2 e4 e5 (by omega) (by omega) (by omega) (by omega) (by omega) (by decide) (Nat.zero_le _) dX11_pour_134 (fun H51 locs51 hC51 hS51 U51 => ?_)
                  obtain ⟨U51, C51⟩ := U51
                  have hKp51 := Kp.upC g50 rfl (by decide) rfl U51 hKp0
                  have npr : NPr (nC nd H0) (nC nd H51) a1 a2 a3 a4 0 a5 := nC_pr sh (z := (a1 : Int).toNat) (y := (a3 : Int).toNat) (by omega) (by omega) (by omega) (by omega) (by omega) U51 C51
                  refine lv_aload_n hx hb dX11_pour_137 rfl (lv_at hl 2 rfl) ?_
                  refine q_goI (q_runV (As := []) (rest := []) E hC51 hS51 (m_X11_grant l X Γ H51 hC51 h0 g0) cw_X11_grant cl_RX11_135 g0 ⟨rfl, rfl⟩ rfl hl.1 rfl (Nat.zero_le _) (by decide) dX11_pour_138) hS51 (fun v52 H52 locs52 hr52 hC52 hS52 => ?_)
                  obtain ⟨hp52, hr52⟩ := hr52
                  have hKp52 := hKp51.tr (hp52.mono rfl)
                  have npr : NPr (nC nd H0) (nC nd H52) a1 a2 a3 a4 0 a5 := NPr.sm npr (nC_kp NSm.rf hp52 sh rfl)
                  rcases hr52 with ⟨rfl, -⟩ | ⟨rfl, f52b⟩
                  · have hpost : (0 ≤ a1 ∧ a1 ≤ 3 ∧ 0 ≤ a3 ∧ a3 ≤ 3 ∧ 0 ≤ (sI H0 (td (a1 : Int).toNat) (X.1.2 6 2)).toInt ∧ 0 ≤ (sI H0 (td (a3 : Int).toNat) (X.1.2 6 2)).toInt ∧ (sI H0 (td (a1 : Int).toNat) (X.1.2 6 1)).toInt = (sI H0 (td (a3 : Int).toNat) (X.1.2 6 1)).toInt ∧ 0 ≤ a5 ∧ 0 ≤ a2 ∧ a2 + a5 ≤ (sI H0 (td (a1 : Int).toNat) (X.1.2 6 2)).toInt ∧ 0 ≤ a4 ∧ a4 + a5 ≤ (sI H0 (td (a3 : Int).toNat) (X.1.2 6 2)).toInt ∧ (1 : Int32).toInt = 1 ∧ NPr (nC nd H0) (nC nd H52) a1 a2 a3 a4 0 a5) ∨ ((a1 < 0 ∨ 3 < a1 ∨ a3 < 0 ∨ 3 < a3 ∨ (sI H0 (td (a1 : Int).toNat) (X.1.2 6 2)).toInt < 0 ∨ (sI H0 (td (a3 : Int).toNat) (X.1.2 6 2)).toInt < 0 ∨ (sI H0 (td (a1 : Int).toNat) (X.1.2 6 1)).toInt ≠ (sI H0 (td (a3 : Int).toNat) (X.1.2 6 1)).toInt ∨ a5 < 0 ∨ a2 < 0 ∨ (sI H0 (td (a1 : Int).toNat) (X.1.2 6 2)).toInt < a2 + a5 ∨ a4 < 0 ∨ (sI H0 (td (a3 : Int).toNat) (X.1.2 6 2)).toInt < a4 + a5) ∧ (1 : Int32).toInt = 0 ∧ NSm (nC nd H0) (nC nd H52)) := Or.inl ⟨by omega, by omega, by omega, by omega, by omega, by omega, by omega, by omega, by omega, by omega, by omega, by omega, by decide, npr⟩
                    have c53 : (1 : Int32).toInt = 1 := (by decide)
                    exact ret 1 H52 locs52 _ _ dX11_pour_141 (Or.inr rfl) ⟨hKp52, hpost⟩ hC52 hS52
                  · exact absurd f52b (by decide)
                · refine q_if_ne hx hb (a := 0) (by decide) (tgt := 119) dX11_pour_110 rfl (fun c54 => absurd c54 (by omega)) (fun c54 => ?_)
                  refine lv_aload_n hx hb dX11_pour_113 rfl (lv_at hl 2 rfl) ?_
                  refine lv_iconst (v := 4) hx hb dX11_pour_114 rfl ?_
                  refine q_goI (q_runV (As := [.int 4]) (rest := []) E hC0 hS47 (m_X11_deny l X Γ H0 hC0 h0 g0 4 (a1 := 4) (by decide)) cw_X11_deny cl_RX11_128 g0 ⟨rfl, rfl⟩ rfl hl.1 rfl (Nat.zero_le _) (by decide) dX11_pour_115) hS47 (fun v55 H55 locs55 hr55 hC55 hS55 => ?_)
                  obtain ⟨hp55, hr55⟩ := hr55
                  have hKp55 := hKp0.tr (hp55.mono rfl)
                  have ncs : NSm (nC nd H0) (nC nd H55) := nC_kp ncs hp55 sh rfl
                  rcases hr55 with ⟨rfl, f55a⟩ | ⟨rfl, -⟩
                  · exact absurd f55a (by decide)
                  · have hpost : (0 ≤ a1 ∧ a1 ≤ 3 ∧ 0 ≤ a3 ∧ a3 ≤ 3 ∧ 0 ≤ (sI H0 (td (a1 : Int).toNat) (X.1.2 6 2)).toInt ∧ 0 ≤ (sI H0 (td (a3 : Int).toNat) (X.1.2 6 2)).toInt ∧ (sI H0 (td (a1 : Int).toNat) (X.1.2 6 1)).toInt = (sI H0 (td (a3 : Int).toNat) (X.1.2 6 1)).toInt ∧ 0 ≤ a5 ∧ 0 ≤ a2 ∧ a2 + a5 ≤ (sI H0 (td (a1 : Int).toNat) (X.1.2 6 2)).toInt ∧ 0 ≤ a4 ∧ a4 + a5 ≤ (sI H0 (td (a3 : Int).toNat) (X.1.2 6 2)).toInt ∧ (0 : Int32).toInt = 1 ∧ NPr (nC nd H0) (nC nd H55) a1 a2 a3 a4 0 a5) ∨ ((a1 < 0 ∨ 3 < a1 ∨ a3 < 0 ∨ 3 < a3 ∨ (sI H0 (td (a1 : Int).toNat) (X.1.2 6 2)).toInt < 0 ∨ (sI H0 (td (a3 : Int).toNat) (X.1.2 6 2)).toInt < 0 ∨ (sI H0 (td (a1 : Int).toNat) (X.1.2 6 1)).toInt ≠ (sI H0 (td (a3 : Int).toNat) (X.1.2 6 1)).toInt ∨ a5 < 0 ∨ a2 < 0 ∨ (sI H0 (td (a1 : Int).toNat) (X.1.2 6 2)).toInt < a2 + a5 ∨ a4 < 0 ∨ (sI H0 (td (a3 : Int).toNat) (X.1.2 6 2)).toInt < a4 + a5) ∧ (0 : Int32).toInt = 0 ∧ NSm (nC nd H0) (nC nd H55)) := Or.inr ⟨by omega, by decide, ncs⟩
                    have c56 : (0 : Int32).toInt = 0 := (by decide)
                    exact ret 0 H55 locs55 _ _ dX11_pour_118 (Or.inl rfl) ⟨hKp55, hpost⟩ hC55 hS55
              · refine q_if_eq hx hb (a := 0) (by decide) (tgt := 113) dX11_pour_98 rfl (fun c57 => ?_) (fun c57 => absurd c57 (by omega))
                refine lv_aload_n hx hb dX11_pour_113 rfl (lv_at hl 2 rfl) ?_
                refine lv_iconst (v := 4) hx hb dX11_pour_114 rfl ?_
                refine q_goI (q_runV (As := [.int 4]) (rest := []) E hC0 hS45 (m_X11_deny l X Γ H0 hC0 h0 g0 4 (a1 := 4) (by decide)) cw_X11_deny cl_RX11_128 g0 ⟨rfl, rfl⟩ rfl hl.1 rfl (Nat.zero_le _) (by decide) dX11_pour_115) hS45 (fun v58 H58 locs58 hr58 hC58 hS58 => ?_)
                obtain ⟨hp58, hr58⟩ := hr58
                have hKp58 := hKp0.tr (hp58.mono rfl)
                have ncs : NSm (nC nd H0) (nC nd H58) := nC_kp ncs hp58 sh rfl
                rcases hr58 with ⟨rfl, f58a⟩ | ⟨rfl, -⟩
                · exact absurd f58a (by decide)
                · have hpost : (0 ≤ a1 ∧ a1 ≤ 3 ∧ 0 ≤ a3 ∧ a3 ≤ 3 ∧ 0 ≤ (sI H0 (td (a1 : Int).toNat) (X.1.2 6 2)).toInt ∧ 0 ≤ (sI H0 (td (a3 : Int).toNat) (X.1.2 6 2)).toInt ∧ (sI H0 (td (a1 : Int).toNat) (X.1.2 6 1)).toInt = (sI H0 (td (a3 : Int).toNat) (X.1.2 6 1)).toInt ∧ 0 ≤ a5 ∧ 0 ≤ a2 ∧ a2 + a5 ≤ (sI H0 (td (a1 : Int).toNat) (X.1.2 6 2)).toInt ∧ 0 ≤ a4 ∧ a4 + a5 ≤ (sI H0 (td (a3 : Int).toNat) (X.1.2 6 2)).toInt ∧ (0 : Int32).toInt = 1 ∧ NPr (nC nd H0) (nC nd H58) a1 a2 a3 a4 0 a5) ∨ ((a1 < 0 ∨ 3 < a1 ∨ a3 < 0 ∨ 3 < a3 ∨ (sI H0 (td (a1 : Int).toNat) (X.1.2 6 2)).toInt < 0 ∨ (sI H0 (td (a3 : Int).toNat) (X.1.2 6 2)).toInt < 0 ∨ (sI H0 (td (a1 : Int).toNat) (X.1.2 6 1)).toInt ≠ (sI H0 (td (a3 : Int).toNat) (X.1.2 6 1)).toInt ∨ a5 < 0 ∨ a2 < 0 ∨ (sI H0 (td (a1 : Int).toNat) (X.1.2 6 2)).toInt < a2 + a5 ∨ a4 < 0 ∨ (sI H0 (td (a3 : Int).toNat) (X.1.2 6 2)).toInt < a4 + a5) ∧ (0 : Int32).toInt = 0 ∧ NSm (nC nd H0) (nC nd H58)) := Or.inr ⟨by omega, by decide, ncs⟩
                  have c59 : (0 : Int32).toInt = 0 := (by decide)
                  exact ret 0 H58 locs58 _ _ dX11_pour_118 (Or.inl rfl) ⟨hKp58, hpost⟩ hC58 hS58
            · refine lv_aload_n hx hb dX11_pour_83 rfl (lv_at hl 2 rfl) ?_
              refine lv_bipush (v := 6) hx hb dX11_pour_84 rfl ?_
              refine q_goI (q_runV (As := [.int 6]) (rest := []) E hC0 hS32 (m_X11_deny l X Γ H0 hC0 h0 g0 6 (a1 := 6) (by decide)) cw_X11_deny cl_RX11_128 g0 ⟨rfl, rfl⟩ rfl hl.1 rfl (Nat.zero_le _) (by decide) dX11_pour_86) hS32 (fun v60 H60 locs60 hr60 hC60 hS60 => ?_)
              obtain ⟨hp60, hr60⟩ := hr60
              have hKp60 := hKp0.tr (hp60.mono rfl)
              have ncs : NSm (nC nd H0) (nC nd H60) := nC_kp ncs hp60 sh rfl
              rcases hr60 with ⟨rfl, f60a⟩ | ⟨rfl, -⟩
              · exact absurd f60a (by decide)
              · have hpost : (0 ≤ a1 ∧ a1 ≤ 3 ∧ 0 ≤ a3 ∧ a3 ≤ 3 ∧ 0 ≤ (sI H0 (td (a1 : Int).toNat) (X.1.2 6 2)).toInt ∧ 0 ≤ (sI H0 (td (a3 : Int).toNat) (X.1.2 6 2)).toInt ∧ (sI H0 (td (a1 : Int).toNat) (X.1.2 6 1)).toInt = (sI H0 (td (a3 : Int).toNat) (X.1.2 6 1)).toInt ∧ 0 ≤ a5 ∧ 0 ≤ a2 ∧ a2 + a5 ≤ (sI H0 (td (a1 : Int).toNat) (X.1.2 6 2)).toInt ∧ 0 ≤ a4 ∧ a4 + a5 ≤ (sI H0 (td (a3 : Int).toNat) (X.1.2 6 2)).toInt ∧ (0 : Int32).toInt = 1 ∧ NPr (nC nd H0) (nC nd H60) a1 a2 a3 a4 0 a5) ∨ ((a1 < 0 ∨ 3 < a1 ∨ a3 < 0 ∨ 3 < a3 ∨ (sI H0 (td (a1 : Int).toNat) (X.1.2 6 2)).toInt < 0 ∨ (sI H0 (td (a3 : Int).toNat) (X.1.2 6 2)).toInt < 0 ∨ (sI H0 (td (a1 : Int).toNat) (X.1.2 6 1)).toInt ≠ (sI H0 (td (a3 : Int).toNat) (X.1.2 6 1)).toInt ∨ a5 < 0 ∨ a2 < 0 ∨ (sI H0 (td (a1 : Int).toNat) (X.1.2 6 2)).toInt < a2 + a5 ∨ a4 < 0 ∨ (sI H0 (td (a3 : Int).toNat) (X.1.2 6 2)).toInt < a4 + a5) ∧ (0 : Int32).toInt = 0 ∧ NSm (nC nd H0) (nC nd H60)) := Or.inr ⟨by omega, by decide, ncs⟩
                have c61 : (0 : Int32).toInt = 0 := (by decide)
                exact ret 0 H60 locs60 _ _ dX11_pour_89 (Or.inl rfl) ⟨hKp60, hpost⟩ hC60 hS60
          · refine lv_aload_n hx hb dX11_pour_71 rfl (lv_at hl 2 rfl) ?_
            refine lv_bipush (v := 11) hx hb dX11_pour_72 rfl ?_
            refine q_goI (q_runV (As := [.int 11]) (rest := []) E hC0 hS32 (m_X11_deny l X Γ H0 hC0 h0 g0 11 (a1 := 11) (by decide)) cw_X11_deny cl_RX11_128 g0 ⟨rfl, rfl⟩ rfl hl.1 rfl (Nat.zero_le _) (by decide) dX11_pour_74) hS32 (fun v62 H62 locs62 hr62 hC62 hS62 => ?_)
            obtain ⟨hp62, hr62⟩ := hr62
            have hKp62 := hKp0.tr (hp62.mono rfl)
            have ncs : NSm (nC nd H0) (nC nd H62) := nC_kp ncs hp62 sh rfl
            rcases hr62 with ⟨rfl, f62a⟩ | ⟨rfl, -⟩
            · exact absurd f62a (by decide)
            · have hpost : (0 ≤ a1 ∧ a1 ≤ 3 ∧ 0 ≤ a3 ∧ a3 ≤ 3 ∧ 0 ≤ (sI H0 (td (a1 : Int).toNat) (X.1.2 6 2)).toInt ∧ 0 ≤ (sI H0 (td (a3 : Int).toNat) (X.1.2 6 2)).toInt ∧ (sI H0 (td (a1 : Int).toNat) (X.1.2 6 1)).toInt = (sI H0 (td (a3 : Int).toNat) (X.1.2 6 1)).toInt ∧ 0 ≤ a5 ∧ 0 ≤ a2 ∧ a2 + a5 ≤ (sI H0 (td (a1 : Int).toNat) (X.1.2 6 2)).toInt ∧ 0 ≤ a4 ∧ a4 + a5 ≤ (sI H0 (td (a3 : Int).toNat) (X.1.2 6 2)).toInt ∧ (0 : Int32).toInt = 1 ∧ NPr (nC nd H0) (nC nd H62) a1 a2 a3 a4 0 a5) ∨ ((a1 < 0 ∨ 3 < a1 ∨ a3 < 0 ∨ 3 < a3 ∨ (sI H0 (td (a1 : Int).toNat) (X.1.2 6 2)).toInt < 0 ∨ (sI H0 (td (a3 : Int).toNat) (X.1.2 6 2)).toInt < 0 ∨ (sI H0 (td (a1 : Int).toNat) (X.1.2 6 1)).toInt ≠ (sI H0 (td (a3 : Int).toNat) (X.1.2 6 1)).toInt ∨ a5 < 0 ∨ a2 < 0 ∨ (sI H0 (td (a1 : Int).toNat) (X.1.2 6 2)).toInt < a2 + a5 ∨ a4 < 0 ∨ (sI H0 (td (a3 : Int).toNat) (X.1.2 6 2)).toInt < a4 + a5) ∧ (0 : Int32).toInt = 0 ∧ NSm (nC nd H0) (nC nd H62)) := Or.inr ⟨by omega, by decide, ncs⟩
              have c63 : (0 : Int32).toInt = 0 := (by decide)
              exact ret 0 H62 locs62 _ _ dX11_pour_77 (Or.inl rfl) ⟨hKp62, hpost⟩ hC62 hS62
    · refine q_if_ne hx hb (a := 0) (by decide) (tgt := 20) dX11_pour_11 rfl (fun c64 => absurd c64 (by omega)) (fun c64 => ?_)
      refine lv_aload_n hx hb dX11_pour_14 rfl (lv_at hl 0 rfl) ?_
      refine lv_iconst (v := 1) hx hb dX11_pour_15 rfl ?_
      refine q_goI (q_runV (As := [.int 1]) (rest := []) E hC0 hS23 (m_X11_deny l X Γ H0 hC0 h0 g0 1 (a1 := 1) (by decide)) cw_X11_deny cl_RX11_128 g0 ⟨rfl, rfl⟩ rfl hl.1 rfl (Nat.zero_le _) (by decide) dX11_pour_16) hS23 (fun v65 H65 locs65 hr65 hC65 hS65 => ?_)
      obtain ⟨hp65, hr65⟩ := hr65
      have hKp65 := hKp0.tr (hp65.mono rfl)
      have ncs : NSm (nC nd H0) (nC nd H65) := nC_kp ncs hp65 sh rfl
      rcases hr65 with ⟨rfl, f65a⟩ | ⟨rfl, -⟩
      · exact absurd f65a (by decide)
      · have hpost : (0 ≤ a1 ∧ a1 ≤ 3 ∧ 0 ≤ a3 ∧ a3 ≤ 3 ∧ 0 ≤ (sI H0 (td (a1 : Int).toNat) (X.1.2 6 2)).toInt ∧ 0 ≤ (sI H0 (td (a3 : Int).toNat) (X.1.2 6 2)).toInt ∧ (sI H0 (td (a1 : Int).toNat) (X.1.2 6 1)).toInt = (sI H0 (td (a3 : Int).toNat) (X.1.2 6 1)).toInt ∧ 0 ≤ a5 ∧ 0 ≤ a2 ∧ a2 + a5 ≤ (sI H0 (td (a1 : Int).toNat) (X.1.2 6 2)).toInt ∧ 0 ≤ a4 ∧ a4 + a5 ≤ (sI H0 (td (a3 : Int).toNat) (X.1.2 6 2)).toInt ∧ (0 : Int32).toInt = 1 ∧ NPr (nC nd H0) (nC nd H65) a1 a2 a3 a4 0 a5) ∨ ((a1 < 0 ∨ 3 < a1 ∨ a3 < 0 ∨ 3 < a3 ∨ (sI H0 (td (a1 : Int).toNat) (X.1.2 6 2)).toInt < 0 ∨ (sI H0 (td (a3 : Int).toNat) (X.1.2 6 2)).toInt < 0 ∨ (sI H0 (td (a1 : Int).toNat) (X.1.2 6 1)).toInt ≠ (sI H0 (td (a3 : Int).toNat) (X.1.2 6 1)).toInt ∨ a5 < 0 ∨ a2 < 0 ∨ (sI H0 (td (a1 : Int).toNat) (X.1.2 6 2)).toInt < a2 + a5 ∨ a4 < 0 ∨ (sI H0 (td (a3 : Int).toNat) (X.1.2 6 2)).toInt < a4 + a5) ∧ (0 : Int32).toInt = 0 ∧ NSm (nC nd H0) (nC nd H65)) := Or.inr ⟨by omega, by decide, ncs⟩
        have c66 : (0 : Int32).toInt = 0 := (by decide)
        exact ret 0 H65 locs65 _ _ dX11_pour_19 (Or.inl rfl) ⟨hKp65, hpost⟩ hC65 hS65
  · refine q_if_eq hx hb (a := 0) (by decide) (tgt := 14) dX11_pour_4 rfl (fun c67 => ?_) (fun c67 => absurd c67 (by omega))
    refine lv_aload_n hx hb dX11_pour_14 rfl (lv_at hl 0 rfl) ?_
    refine lv_iconst (v := 1) hx hb dX11_pour_15 rfl ?_
    refine q_goI (q_runV (As := [.int 1]) (rest := []) E hC0 hS21 (m_X11_deny l X Γ H0 hC0 h0 g0 1 (a1 := 1) (by decide)) cw_X11_deny cl_RX11_128 g0 ⟨rfl, rfl⟩ rfl hl.1 rfl (Nat.zero_le _) (by decide) dX11_pour_16) hS21 (fun v68 H68 locs68 hr68 hC68 hS68 => ?_)
    obtain ⟨hp68, hr68⟩ := hr68
    have hKp68 := hKp0.tr (hp68.mono rfl)
    have ncs : NSm (nC nd H0) (nC nd H68) := nC_kp ncs hp68 sh rfl
    rcases hr68 with ⟨rfl, f68a⟩ | ⟨rfl, -⟩
    · exact absurd f68a (by decide)
    · have hpost : (0 ≤ a1 ∧ a1 ≤ 3 ∧ 0 ≤ a3 ∧ a3 ≤ 3 ∧ 0 ≤ (sI H0 (td (a1 : Int).toNat) (X.1.2 6 2)).toInt ∧ 0 ≤ (sI H0 (td (a3 : Int).toNat) (X.1.2 6 2)).toInt ∧ (sI H0 (td (a1 : Int).toNat) (X.1.2 6 1)).toInt = (sI H0 (td (a3 : Int).toNat) (X.1.2 6 1)).toInt ∧ 0 ≤ a5 ∧ 0 ≤ a2 ∧ a2 + a5 ≤ (sI H0 (td (a1 : Int).toNat) (X.1.2 6 2)).toInt ∧ 0 ≤ a4 ∧ a4 + a5 ≤ (sI H0 (td (a3 : Int).toNat) (X.1.2 6 2)).toInt ∧ (0 : Int32).toInt = 1 ∧ NPr (nC nd H0) (nC nd H68) a1 a2 a3 a4 0 a5) ∨ ((a1 < 0 ∨ 3 < a1 ∨ a3 < 0 ∨ 3 < a3 ∨ (sI H0 (td (a1 : Int).toNat) (X.1.2 6 2)).toInt < 0 ∨ (sI H0 (td (a3 : Int).toNat) (X.1.2 6 2)).toInt < 0 ∨ (sI H0 (td (a1 : Int).toNat) (X.1.2 6 1)).toInt ≠ (sI H0 (td (a3 : Int).toNat) (X.1.2 6 1)).toInt ∨ a5 < 0 ∨ a2 < 0 ∨ (sI H0 (td (a1 : Int).toNat) (X.1.2 6 2)).toInt < a2 + a5 ∨ a4 < 0 ∨ (sI H0 (td (a3 : Int).toNat) (X.1.2 6 2)).toInt < a4 + a5) ∧ (0 : Int32).toInt = 0 ∧ NSm (nC nd H0) (nC nd H68)) := Or.inr ⟨by omega, by decide, ncs⟩
      have c69 : (0 : Int32).toInt = 0 := (by decide)
      exact ret 0 H68 locs68 _ _ dX11_pour_19 (Or.inl rfl) ⟨hKp68, hpost⟩ hC68 hS68
set_option maxRecDepth 100000 in
set_option maxHeartbeats 4000000 in
theorem m_X4_append (l : Launch) (X : xW) (Γ : Nat → Option Nat) (H0 : Heap) (hC0 : Conf X Γ H0) (h0 : Nat) (g0 : Γ h0 = some 2) (p1 : Int32) {a1 : Int} (e1 : p1.toInt = a1) (tp : Nat) (htp : sR H0 h0 (X.1.2 4 0) = some tp) (gtp : Γ tp = some 25) (r0 : (sI H0 h0 (X.1.2 4 1)).toInt ≤ 896) : Ctr l X Γ yX4_append cX4_append 3 none 0 [.ref h0, .int p1] H0 (QV X Γ (fun H1 => Kp X Γ [0, 2, 4, 5, 18, 21, 23, 25, 27, 31, 32, 33, 34, 37, 39, 40, 41] H0 H1 ∧ (((sI H1 h0 (X.1.2 4 1)).toInt = (sI H0 h0 (X.1.2 4 1)).toInt + 4) ∧ (APP H0 H1 tp (sI H0 h0 (X.1.2 4 1)).toInt (sI H1 h0 (X.1.2 4 1)).toInt p1)))) := by
  refine q_enterV (own := "SnowForts$Reader") (by decide) rfl (Nat.le_of_ble_eq_true rfl) ?_
  intro p e s m args below meth c ls Qz E hl ret hS0
  have hx := E.1; have hb := E.2.1
  have hKp0 : Kp X Γ [0, 2, 4, 5, 18, 21, 23, 25, 27, 31, 32, 33, 34, 37, 39, 40, 41] H0 H0 := Kp.rf
  have hl : lv_has ls 3 [(0, .ref h0), (1, .int p1)] := hl
  have hz1 := f_bd hC0 g0 (ci := 4) (k := 1) rfl rfl
  refine lv_bipush (v := 24) hx hb dX4_append_0 rfl ?_
  refine lv_istore_n hx hb dX4_append_2 rfl hl (by decide) rfl (fun ls hl => ?_)
  have hl : lv_has ls 3 [(2, .int 24), (0, .ref h0), (1, .int p1)] := hl
  have L3 : ∀ (n22 : Nat) (H22 : Heap) (locs22 : List Loc) (v21 : Int32) (z21 : Int) (ls : Array Slot), (z21 + 1).toNat < n22 → v21.toInt = z21 → -8 ≤ z21 → z21 ≤ 24 → 8 * ((sI H22 h0 (X.1.2 4 1)).toInt - (sI H0 h0 (X.1.2 4 1)).toInt) = 24 - z21 → APP H0 H22 tp (sI H0 h0 (X.1.2 4 1)).toInt (sI H22 h0 (X.1.2 4 1)).toInt p1 → Conf X Γ H22 → va_S (AΓ Γ) H0 H22 locs22 → Kp X Γ [0, 2, 4, 5, 18, 21, 23, 25, 27, 31, 32, 33, 34, 37, 39, 40, 41] H0 H22 → lv_has ls 3 [(2, .int v21), (0, .ref h0), (1, .int p1)] → W p l e (rmL 0) s m args below meth c H22 locs22 0 0 Qz (F0 m 3 ls []) := by
    intro n22
    induction n22 with
    | zero => intro H22 locs22 v21 z21 ls hm22 ev21 iv22_0 iv22_1 iv22_2 iv22_3 hC22 hS22 hKp22 hl; exact absurd hm22 (Nat.not_lt_zero _)
    | succ n22 ih22 =>
      intro H22 locs22 v21 z21 ls hm22 ev21 iv22_0 iv22_1 iv22_2 iv22_3 hC22 hS22 hKp22 hl
      have hz2 := f_bd hC22 g0 (ci := 4) (k := 1) rfl rfl
      have hap := iv22_3
      refine lv_iload_n hx hb dX4_append_3 rfl (lv_at hl 0 rfl) ?_
      refine q_if_lt hx hb (a := z21) ev21 (tgt := 53) dX4_append_4 rfl (fun c23 => ?_) (fun c23 => ?_)
      · have hapf : APP H0 H22 tp (sI H0 h0 (X.1.2 4 1)).toInt (sI H22 h0 (X.1.2 4 1)).toInt p1 := hap
        exact ret H22 locs22 _ _ dX4_append_53 ⟨hKp22, ⟨by omega, hapf⟩⟩ hC22 hS22
      · refine lv_aload_n hx hb dX4_append_7 rfl (lv_at hl 1 rfl) ?_
        refine q_getI E hC22 g0 fa_RX4_39 dX4_append_8 (fun v24 ev24 lv24 uv24 => ?_)
        have m25 : (sI H22 h0 (X.1.2 4 1)).toInt = v24.toInt := (congrArg Int32.toInt ev24).trans rfl
        refine q_if_lt hx hb (a := v24.toInt) rfl (tgt := 47) dX4_append_11 rfl (fun c26 => absurd c26 (by omega)) (fun c26 => ?_)
        refine lv_aload_n hx hb dX4_append_14 rfl (lv_at hl 1 rfl) ?_
        refine q_getI E hC22 g0 fa_RX4_39 dX4_append_15 (fun v27 ev27 lv27 uv27 => ?_)
        have qv27 := ev24.symm.trans ev27; subst qv27
        refine lv_sipush (v := 900) hx hb dX4_append_18 rfl ?_
        refine q_icmp_ge hx hb (a := v24.toInt) (b := 900) rfl (by decide) (tgt := 47) dX4_append_21 rfl (fun c28 => ?_) (fun c28 => ?_)
        · obtain ⟨v29, ev29⟩ : ∃ z, z = v21 + Int32.ofInt (-8) := ⟨_, rfl⟩
          have ev29i : v29.toInt = (z21 + (-8)) := i_add ev29 ev21 (by decide) (by omega) (by omega)
          refine lv_iinc hx hb dX4_append_47 hl (k := 0) rfl ev29.symm (by decide) rfl (fun ls hl => ?_)
          have hl : lv_has ls 3 [(2, .int v29), (0, .ref h0), (1, .int p1)] := hl
          refine lv_goto (tgt := 3) hx hb dX4_append_50 rfl ?_
          exact ih22 H22 locs22 v29 ((z21 + (-8))) ls (by omega) ev29i (by omega) (by omega) (by omega) (by first | exact hap | exact hap3.cast rfl (by omega)) hC22 hS22 hKp22 hl
        · refine lv_aload_n hx hb dX4_append_24 rfl (lv_at hl 1 rfl) ?_
          refine q_getS E hC22 g0 fa_RX4_9 ((kp_R hKp22 g0 (ci := 4) (k := 0) rfl (by decide) rfl).trans htp) dX4_append_25 (fun _ => ?_)
          refine lv_aload_n hx hb dX4_append_28 rfl (lv_at hl 1 rfl) ?_
          refine q_getI E hC22 g0 fa_RX4_39 dX4_append_29 (fun v30 ev30 lv30 uv30 => ?_)
          have qv30 := ev24.symm.trans ev30; subst qv30
          refine lv_iload_n hx hb dX4_append_32 rfl (lv_at hl 2 rfl) ?_
          refine lv_iload_n hx hb dX4_append_33 rfl (lv_at hl 0 rfl) ?_
          refine lv_ishr hx hb dX4_append_34 (lv_topi (fun v31 ev31 => ?_))
          have qs := ev31; have qs2 := ev21
          refine lv_i2b hx hb dX4_append_35 rfl (lv_topi (fun v32 ev32 => ?_))
          have qb := ev32
          refine q_bast E hC22 hS22 gtp (by decide) rfl rfl (fun _ => rfl) (i_in (a := v24.toInt) rfl (by omega) (by omega)) dX4_append_36 (fun H33 locs33 hC33 hS33 U33 => ?_)
          have hKp33 := Kp.upA gtp rfl (by decide) rfl U33 hKp22
          have m34 : (sI H33 h0 (X.1.2 4 1)).toInt = (sI H22 h0 (X.1.2 4 1)).toInt := congrArg Int32.toInt (up_nI U33 (ne_k g0 gtp (by decide)))
          have hap2 := APP.step hap U33 (by rw [i_ix rfl]; omega) (by omega) (s := _) (by rw [qb, qs]; rfl) (qs2.trans (by omega))
          refine lv_aload_n hx hb dX4_append_37 rfl (lv_at hl 1 rfl) ?_
          refine lv_dup hx hb dX4_append_38 rfl ?_
          have e36 := (up_nI U33 (ne_k g0 gtp (by decide))).trans ev24
          refine q_getI E hC33 g0 fa_RX4_39 dX4_append_39 (fun v35 ev35 lv35 uv35 => ?_)
          have qv35 := e36.symm.trans ev35; subst qv35
          have m37 : (sI H33 h0 (X.1.2 4 1)).toInt = v24.toInt := (congrArg Int32.toInt ev35).trans rfl
          refine lv_iconst (v := 1) hx hb dX4_append_42 rfl ?_
          refine lv_iadd hx hb dX4_append_43 (lv_topi (fun v38 ev38 => ?_))
          have ev38i : v38.toInt = (v24.toInt + 1) := i_add ev38 rfl (by decide) (by omega) (by omega)
          refine q_put E hC33 hS33 g0 fp_RX4_39 (tv_I ev38i (by omega) (by omega)) rfl rfl dX4_append_44 (fun H39 locs39 hC39 hS39 U39 => ?_)
          have hKp39 := Kp.upO E g0 fp_RX4_39 rfl U39 hKp33
          have e40 := up_I U39
          have m41 : (sI H39 h0 (X.1.2 4 1)).toInt = (v24.toInt + 1) := (congrArg Int32.toInt e40).trans ev38i
          have hap3 := hap2.ne U39 (nek g0 gtp (by decide))
          obtain ⟨v42, ev42⟩ : ∃ z, z = v21 + Int32.ofInt (-8) := ⟨_, rfl⟩
          have ev42i : v42.toInt = (z21 + (-8)) := i_add ev42 ev21 (by decide) (by omega) (by omega)
          refine lv_iinc hx hb dX4_append_47 hl (k := 0) rfl ev42.symm (by decide) rfl (fun ls hl => ?_)
          have hl : lv_has ls 3 [(2, .int v42), (0, .ref h0), (1, .int p1)] := hl
          refine lv_goto (tgt := 3) hx hb dX4_append_50 rfl ?_
          exact ih22 H39 locs39 v42 ((z21 + (-8))) ls (by omega) ev42i (by omega) (by omega) (by omega) (by first | exact hap | exact hap3.cast rfl (by omega)) hC39 hS39 hKp39 hl
  exact L3 _ H0 [] 24 24 ls (Nat.lt_succ_self _) (by decide) (by omega) (by omega) (by omega) (APP.nil) hC0 hS0 hKp0 hl
set_option maxRecDepth 100000 in
set_option maxHeartbeats 4000000 in
theorem m_X11_feed (l : Launch) (X : xW) (Γ : Nat → Option Nat) (H0 : Heap) (hC0 : Conf X Γ H0) (h0 : Nat) (g0 : Γ h0 = some 0) (p1 : Int32) {a1 : Int} (e1 : p1.toInt = a1) (p2 : Int32) {a2 : Int} (e2 : p2.toInt = a2) (p3 : Int32) {a3 : Int} (e3 : p3.toInt = a3) (p4 : Int32) {a4 : Int} (e4 : p4.toInt = a4) (p5 : Int32) {a5 : Int} (e5 : p5.toInt = a5) (ra : Nat) (gra : Γ ra = some 2) (ur : ∀ a, Γ a = some 2 → a = ra) (tp : Nat) (htp : sR H0 ra (X.1.2 4 0) = some tp) (gtp : Γ tp = some 25) : Ctr l X Γ yX11_feed cX11_feed 6 (some .int) 1 [.ref h0, .int p1, .int p2, .int p3, .int p4, .int p5] H0 (QI X Γ (fun v H1 => Kp X Γ [0, 2, 4, 5, 18, 21, 23, 25, 27, 31, 32, 33, 34, 37, 39, 40, 41] H0 H1 ∧ (((880 < (sI H0 ra (X.1.2 4 1)).toInt ∧ v.toInt = -1 ∧ (sI H1 ra (X.1.2 4 1)).toInt = (sI H0 ra (X.1.2 4 1)).toInt) ∨ ((sI H0 ra (X.1.2 4 1)).toInt ≤ 880 ∧ v.toInt = (sI H0 ra (X.1.2 4 1)).toInt + 20 ∧ (sI H1 ra (X.1.2 4 1)).toInt = (sI H0 ra (X.1.2 4 1)).toInt + 20)) ∧ (FDR H0 H1 tp (sI H0 ra (X.1.2 4 1)).toInt p1 p2 p3 p4 p5)))) := by
  refine q_enterI (own := "SnowForts") (by decide) rfl (Nat.le_of_ble_eq_true rfl) ?_
  intro p e s m args below meth c ls Qz E hl ret hS0
  have hx := E.1; have hb := E.2.1
  have hKp0 : Kp X Γ [0, 2, 4, 5, 18, 21, 23, 25, 27, 31, 32, 33, 34, 37, 39, 40, 41] H0 H0 := Kp.rf
  have hl : lv_has ls 6 [(0, .ref h0), (1, .int p1), (2, .int p2), (3, .int p3), (4, .int p4), (5, .int p5)] := hl
  refine lv_aload_n hx hb dX11_feed_0 rfl (lv_at hl 0 rfl) ?_
  refine q_getU E hC0 g0 fa_RX11_19 ur dX11_feed_1 ?_
  refine q_getI E hC0 gra fa_RX11_171 dX11_feed_4 (fun v21 ev21 lv21 uv21 => ?_)
  have m22 : (sI H0 ra (X.1.2 4 1)).toInt = v21.toInt := congrArg Int32.toInt ev21
  refine lv_sipush (v := 880) hx hb dX11_feed_7 rfl ?_
  refine q_icmp_le hx hb (a := v21.toInt) (b := 880) rfl (by decide) (tgt := 15) dX11_feed_10 rfl (fun c23 => ?_) (fun c23 => ?_)
  · refine lv_aload_n hx hb dX11_feed_15 rfl (lv_at hl 0 rfl) ?_
    refine q_getU E hC0 g0 fa_RX11_19 ur dX11_feed_16 ?_
    refine lv_iload_n hx hb dX11_feed_19 rfl (lv_at hl 1 rfl) ?_
    refine q_goV (q_runV (As := [.int p1]) (rest := []) E hC0 hS0 (m_X4_append l X Γ H0 hC0 ra gra p1 (a1 := a1) e1 tp htp gtp (by omega)) cw_X4_append cl_RX11_174 gra ⟨rfl, rfl⟩ rfl hl.1 rfl (Nat.zero_le _) (by decide) dX11_feed_20) hS0 (fun H24 locs24 hr24 hC24 hS24 => ?_)
    obtain ⟨hp24, hr24⟩ := hr24
    have hKp24 := hKp0.tr (hp24.mono rfl)
    obtain ⟨f24_0, f24_1⟩ := hr24
    have a1 := f24_1
    refine lv_aload_n hx hb dX11_feed_23 rfl (lv_at hl 0 rfl) ?_
    refine q_getU E hC24 g0 fa_RX11_19 ur dX11_feed_24 ?_
    refine lv_iload_n hx hb dX11_feed_27 rfl (lv_at hl 2 rfl) ?_
    refine q_goV (q_runV (As := [.int p2]) (rest := []) E hC24 hS24 (m_X4_append l X Γ H24 hC24 ra gra p2 (a1 := a2) e2 tp ((kp_R hKp24 gra (ci := 4) (k := 0) rfl (by decide) rfl).trans htp) gtp (by omega)) cw_X4_append cl_RX11_174 gra ⟨rfl, rfl⟩ rfl hl.1 rfl (Nat.zero_le _) (by decide) dX11_feed_28) hS24 (fun H25 locs25 hr25 hC25 hS25 => ?_)
    obtain ⟨hp25, hr25⟩ := hr25
    have hKp25 := hKp24.tr (hp25.mono rfl)
    obtain ⟨f25_0, f25_1⟩ := hr25
    have a2 := f25_1
    refine lv_aload_n hx hb dX11_feed_31 rfl (lv_at hl 0 rfl) ?_
    refine q_getU E hC25 g0 fa_RX11_19 ur dX11_feed_32 ?_
    refine lv_iload_n hx hb dX11_feed_35 rfl (lv_at hl 3 rfl) ?_
    refine q_goV (q_runV (As := [.int p3]) (rest := []) E hC25 hS25 (m_X4_append l X Γ H25 hC25 ra gra p3 (a1 := a3) e3 tp ((kp_R hKp25 gra (ci := 4) (k := 0) rfl (by decide) rfl).trans htp) gtp (by omega)) cw_X4_append cl_RX11_174 gra ⟨rfl, rfl⟩ rfl hl.1 rfl (Nat.zero_le _) (by decide) dX11_feed_36) hS25 (fun H26 locs26 hr26 hC26 hS26 => ?_)
    obtain ⟨hp26, hr26⟩ := hr26
    have hKp26 := hKp25.tr (hp26.mono rfl)
    obtain ⟨f26_0, f26_1⟩ := hr26
    have a3 := f26_1
    refine lv_aload_n hx hb dX11_feed_39 rfl (lv_at hl 0 rfl) ?_
    refine q_getU E hC26 g0 fa_RX11_19 ur dX11_feed_40 ?_
    refine lv_iload hx hb dX11_feed_43 (lv_at hl 4 rfl) ?_
    refine q_goV (q_runV (As := [.int p4]) (rest := []) E hC26 hS26 (m_X4_append l X Γ H26 hC26 ra gra p4 (a1 := a4) e4 tp ((kp_R hKp26 gra (ci := 4) (k := 0) rfl (by decide) rfl).trans htp) gtp (by omega)) cw_X4_append cl_RX11_174 gra ⟨rfl, rfl⟩ rfl hl.1 rfl (Nat.zero_le _) (by decide) dX11_feed_45) hS26 (fun H27 locs27 hr27 hC27 hS27 => ?_)
    obtain ⟨hp27, hr27⟩ := hr27
    have hKp27 := hKp26.tr (hp27.mono rfl)
    obtain ⟨f27_0, f27_1⟩ := hr27
    have a4 := f27_1
    refine lv_aload_n hx hb dX11_feed_48 rfl (lv_at hl 0 rfl) ?_
    refine q_getU E hC27 g0 fa_RX11_19 ur dX11_feed_49 ?_
    refine lv_iload hx hb dX11_feed_52 (lv_at hl 5 rfl) ?_
    refine q_goV (q_runV (As := [.int p5]) (rest := []) E hC27 hS27 (m_X4_append l X Γ H27 hC27 ra gra p5 (a1 := a5) e5 tp ((kp_R hKp27 gra (ci := 4) (k := 0) rfl (by decide) rfl).trans htp) gtp (by omega)) cw_X4_append cl_RX11_174 gra ⟨rfl, rfl⟩ rfl hl.1 rfl (Nat.zero_le _) (by decide) dX11_feed_54) hS27 (fun H28 locs28 hr28 hC28 hS28 => ?_)
    obtain ⟨hp28, hr28⟩ := hr28
    have hKp28 := hKp27.tr (hp28.mono rfl)
    obtain ⟨f28_0, f28_1⟩ := hr28
    have a5 := f28_1
    refine lv_aload_n hx hb dX11_feed_57 rfl (lv_at hl 0 rfl) ?_
    refine q_getU E hC28 g0 fa_RX11_19 ur dX11_feed_58 ?_
    refine q_getI E hC28 gra fa_RX11_171 dX11_feed_61 (fun v29 ev29 lv29 uv29 => ?_)
    have m30 : (sI H28 ra (X.1.2 4 1)).toInt = v29.toInt := congrArg Int32.toInt ev29
    have hfd : FDR H0 H28 tp (sI H0 ra (X.1.2 4 1)).toInt p1 p2 p3 p4 p5 := Or.inr ⟨by omega, _, _, _, _, a1.cast (by omega) (by omega), a2.cast (by omega) (by omega), a3.cast (by omega) (by omega), a4.cast (by omega) (by omega), a5.cast (by omega) (by omega)⟩
    have c31 : v29.toInt = v29.toInt := rfl
    exact ret v29 H28 locs28 _ _ dX11_feed_64 ⟨hKp28, ⟨by omega, hfd⟩⟩ hC28 hS28
  · refine lv_iconst (v := (-1)) hx hb dX11_feed_13 rfl ?_
    have hfd : FDR H0 H0 tp (sI H0 ra (X.1.2 4 1)).toInt p1 p2 p3 p4 p5 := Or.inl ⟨by omega, fun _ => rfl⟩
    have c32 : ((-1) : Int32).toInt = (-1) := (by decide)
    exact ret (-1) H0 [] _ _ dX11_feed_14 ⟨hKp0, ⟨by omega, hfd⟩⟩ hC0 hS0
set_option maxRecDepth 100000 in
set_option maxHeartbeats 4000000 in
theorem m_X9_clear (l : Launch) (X : xW) (Γ : Nat → Option Nat) (H0 : Heap) (hC0 : Conf X Γ H0) (h0 : Nat) (g0 : Γ h0 = some 5) : Ctr l X Γ yX9_clear cX9_clear 1 none 1 [.ref h0] H0 (QV X Γ (fun H1 => Kp X Γ [0, 2, 3, 4, 5, 18, 21, 23, 25, 27, 29, 31, 32, 34, 37, 39, 41] H0 H1 ∧ ((YCL X Γ H1 h0) ∧ (AKY X Γ H0 H1 h0)))) := by
  refine q_enterV (own := "SnowForts$Yard") (by decide) rfl (Nat.le_of_ble_eq_true rfl) ?_
  intro p e s m args below meth c ls Qz E hl ret hS0
  have hx := E.1; have hb := E.2.1
  have hKp0 : Kp X Γ [0, 2, 3, 4, 5, 18, 21, 23, 25, 27, 29, 31, 32, 34, 37, 39, 41] H0 H0 := Kp.rf
  have hl : lv_has ls 1 [(0, .ref h0)] := hl
  obtain ⟨ar, har, gar⟩ := f_ref hC0 g0 (ci := 8) (kf := 10) rfl rfl
  have ark : ARK Γ H0 H0 ar := ARK.rf
  refine lv_aload_n hx hb dX9_clear_0 rfl (lv_at hl 0 rfl) ?_
  refine lv_iconst (v := 2) hx hb dX9_clear_1 rfl ?_
  refine q_put E hC0 hS0 g0 fp_RX9_9 tv_F rfl rfl dX9_clear_2 (fun H21 locs21 hC21 hS21 U21 => ?_)
  have hKp21 := Kp.upO E g0 fp_RX9_9 rfl U21 hKp0
  have e22 := up_I U21
  have m23 : (sI H21 h0 (X.1.2 8 0)).toInt = 2 := (congrArg Int32.toInt e22).trans (show (2 : Int32).toInt = 2 from by decide)
  have ark : ARK Γ H0 H21 ar := ark.ne U21 g0 (by decide)
  have m24 : (sI H21 h0 (X.1.2 8 1)).toInt = (sI H0 h0 (X.1.2 8 1)).toInt := congrArg Int32.toInt (up_nI U21 (ne_f E 8 1 0 rfl (by decide) (by decide) (by decide)))
  have m25 : (sI H21 h0 (X.1.2 8 2)).toInt = (sI H0 h0 (X.1.2 8 2)).toInt := congrArg Int32.toInt (up_nI U21 (ne_f E 8 2 0 rfl (by decide) (by decide) (by decide)))
  refine lv_aload_n hx hb dX9_clear_5 rfl (lv_at hl 0 rfl) ?_
  refine lv_iconst (v := 1) hx hb dX9_clear_6 rfl ?_
  refine q_put E hC21 hS21 g0 fp_RX9_15 tv_F rfl rfl dX9_clear_7 (fun H26 locs26 hC26 hS26 U26 => ?_)
  have hKp26 := Kp.upO E g0 fp_RX9_15 rfl U26 hKp21
  have e27 := up_I U26
  have m28 : (sI H26 h0 (X.1.2 8 1)).toInt = 1 := (congrArg Int32.toInt e27).trans (show (1 : Int32).toInt = 1 from by decide)
  have ark : ARK Γ H0 H26 ar := ark.ne U26 g0 (by decide)
  have m29 : (sI H26 h0 (X.1.2 8 0)).toInt = (sI H21 h0 (X.1.2 8 0)).toInt := congrArg Int32.toInt (up_nI U26 (ne_f E 8 0 1 rfl (by decide) (by decide) (by decide)))
  have m30 : (sI H26 h0 (X.1.2 8 2)).toInt = (sI H21 h0 (X.1.2 8 2)).toInt := congrArg Int32.toInt (up_nI U26 (ne_f E 8 2 1 rfl (by decide) (by decide) (by decide)))
  refine lv_aload_n hx hb dX9_clear_10 rfl (lv_at hl 0 rfl) ?_
  refine lv_iconst (v := 0) hx hb dX9_clear_11 rfl ?_
  refine q_put E hC26 hS26 g0 fp_RX9_52 tv_F rfl rfl dX9_clear_12 (fun H31 locs31 hC31 hS31 U31 => ?_)
  have hKp31 := Kp.upO E g0 fp_RX9_52 rfl U31 hKp26
  have e32 := up_I U31
  have m33 : (sI H31 h0 (X.1.2 8 2)).toInt = 0 := (congrArg Int32.toInt e32).trans (show (0 : Int32).toInt = 0 from by decide)
  have ark : ARK Γ H0 H31 ar := ark.ne U31 g0 (by decide)
  have m34 : (sI H31 h0 (X.1.2 8 0)).toInt = (sI H26 h0 (X.1.2 8 0)).toInt := congrArg Int32.toInt (up_nI U31 (ne_f E 8 0 2 rfl (by decide) (by decide) (by decide)))
  have m35 : (sI H31 h0 (X.1.2 8 1)).toInt = (sI H26 h0 (X.1.2 8 1)).toInt := congrArg Int32.toInt (up_nI U31 (ne_f E 8 1 2 rfl (by decide) (by decide) (by decide)))
  refine lv_aload_n hx hb dX9_clear_15 rfl (lv_at hl 0 rfl) ?_
  refine lv_iconst (v := 0) hx hb dX9_clear_16 rfl ?_
  refine q_put E hC31 hS31 g0 fp_RX9_55 tv_F rfl rfl dX9_clear_17 (fun H36 locs36 hC36 hS36 U36 => ?_)
  have hKp36 := Kp.upO E g0 fp_RX9_55 rfl U36 hKp31
  have e37 := up_I U36
  have ark : ARK Γ H0 H36 ar := ark.ne U36 g0 (by decide)
  have m38 : (sI H36 h0 (X.1.2 8 0)).toInt = (sI H31 h0 (X.1.2 8 0)).toInt := congrArg Int32.toInt (up_nI U36 (ne_f E 8 0 3 rfl (by decide) (by decide) (by decide)))
  have m39 : (sI H36 h0 (X.1.2 8 1)).toInt = (sI H31 h0 (X.1.2 8 1)).toInt := congrArg Int32.toInt (up_nI U36 (ne_f E 8 1 3 rfl (by decide) (by decide) (by decide)))
  have m40 : (sI H36 h0 (X.1.2 8 2)).toInt = (sI H31 h0 (X.1.2 8 2)).toInt := congrArg Int32.toInt (up_nI U36 (ne_f E 8 2 3 rfl (by decide) (by decide) (by decide)))
  refine lv_aload_n hx hb dX9_clear_20 rfl (lv_at hl 0 rfl) ?_
  refine lv_iconst (v := 0) hx hb dX9_clear_21 rfl ?_
  refine q_put E hC36 hS36 g0 fp_RX9_58 tv_F rfl rfl dX9_clear_22 (fun H41 locs41 hC41 hS41 U41 => ?_)
  have hKp41 := Kp.upO E g0 fp_RX9_58 rfl U41 hKp36
  have e42 := up_I U41
  have ark : ARK Γ H0 H41 ar := ark.ne U41 g0 (by decide)
  have m43 : (sI H41 h0 (X.1.2 8 0)).toInt = (sI H36 h0 (X.1.2 8 0)).toInt := congrArg Int32.toInt (up_nI U41 (ne_f E 8 0 4 rfl (by decide) (by decide) (by decide)))
  have m44 : (sI H41 h0 (X.1.2 8 1)).toInt = (sI H36 h0 (X.1.2 8 1)).toInt := congrArg Int32.toInt (up_nI U41 (ne_f E 8 1 4 rfl (by decide) (by decide) (by decide)))
  have m45 : (sI H41 h0 (X.1.2 8 2)).toInt = (sI H36 h0 (X.1.2 8 2)).toInt := congrArg Int32.toInt (up_nI U41 (ne_f E 8 2 4 rfl (by decide) (by decide) (by decide)))
  refine lv_aload_n hx hb dX9_clear_25 rfl (lv_at hl 0 rfl) ?_
  refine lv_iconst (v := 0) hx hb dX9_clear_26 rfl ?_
  refine q_put E hC41 hS41 g0 fp_RX9_61 tv_F rfl rfl dX9_clear_27 (fun H46 locs46 hC46 hS46 U46 => ?_)
  have hKp46 := Kp.upO E g0 fp_RX9_61 rfl U46 hKp41
  have e47 := up_I U46
  have ark : ARK Γ H0 H46 ar := ark.ne U46 g0 (by decide)
  have m48 : (sI H46 h0 (X.1.2 8 0)).toInt = (sI H41 h0 (X.1.2 8 0)).toInt := congrArg Int32.toInt (up_nI U46 (ne_f E 8 0 5 rfl (by decide) (by decide) (by decide)))
  have m49 : (sI H46 h0 (X.1.2 8 1)).toInt = (sI H41 h0 (X.1.2 8 1)).toInt := congrArg Int32.toInt (up_nI U46 (ne_f E 8 1 5 rfl (by decide) (by decide) (by decide)))
  have m50 : (sI H46 h0 (X.1.2 8 2)).toInt = (sI H41 h0 (X.1.2 8 2)).toInt := congrArg Int32.toInt (up_nI U46 (ne_f E 8 2 5 rfl (by decide) (by decide) (by decide)))
  refine lv_aload_n hx hb dX9_clear_30 rfl (lv_at hl 0 rfl) ?_
  refine lv_iconst (v := 0) hx hb dX9_clear_31 rfl ?_
  refine q_put E hC46 hS46 g0 fp_RX9_64 tv_F rfl rfl dX9_clear_32 (fun H51 locs51 hC51 hS51 U51 => ?_)
  have hKp51 := Kp.upO E g0 fp_RX9_64 rfl U51 hKp46
  have e52 := up_I U51
  have ark : ARK Γ H0 H51 ar := ark.ne U51 g0 (by decide)
  have m53 : (sI H51 h0 (X.1.2 8 0)).toInt = (sI H46 h0 (X.1.2 8 0)).toInt := congrArg Int32.toInt (up_nI U51 (ne_f E 8 0 6 rfl (by decide) (by decide) (by decide)))
  have m54 : (sI H51 h0 (X.1.2 8 1)).toInt = (sI H46 h0 (X.1.2 8 1)).toInt := congrArg Int32.toInt (up_nI U51 (ne_f E 8 1 6 rfl (by decide) (by decide) (by decide)))
  have m55 : (sI H51 h0 (X.1.2 8 2)).toInt = (sI H46 h0 (X.1.2 8 2)).toInt := congrArg Int32.toInt (up_nI U51 (ne_f E 8 2 6 rfl (by decide) (by decide) (by decide)))
  have gsy := g0
  have yw : (sI H51 h0 (X.1.2 8 0)).toInt = 2 := by omega
  have yh : (sI H51 h0 (X.1.2 8 1)).toInt = 1 := by omega
  have yc : (sI H51 h0 (X.1.2 8 2)).toInt = 0 := by omega
  refine lv_aload_n hx hb dX9_clear_35 rfl (lv_at hl 0 rfl) ?_
  refine q_getR E hC51 g0 fa_RX9_18 dX9_clear_36 (fun q56 eq56 gq56 => ?_)
  refine lv_iconst (v := 0) hx hb dX9_clear_39 rfl ?_
  refine q_goV (q_runS (As := [.ref q56, .int 0]) (rest := []) E hS51 (m_fillI l X Γ H51 hC51 q56 gq56 (by decide) rfl rfl (fun _ => rfl) (by decide) 0) cw_J7_fill_53178 cl_RX9_67 rfl hl.1 rfl (Nat.zero_le _) (by decide) dX9_clear_40) hS51 (fun H57 locs57 U57 hC57 hS57 => ?_)
  obtain ⟨U57, F57⟩ := U57
  have hKp57 := Kp.upC gq56 rfl (by decide) rfl U57 hKp51
  have ark : ARK Γ H0 H57 ar := ark.cp U57 gq56 (by decide)
  have yw : (sI H57 h0 (X.1.2 8 0)).toInt = 2 := (congrArg Int32.toInt (cp_I U57 (nek gsy gq56 (by decide)))).trans yw
  have yh : (sI H57 h0 (X.1.2 8 1)).toInt = 1 := (congrArg Int32.toInt (cp_I U57 (nek gsy gq56 (by decide)))).trans yh
  have yc : (sI H57 h0 (X.1.2 8 2)).toInt = 0 := (congrArg Int32.toInt (cp_I U57 (nek gsy gq56 (by decide)))).trans yc
  refine lv_aload_n hx hb dX9_clear_43 rfl (lv_at hl 0 rfl) ?_
  refine q_getR E hC57 g0 fa_RX9_22 dX9_clear_44 (fun q58 eq58 gq58 => ?_)
  refine lv_iconst (v := 0) hx hb dX9_clear_47 rfl ?_
  refine q_goV (q_runS (As := [.ref q58, .int 0]) (rest := []) E hS57 (m_fillI l X Γ H57 hC57 q58 gq58 (by decide) rfl rfl (fun _ => rfl) (by decide) 0) cw_J7_fill_53178 cl_RX9_67 rfl hl.1 rfl (Nat.zero_le _) (by decide) dX9_clear_48) hS57 (fun H59 locs59 U59 hC59 hS59 => ?_)
  obtain ⟨U59, F59⟩ := U59
  have hKp59 := Kp.upC gq58 rfl (by decide) rfl U59 hKp57
  have ark : ARK Γ H0 H59 ar := ark.cp U59 gq58 (by decide)
  have yw : (sI H59 h0 (X.1.2 8 0)).toInt = 2 := (congrArg Int32.toInt (cp_I U59 (nek gsy gq58 (by decide)))).trans yw
  have yh : (sI H59 h0 (X.1.2 8 1)).toInt = 1 := (congrArg Int32.toInt (cp_I U59 (nek gsy gq58 (by decide)))).trans yh
  have yc : (sI H59 h0 (X.1.2 8 2)).toInt = 0 := (congrArg Int32.toInt (cp_I U59 (nek gsy gq58 (by decide)))).trans yc
  refine lv_aload_n hx hb dX9_clear_51 rfl (lv_at hl 0 rfl) ?_
  refine q_getR E hC59 g0 fa_RX9_25 dX9_clear_52 (fun q60 eq60 gq60 => ?_)
  refine lv_iconst (v := 0) hx hb dX9_clear_55 rfl ?_
  refine q_goV (q_runS (As := [.ref q60, .int 0]) (rest := []) E hS59 (m_fillI l X Γ H59 hC59 q60 gq60 (by decide) rfl rfl (fun _ => rfl) (by decide) 0) cw_J7_fill_53178 cl_RX9_67 rfl hl.1 rfl (Nat.zero_le _) (by decide) dX9_clear_56) hS59 (fun H61 locs61 U61 hC61 hS61 => ?_)
  obtain ⟨U61, F61⟩ := U61
  have hKp61 := Kp.upC gq60 rfl (by decide) rfl U61 hKp59
  have ark : ARK Γ H0 H61 ar := ark.cp U61 gq60 (by decide)
  have yw : (sI H61 h0 (X.1.2 8 0)).toInt = 2 := (congrArg Int32.toInt (cp_I U61 (nek gsy gq60 (by decide)))).trans yw
  have yh : (sI H61 h0 (X.1.2 8 1)).toInt = 1 := (congrArg Int32.toInt (cp_I U61 (nek gsy gq60 (by decide)))).trans yh
  have yc : (sI H61 h0 (X.1.2 8 2)).toInt = 0 := (congrArg Int32.toInt (cp_I U61 (nek gsy gq60 (by decide)))).trans yc
  refine lv_aload_n hx hb dX9_clear_59 rfl (lv_at hl 0 rfl) ?_
  refine q_getS E hC61 g0 fa_RX9_28 ((kp_R hKp61 g0 (ci := 8) (k := 10) rfl (by decide) rfl).trans har) dX9_clear_60 (fun _ => ?_)
  refine lv_iconst (v := (-1)) hx hb dX9_clear_63 rfl ?_
  refine q_goV (q_runS (As := [.ref ar, .int (-1)]) (rest := []) E hS61 (m_fillI l X Γ H61 hC61 ar gar (by decide) rfl rfl (fun _ => rfl) (by decide) (-1)) cw_J7_fill_53178 cl_RX9_67 rfl hl.1 rfl (Nat.zero_le _) (by decide) dX9_clear_64) hS61 (fun H62 locs62 U62 hC62 hS62 => ?_)
  obtain ⟨U62, F62⟩ := U62
  have hKp62 := Kp.upC gar rfl (by decide) rfl U62 hKp61
  have yw : (sI H62 h0 (X.1.2 8 0)).toInt = 2 := (congrArg Int32.toInt (cp_I U62 (nek gsy gar (by decide)))).trans yw
  have yh : (sI H62 h0 (X.1.2 8 1)).toInt = 1 := (congrArg Int32.toInt (cp_I U62 (nek gsy gar (by decide)))).trans yh
  have yc : (sI H62 h0 (X.1.2 8 2)).toInt = 0 := (congrArg Int32.toInt (cp_I U62 (nek gsy gar (by decide)))).trans yc
  have car : ∀ k : Nat, k < 4 → (sI H62 ar k).toInt = -1 := fun k hk => by rw [F62 k hk]; rfl
  have ark : ARK Γ H0 H62 ar := ark.cpt U62 rfl
  refine lv_aload_n hx hb dX9_clear_67 rfl (lv_at hl 0 rfl) ?_
  refine q_getR E hC62 g0 fa_RX9_31 dX9_clear_68 (fun q63 eq63 gq63 => ?_)
  refine lv_iconst (v := 0) hx hb dX9_clear_71 rfl ?_
  refine q_goV (q_runS (As := [.ref q63, .int 0]) (rest := []) E hS62 (m_fillI l X Γ H62 hC62 q63 gq63 (by decide) rfl rfl (fun _ => rfl) (by decide) 0) cw_J7_fill_53178 cl_RX9_67 rfl hl.1 rfl (Nat.zero_le _) (by decide) dX9_clear_72) hS62 (fun H64 locs64 U64 hC64 hS64 => ?_)
  obtain ⟨U64, F64⟩ := U64
  have hKp64 := Kp.upC gq63 rfl (by decide) rfl U64 hKp62
  have yw : (sI H64 h0 (X.1.2 8 0)).toInt = 2 := (congrArg Int32.toInt (cp_I U64 (nek gsy gq63 (by decide)))).trans yw
  have yh : (sI H64 h0 (X.1.2 8 1)).toInt = 1 := (congrArg Int32.toInt (cp_I U64 (nek gsy gq63 (by decide)))).trans yh
  have yc : (sI H64 h0 (X.1.2 8 2)).toInt = 0 := (congrArg Int32.toInt (cp_I U64 (nek gsy gq63 (by decide)))).trans yc
  have car : ∀ k : Nat, k < 4 → (sI H64 ar k).toInt = -1 := fun k hk => by rw [cp_I U64 (nek gar gq63 (by decide))]; exact car k hk
  have ark : ARK Γ H0 H64 ar := ark.cp U64 gq63 (by decide)
  refine lv_aload_n hx hb dX9_clear_75 rfl (lv_at hl 0 rfl) ?_
  refine q_getR E hC64 g0 fa_RX9_34 dX9_clear_76 (fun q65 eq65 gq65 => ?_)
  refine lv_iconst (v := 0) hx hb dX9_clear_79 rfl ?_
  refine q_goV (q_runS (As := [.ref q65, .int 0]) (rest := []) E hS64 (m_fillI l X Γ H64 hC64 q65 gq65 (by decide) rfl rfl (fun _ => rfl) (by decide) 0) cw_J7_fill_53178 cl_RX9_67 rfl hl.1 rfl (Nat.zero_le _) (by decide) dX9_clear_80) hS64 (fun H66 locs66 U66 hC66 hS66 => ?_)
  obtain ⟨U66, F66⟩ := U66
  have hKp66 := Kp.upC gq65 rfl (by decide) rfl U66 hKp64
  have yw : (sI H66 h0 (X.1.2 8 0)).toInt = 2 := (congrArg Int32.toInt (cp_I U66 (nek gsy gq65 (by decide)))).trans yw
  have yh : (sI H66 h0 (X.1.2 8 1)).toInt = 1 := (congrArg Int32.toInt (cp_I U66 (nek gsy gq65 (by decide)))).trans yh
  have yc : (sI H66 h0 (X.1.2 8 2)).toInt = 0 := (congrArg Int32.toInt (cp_I U66 (nek gsy gq65 (by decide)))).trans yc
  have car : ∀ k : Nat, k < 4 → (sI H66 ar k).toInt = -1 := fun k hk => by rw [cp_I U66 (nek gar gq65 (by decide))]; exact car k hk
  have ark : ARK Γ H0 H66 ar := ark.cp U66 gq65 (by decide)
  refine lv_aload_n hx hb dX9_clear_83 rfl (lv_at hl 0 rfl) ?_
  refine q_getR E hC66 g0 fa_RX9_37 dX9_clear_84 (fun q67 eq67 gq67 => ?_)
  refine lv_iconst (v := 0) hx hb dX9_clear_87 rfl ?_
  refine q_goV (q_runS (As := [.ref q67, .int 0]) (rest := []) E hS66 (m_fillI l X Γ H66 hC66 q67 gq67 (by decide) rfl rfl (fun _ => rfl) (by decide) 0) cw_J7_fill_53178 cl_RX9_67 rfl hl.1 rfl (Nat.zero_le _) (by decide) dX9_clear_88) hS66 (fun H68 locs68 U68 hC68 hS68 => ?_)
  obtain ⟨U68, F68⟩ := U68
  have hKp68 := Kp.upC gq67 rfl (by decide) rfl U68 hKp66
  have yw : (sI H68 h0 (X.1.2 8 0)).toInt = 2 := (congrArg Int32.toInt (cp_I U68 (nek gsy gq67 (by decide)))).trans yw
  have yh : (sI H68 h0 (X.1.2 8 1)).toInt = 1 := (congrArg Int32.toInt (cp_I U68 (nek gsy gq67 (by decide)))).trans yh
  have yc : (sI H68 h0 (X.1.2 8 2)).toInt = 0 := (congrArg Int32.toInt (cp_I U68 (nek gsy gq67 (by decide)))).trans yc
  have car : ∀ k : Nat, k < 4 → (sI H68 ar k).toInt = -1 := fun k hk => by rw [cp_I U68 (nek gar gq67 (by decide))]; exact car k hk
  have ark : ARK Γ H0 H68 ar := ark.cp U68 gq67 (by decide)
  refine lv_aload_n hx hb dX9_clear_91 rfl (lv_at hl 0 rfl) ?_
  refine q_getR E hC68 g0 fa_RX9_40 dX9_clear_92 (fun q69 eq69 gq69 => ?_)
  refine lv_iconst (v := 0) hx hb dX9_clear_95 rfl ?_
  refine q_goV (q_runS (As := [.ref q69, .int 0]) (rest := []) E hS68 (m_fillI l X Γ H68 hC68 q69 gq69 (by decide) rfl rfl (fun _ => rfl) (by decide) 0) cw_J7_fill_53178 cl_RX9_67 rfl hl.1 rfl (Nat.zero_le _) (by decide) dX9_clear_96) hS68 (fun H70 locs70 U70 hC70 hS70 => ?_)
  obtain ⟨U70, F70⟩ := U70
  have hKp70 := Kp.upC gq69 rfl (by decide) rfl U70 hKp68
  have yw : (sI H70 h0 (X.1.2 8 0)).toInt = 2 := (congrArg Int32.toInt (cp_I U70 (nek gsy gq69 (by decide)))).trans yw
  have yh : (sI H70 h0 (X.1.2 8 1)).toInt = 1 := (congrArg Int32.toInt (cp_I U70 (nek gsy gq69 (by decide)))).trans yh
  have yc : (sI H70 h0 (X.1.2 8 2)).toInt = 0 := (congrArg Int32.toInt (cp_I U70 (nek gsy gq69 (by decide)))).trans yc
  have car : ∀ k : Nat, k < 4 → (sI H70 ar k).toInt = -1 := fun k hk => by rw [cp_I U70 (nek gar gq69 (by decide))]; exact car k hk
  have ark : ARK Γ H0 H70 ar := ark.cp U70 gq69 (by decide)
  refine lv_aload_n hx hb dX9_clear_99 rfl (lv_at hl 0 rfl) ?_
  refine q_getR E hC70 g0 fa_RX9_43 dX9_clear_100 (fun q71 eq71 gq71 => ?_)
  refine lv_iconst (v := 0) hx hb dX9_clear_103 rfl ?_
  refine q_goV (q_runS (As := [.ref q71, .int 0]) (rest := []) E hS70 (m_fillI l X Γ H70 hC70 q71 gq71 (by decide) rfl rfl (fun _ => rfl) (by decide) 0) cw_J7_fill_53178 cl_RX9_67 rfl hl.1 rfl (Nat.zero_le _) (by decide) dX9_clear_104) hS70 (fun H72 locs72 U72 hC72 hS72 => ?_)
  obtain ⟨U72, F72⟩ := U72
  have hKp72 := Kp.upC gq71 rfl (by decide) rfl U72 hKp70
  have yw : (sI H72 h0 (X.1.2 8 0)).toInt = 2 := (congrArg Int32.toInt (cp_I U72 (nek gsy gq71 (by decide)))).trans yw
  have yh : (sI H72 h0 (X.1.2 8 1)).toInt = 1 := (congrArg Int32.toInt (cp_I U72 (nek gsy gq71 (by decide)))).trans yh
  have yc : (sI H72 h0 (X.1.2 8 2)).toInt = 0 := (congrArg Int32.toInt (cp_I U72 (nek gsy gq71 (by decide)))).trans yc
  have car : ∀ k : Nat, k < 4 → (sI H72 ar k).toInt = -1 := fun k hk => by rw [cp_I U72 (nek gar gq71 (by decide))]; exact car k hk
  have ark : ARK Γ H0 H72 ar := ark.cp U72 gq71 (by decide)
  refine lv_aload_n hx hb dX9_clear_107 rfl (lv_at hl 0 rfl) ?_
  refine q_getR E hC72 g0 fa_RX9_46 dX9_clear_108 (fun q73 eq73 gq73 => ?_)
  refine lv_iconst (v := 0) hx hb dX9_clear_111 rfl ?_
  refine q_goV (q_runS (As := [.ref q73, .int 0]) (rest := []) E hS72 (m_fillI l X Γ H72 hC72 q73 gq73 (by decide) rfl rfl (fun _ => rfl) (by decide) 0) cw_J7_fill_53178 cl_RX9_67 rfl hl.1 rfl (Nat.zero_le _) (by decide) dX9_clear_112) hS72 (fun H74 locs74 U74 hC74 hS74 => ?_)
  obtain ⟨U74, F74⟩ := U74
  have hKp74 := Kp.upC gq73 rfl (by decide) rfl U74 hKp72
  have yw : (sI H74 h0 (X.1.2 8 0)).toInt = 2 := (congrArg Int32.toInt (cp_I U74 (nek gsy gq73 (by decide)))).trans yw
  have yh : (sI H74 h0 (X.1.2 8 1)).toInt = 1 := (congrArg Int32.toInt (cp_I U74 (nek gsy gq73 (by decide)))).trans yh
  have yc : (sI H74 h0 (X.1.2 8 2)).toInt = 0 := (congrArg Int32.toInt (cp_I U74 (nek gsy gq73 (by decide)))).trans yc
  have car : ∀ k : Nat, k < 4 → (sI H74 ar k).toInt = -1 := fun k hk => by rw [cp_I U74 (nek gar gq73 (by decide))]; exact car k hk
  have ark : ARK Γ H0 H74 ar := ark.cp U74 gq73 (by decide)
  refine lv_aload_n hx hb dX9_clear_115 rfl (lv_at hl 0 rfl) ?_
  refine q_getR E hC74 g0 fa_RX9_49 dX9_clear_116 (fun q75 eq75 gq75 => ?_)
  refine lv_iconst (v := 0) hx hb dX9_clear_119 rfl ?_
  refine q_goV (q_runS (As := [.ref q75, .int 0]) (rest := []) E hS74 (m_fillI l X Γ H74 hC74 q75 gq75 (by decide) rfl rfl (fun _ => rfl) (by decide) 0) cw_J7_fill_53178 cl_RX9_67 rfl hl.1 rfl (Nat.zero_le _) (by decide) dX9_clear_120) hS74 (fun H76 locs76 U76 hC76 hS76 => ?_)
  obtain ⟨U76, F76⟩ := U76
  have hKp76 := Kp.upC gq75 rfl (by decide) rfl U76 hKp74
  have yw : (sI H76 h0 (X.1.2 8 0)).toInt = 2 := (congrArg Int32.toInt (cp_I U76 (nek gsy gq75 (by decide)))).trans yw
  have yh : (sI H76 h0 (X.1.2 8 1)).toInt = 1 := (congrArg Int32.toInt (cp_I U76 (nek gsy gq75 (by decide)))).trans yh
  have yc : (sI H76 h0 (X.1.2 8 2)).toInt = 0 := (congrArg Int32.toInt (cp_I U76 (nek gsy gq75 (by decide)))).trans yc
  have car : ∀ k : Nat, k < 4 → (sI H76 ar k).toInt = -1 := fun k hk => by rw [cp_I U76 (nek gar gq75 (by decide))]; exact car k hk
  have ark : ARK Γ H0 H76 ar := ark.cp U76 gq75 (by decide)
  have hpost : YCL X Γ H76 h0 := ⟨yw, yh, yc, ar, (kp_R hKp76 g0 (ci := 8) (k := 10) rfl (by decide) rfl).trans har, gar, car⟩
  exact ret H76 locs76 _ _ dX9_clear_123 ⟨hKp76, ⟨hpost, AKY.of har ark⟩⟩ hC76 hS76
set_option maxRecDepth 100000 in
set_option maxHeartbeats 4000000 in
theorem m_X4_byteAt (l : Launch) (X : xW) (Γ : Nat → Option Nat) (H0 : Heap) (hC0 : Conf X Γ H0) (h0 : Nat) (g0 : Γ h0 = some 2) (p1 : Int32) {a1 : Int} (e1 : p1.toInt = a1) (tp : Nat) (htp : sR H0 h0 (X.1.2 4 0) = some tp) (gtp : Γ tp = some 25) : Ctr l X Γ yX4_byteAt cX4_byteAt 2 (some .int) 0 [.ref h0, .int p1] H0 (QI X Γ (fun v H1 => H1 = H0 ∧ (((a1 < 0 ∨ (sI H0 h0 (X.1.2 4 6)).toInt ≤ a1 ∨ 900 ≤ a1) ∧ v.toInt = -1 ∨ 0 ≤ a1 ∧ a1 < (sI H0 h0 (X.1.2 4 6)).toInt ∧ a1 < 900 ∧ v.toInt = bf H0 tp (a1).toNat)))) := by
  refine q_enterI (own := "SnowForts$Reader") (by decide) rfl (Nat.le_of_ble_eq_true rfl) ?_
  intro p e s m args below meth c ls Qz E hl ret hS0
  have hx := E.1; have hb := E.2.1
  have hl : lv_has ls 2 [(0, .ref h0), (1, .int p1)] := hl
  refine lv_iload_n hx hb dX4_byteAt_0 rfl (lv_at hl 1 rfl) ?_
  refine q_if_lt hx hb (a := a1) e1 (tgt := 28) dX4_byteAt_1 rfl (fun c21 => ?_) (fun c21 => ?_)
  · refine lv_iconst (v := (-1)) hx hb dX4_byteAt_28 rfl ?_
    have c22 : ((-1) : Int32).toInt = (-1) := (by decide)
    exact ret (-1) H0 [] _ _ dX4_byteAt_29 ⟨rfl, by omega⟩ hC0 hS0
  · refine lv_iload_n hx hb dX4_byteAt_4 rfl (lv_at hl 1 rfl) ?_
    refine lv_aload_n hx hb dX4_byteAt_5 rfl (lv_at hl 0 rfl) ?_
    refine q_getI E hC0 g0 fa_RX4_48 dX4_byteAt_6 (fun v23 ev23 _ _ => ?_)
    have m24 : (sI H0 h0 (X.1.2 4 6)).toInt = v23.toInt := (congrArg Int32.toInt ev23).trans rfl
    have c25 := i_rng v23; rw [show v23.toInt = v23.toInt from rfl] at c25
    refine q_icmp_ge hx hb (a := a1) (b := v23.toInt) e1 rfl (tgt := 28) dX4_byteAt_9 rfl (fun c26 => ?_) (fun c26 => ?_)
    · refine lv_iconst (v := (-1)) hx hb dX4_byteAt_28 rfl ?_
      have c27 : ((-1) : Int32).toInt = (-1) := (by decide)
      exact ret (-1) H0 [] _ _ dX4_byteAt_29 ⟨rfl, by omega⟩ hC0 hS0
    · refine lv_iload_n hx hb dX4_byteAt_12 rfl (lv_at hl 1 rfl) ?_
      refine lv_sipush (v := 900) hx hb dX4_byteAt_13 rfl ?_
      refine q_icmp_ge hx hb (a := a1) (b := 900) e1 (by decide) (tgt := 28) dX4_byteAt_16 rfl (fun c28 => ?_) (fun c28 => ?_)
      · refine lv_iconst (v := (-1)) hx hb dX4_byteAt_28 rfl ?_
        have c29 : ((-1) : Int32).toInt = (-1) := (by decide)
        exact ret (-1) H0 [] _ _ dX4_byteAt_29 ⟨rfl, by omega⟩ hC0 hS0
      · refine lv_aload_n hx hb dX4_byteAt_19 rfl (lv_at hl 0 rfl) ?_
        refine q_getS E hC0 g0 fa_RX4_9 htp dX4_byteAt_20 (fun _ => ?_)
        refine lv_iload_n hx hb dX4_byteAt_23 rfl (lv_at hl 1 rfl) ?_
        refine q_bald E hC0 gtp rfl rfl (fun _ h => h) (i_in (a := a1) e1 (by omega) (by omega)) dX4_byteAt_24 (fun v30 ev30 lv30 uv30 => ?_)
        have hbv : v30.toInt = bf H0 tp (a1).toNat := by rw [← ev30, i_ix e1]; rfl
        refine lv_goto (tgt := 29) hx hb dX4_byteAt_25 rfl ?_
        have c31 : v30.toInt = v30.toInt := rfl
        exact ret v30 H0 [] _ _ dX4_byteAt_29 ⟨rfl, by omega⟩ hC0 hS0
set_option maxRecDepth 100000 in
set_option maxHeartbeats 4000000 in
theorem m_X4_passBlanks (l : Launch) (X : xW) (Γ : Nat → Option Nat) (H0 : Heap) (hC0 : Conf X Γ H0) (h0 : Nat) (g0 : Γ h0 = some 2) (tp : Nat) (htp : sR H0 h0 (X.1.2 4 0) = some tp) (gtp : Γ tp = some 25) (r0 : 0 ≤ (sI H0 h0 (X.1.2 4 7)).toInt) (r1 : (sI H0 h0 (X.1.2 4 6)).toInt ≤ 900) (r2 : (sI H0 h0 (X.1.2 4 7)).toInt ≤ (sI H0 h0 (X.1.2 4 6)).toInt) : Ctr l X Γ yX4_passBlanks cX4_passBlanks 1 none 1 [.ref h0] H0 (QV X Γ (fun H1 => Kp X Γ [0, 2, 3, 4, 5, 18, 21, 23, 25, 27, 29, 31, 32, 33, 34, 37, 39, 40, 41] H0 H1 ∧ ((SpZ isBl (bf H0 tp) (sI H0 h0 (X.1.2 4 6)).toInt (sI H0 h0 (X.1.2 4 7)).toInt (sI H1 h0 (X.1.2 4 7)).toInt) ∧ ((sI H1 h0 (X.1.2 4 6)).toInt = (sI H0 h0 (X.1.2 4 6)).toInt) ∧ ((sI H0 h0 (X.1.2 4 7)).toInt ≤ (sI H1 h0 (X.1.2 4 7)).toInt) ∧ ((sI H1 h0 (X.1.2 4 7)).toInt ≤ (sI H1 h0 (X.1.2 4 6)).toInt)))) := by
  refine q_enterV (own := "SnowForts$Reader") (by decide) rfl (Nat.le_of_ble_eq_true rfl) ?_
  intro p e s m args below meth c ls Qz E hl ret hS0
  have hx := E.1; have hb := E.2.1
  have hKp0 : Kp X Γ [0, 2, 3, 4, 5, 18, 21, 23, 25, 27, 29, 31, 32, 33, 34, 37, 39, 40, 41] H0 H0 := Kp.rf
  have hl : lv_has ls 1 [(0, .ref h0)] := hl
  have tpt : ∀ j, sI H0 tp j = sI H0 tp j := fun _ => rfl
  have L0 : ∀ (n21 : Nat) (H21 : Heap) (locs21 : List Loc) (ls : Array Slot), ((sI H21 h0 (X.1.2 4 6)).toInt - (sI H21 h0 (X.1.2 4 7)).toInt).toNat < n21 → (sI H0 h0 (X.1.2 4 7)).toInt ≤ (sI H21 h0 (X.1.2 4 7)).toInt → (sI H21 h0 (X.1.2 4 6)).toInt = (sI H0 h0 (X.1.2 4 6)).toInt → SpP isBl (bf H0 tp) (sI H0 h0 (X.1.2 4 6)).toInt (sI H0 h0 (X.1.2 4 7)).toInt (sI H21 h0 (X.1.2 4 7)).toInt → (sI H21 h0 (X.1.2 4 7)).toInt ≤ (sI H21 h0 (X.1.2 4 6)).toInt → Conf X Γ H21 → va_S (AΓ Γ) H0 H21 locs21 → Kp X Γ [0, 2, 3, 4, 5, 18, 21, 23, 25, 27, 29, 31, 32, 33, 34, 37, 39, 40, 41] H0 H21 → (∀ j, sI H21 tp j = sI H0 tp j) → lv_has ls 1 [(0, .ref h0)] → W p l e (rmL 1) s m args below meth c H21 locs21 0 0 Qz (F0 m 0 ls []) := by
    intro n21
    induction n21 with
    | zero => intro H21 locs21 ls hm21 iv21_0 iv21_1 iv21_2 iv21_3 hC21 hS21 hKp21 tpt hl; exact absurd hm21 (Nat.not_lt_zero _)
    | succ n21 ih21 =>
      intro H21 locs21 ls hm21 iv21_0 iv21_1 iv21_2 iv21_3 hC21 hS21 hKp21 tpt hl
      have hsp := iv21_2
      refine lv_aload_n hx hb dX4_passBlanks_0 rfl (lv_at hl 0 rfl) ?_
      refine q_getI E hC21 g0 fa_RX4_51 dX4_passBlanks_1 (fun v22 ev22 _ _ => ?_)
      have m23 : (sI H21 h0 (X.1.2 4 7)).toInt = v22.toInt := (congrArg Int32.toInt ev22).trans rfl
      refine lv_aload_n hx hb dX4_passBlanks_4 rfl (lv_at hl 0 rfl) ?_
      refine q_getI E hC21 g0 fa_RX4_48 dX4_passBlanks_5 (fun v24 ev24 _ _ => ?_)
      have m25 : (sI H21 h0 (X.1.2 4 6)).toInt = v24.toInt := (congrArg Int32.toInt ev24).trans rfl
      have c26 := i_rng v22; rw [show v22.toInt = v22.toInt from rfl] at c26
      have c27 := i_rng v24; rw [show v24.toInt = v24.toInt from rfl] at c27
      refine q_icmp_ge hx hb (a := v22.toInt) (b := v24.toInt) rfl rfl (tgt := 50) dX4_passBlanks_8 rfl (fun c28 => ?_) (fun c28 => ?_)
      · have hpost : SpZ isBl (bf H0 tp) (sI H0 h0 (X.1.2 4 6)).toInt (sI H0 h0 (X.1.2 4 7)).toInt (sI H21 h0 (X.1.2 4 7)).toInt := by first | exact ⟨hsp, fun q => absurd q.1 (by omega)⟩ | exact ⟨hsp, fun q => by have q2 := q.2; rw [hz1] at q2; unfold isBl at q2; omega⟩
        exact ret H21 locs21 _ _ dX4_passBlanks_50 ⟨hKp21, ⟨hpost, by omega, by omega, by omega⟩⟩ hC21 hS21
      · refine lv_aload_n hx hb dX4_passBlanks_11 rfl (lv_at hl 0 rfl) ?_
        refine lv_aload_n hx hb dX4_passBlanks_12 rfl (lv_at hl 0 rfl) ?_
        refine q_getI E hC21 g0 fa_RX4_51 dX4_passBlanks_13 (fun v29 ev29 _ _ => ?_)
        have qv29 := ev22.symm.trans ev29; subst qv29
        refine q_goIp (q_runV (As := [.int v22]) (rest := []) E hC21 hS21 (m_X4_byteAt l X Γ H21 hC21 h0 g0 v22 (a1 := v22.toInt) rfl tp ((kp_R hKp21 g0 (ci := 4) (k := 0) rfl (by decide) rfl).trans htp) gtp) cw_X4_byteAt cl_RX4_78 g0 ⟨rfl, rfl⟩ rfl hl.1 rfl (Nat.zero_le _) (by decide) dX4_passBlanks_16) hS21 (fun v30 locs30 hr30 hS30 => ?_)
        have f30_0 := hr30
        have hb1 : v30.toInt = bf H0 tp (v22.toInt : Int).toNat := BA.get f30_0 tpt (by omega) (by omega) (by omega)
        have hz1 : (sI H21 h0 (X.1.2 4 7)).toInt = v22.toInt := by omega
        have hst := fun hP => (hsp.cast hz1).step (by omega) (by omega) (show isBl (bf H0 tp (v22.toInt : Int).toNat) from hP)
        refine lv_bipush (v := 10) hx hb dX4_passBlanks_19 rfl ?_
        refine q_icmp_eq hx hb (a := v30.toInt) (b := 10) rfl (by decide) (tgt := 37) dX4_passBlanks_21 rfl (fun c31 => ?_) (fun c31 => ?_)
        · refine lv_aload_n hx hb dX4_passBlanks_37 rfl (lv_at hl 0 rfl) ?_
          refine lv_dup hx hb dX4_passBlanks_38 rfl ?_
          refine q_getI E hC21 g0 fa_RX4_51 dX4_passBlanks_39 (fun v32 ev32 _ _ => ?_)
          have qv32 := ev22.symm.trans ev32; subst qv32
          refine lv_iconst (v := 1) hx hb dX4_passBlanks_42 rfl ?_
          refine lv_iadd hx hb dX4_passBlanks_43 (lv_topi (fun v33 ev33 => ?_))
          have ev33i : v33.toInt = (v22.toInt + 1) := i_add ev33 rfl (by decide) (by omega) (by omega)
          refine q_put E hC21 hS30 g0 fp_RX4_51 tv_F rfl rfl dX4_passBlanks_44 (fun H34 locs34 hC34 hS34 U34 => ?_)
          have hKp34 := Kp.upO E g0 fp_RX4_51 rfl U34 hKp21
          have e35 := up_I U34
          have m36 : (sI H34 h0 (X.1.2 4 7)).toInt = (v22.toInt + 1) := (congrArg Int32.toInt e35).trans ev33i
          have tpt : ∀ j, sI H34 tp j = sI H0 tp j := fun j => (up_nI U34 (ne_k gtp g0 (by decide))).trans (tpt j)
          have m37 : (sI H34 h0 (X.1.2 4 6)).toInt = (sI H21 h0 (X.1.2 4 6)).toInt := congrArg Int32.toInt (up_nI U34 (ne_f E 4 6 7 rfl (by decide) (by decide) (by decide)))
          refine lv_goto (tgt := 0) hx hb dX4_passBlanks_47 rfl ?_
          have m1_length : (sI H21 h0 (X.1.2 4 6)).toInt = v24.toInt := (congrArg Int32.toInt ev24).trans rfl
          have e38 := (up_nI U34 (ne_f E 4 6 7 rfl (by decide) (by decide) (by decide))).trans ev24
          have m2_length : (sI H34 h0 (X.1.2 4 6)).toInt = v24.toInt := (congrArg Int32.toInt e38).trans rfl
          have m1_next : (sI H21 h0 (X.1.2 4 7)).toInt = v22.toInt := (congrArg Int32.toInt ev22).trans rfl
          have m2_next : (sI H34 h0 (X.1.2 4 7)).toInt = (v22.toInt + 1) := (congrArg Int32.toInt e35).trans ev33i
          exact ih21 H34 locs34 ls (by omega) (by omega) (by omega) (SpP.cast (hst (by unfold isBl; omega)) (by omega)) (by omega) hC34 hS34 hKp34 tpt hl
        · refine lv_aload_n hx hb dX4_passBlanks_24 rfl (lv_at hl 0 rfl) ?_
          refine lv_aload_n hx hb dX4_passBlanks_25 rfl (lv_at hl 0 rfl) ?_
          refine q_getI E hC21 g0 fa_RX4_51 dX4_passBlanks_26 (fun v39 ev39 _ _ => ?_)
          have qv39 := ev22.symm.trans ev39; subst qv39
          refine q_goIp (q_runV (As := [.int v22]) (rest := []) E hC21 hS30 (m_X4_byteAt l X Γ H21 hC21 h0 g0 v22 (a1 := v22.toInt) rfl tp ((kp_R hKp21 g0 (ci := 4) (k := 0) rfl (by decide) rfl).trans htp) gtp) cw_X4_byteAt cl_RX4_78 g0 ⟨rfl, rfl⟩ rfl hl.1 rfl (Nat.zero_le _) (by decide) dX4_passBlanks_29) hS30 (fun v40 locs40 hr40 hS40 => ?_)
          have f40_0 := hr40
          have hb2 : v40.toInt = bf H0 tp (v22.toInt : Int).toNat := BA.get f40_0 tpt (by omega) (by omega) (by omega)
          refine lv_bipush (v := 32) hx hb dX4_passBlanks_32 rfl ?_
          refine q_icmp_ne hx hb (a := v40.toInt) (b := 32) rfl (by decide) (tgt := 50) dX4_passBlanks_34 rfl (fun c41 => ?_) (fun c41 => ?_)
          · have hpost : SpZ isBl (bf H0 tp) (sI H0 h0 (X.1.2 4 6)).toInt (sI H0 h0 (X.1.2 4 7)).toInt (sI H21 h0 (X.1.2 4 7)).toInt := by first | exact ⟨hsp, fun q => absurd q.1 (by omega)⟩ | exact ⟨hsp, fun q => by have q2 := q.2; rw [hz1] at q2; unfold isBl at q2; omega⟩
            exact ret H21 locs40 _ _ dX4_passBlanks_50 ⟨hKp21, ⟨hpost, by omega, by omega, by omega⟩⟩ hC21 hS40
          · refine lv_aload_n hx hb dX4_passBlanks_37 rfl (lv_at hl 0 rfl) ?_
            refine lv_dup hx hb dX4_passBlanks_38 rfl ?_
            refine q_getI E hC21 g0 fa_RX4_51 dX4_passBlanks_39 (fun v42 ev42 _ _ => ?_)
            have qv42 := ev22.symm.trans ev42; subst qv42
            refine lv_iconst (v := 1) hx hb dX4_passBlanks_42 rfl ?_
            refine lv_iadd hx hb dX4_passBlanks_43 (lv_topi (fun v43 ev43 => ?_))
            have ev43i : v43.toInt = (v22.toInt + 1) := i_add ev43 rfl (by decide) (by omega) (by omega)
            refine q_put E hC21 hS40 g0 fp_RX4_51 tv_F rfl rfl dX4_passBlanks_44 (fun H44 locs44 hC44 hS44 U44 => ?_)
            have hKp44 := Kp.upO E g0 fp_RX4_51 rfl U44 hKp21
            have e45 := up_I U44
            have m46 : (sI H44 h0 (X.1.2 4 7)).toInt = (v22.toInt + 1) := (congrArg Int32.toInt e45).trans ev43i
            have tpt : ∀ j, sI H44 tp j = sI H0 tp j := fun j => (up_nI U44 (ne_k gtp g0 (by decide))).trans (tpt j)
            have m47 : (sI H44 h0 (X.1.2 4 6)).toInt = (sI H21 h0 (X.1.2 4 6)).toInt := congrArg Int32.toInt (up_nI U44 (ne_f E 4 6 7 rfl (by decide) (by decide) (by decide)))
            refine lv_goto (tgt := 0) hx hb dX4_passBlanks_47 rfl ?_
            have m1_length : (sI H21 h0 (X.1.2 4 6)).toInt = v24.toInt := (congrArg Int32.toInt ev24).trans rfl
            have e48 := (up_nI U44 (ne_f E 4 6 7 rfl (by decide) (by decide) (by decide))).trans ev24
            have m2_length : (sI H44 h0 (X.1.2 4 6)).toInt = v24.toInt := (congrArg Int32.toInt e48).trans rfl
            have m1_next : (sI H21 h0 (X.1.2 4 7)).toInt = v22.toInt := (congrArg Int32.toInt ev22).trans rfl
            have m2_next : (sI H44 h0 (X.1.2 4 7)).toInt = (v22.toInt + 1) := (congrArg Int32.toInt e45).trans ev43i
            exact ih21 H44 locs44 ls (by omega) (by omega) (by omega) (SpP.cast (hst (by unfold isBl; omega)) (by omega)) (by omega) hC44 hS44 hKp44 tpt hl
  exact L0 _ H0 [] ls (Nat.lt_succ_self _) (by omega) (by omega) (SpP.nil) (by omega) hC0 hS0 hKp0 tpt hl
set_option maxRecDepth 100000 in
set_option maxHeartbeats 4000000 in
theorem m_X4_isLetter (l : Launch) (X : xW) (Γ : Nat → Option Nat) (H0 : Heap) (hC0 : Conf X Γ H0) (p0 : Int32) {a0 : Int} (e0 : p0.toInt = a0) : Ctr l X Γ yX4_isLetter cX4_isLetter 1 (some .boolean) 0 [.int p0] H0 (QI X Γ (fun v H1 => H1 = H0 ∧ ((v = 1 ∧ (isLt a0)) ∨ (v = 0 ∧ (¬ isLt a0))))) := by
  refine q_enterZ (own := "SnowForts$Reader") (by decide) rfl (Nat.le_of_ble_eq_true rfl) ?_
  intro p e s m args below meth c ls Qz E hl ret hS0
  have hx := E.1; have hb := E.2.1
  have hl : lv_has ls 1 [(0, .int p0)] := hl
  refine lv_iload_n hx hb dX4_isLetter_0 rfl (lv_at hl 0 rfl) ?_
  refine lv_bipush (v := 97) hx hb dX4_isLetter_1 rfl ?_
  refine q_icmp_lt hx hb (a := a0) (b := 97) e0 (by decide) (tgt := 16) dX4_isLetter_3 rfl (fun c21 => ?_) (fun c21 => ?_)
  · refine lv_iconst (v := 0) hx hb dX4_isLetter_16 rfl ?_
    exact ret 0 H0 [] _ _ dX4_isLetter_17 (Or.inl rfl) ⟨rfl, Or.inr ⟨rfl, (by unfold isLt; omega)⟩⟩ hC0 hS0
  · refine lv_iload_n hx hb dX4_isLetter_6 rfl (lv_at hl 0 rfl) ?_
    refine lv_bipush (v := 122) hx hb dX4_isLetter_7 rfl ?_
    refine q_icmp_gt hx hb (a := a0) (b := 122) e0 (by decide) (tgt := 16) dX4_isLetter_9 rfl (fun c22 => ?_) (fun c22 => ?_)
    · refine lv_iconst (v := 0) hx hb dX4_isLetter_16 rfl ?_
      exact ret 0 H0 [] _ _ dX4_isLetter_17 (Or.inl rfl) ⟨rfl, Or.inr ⟨rfl, (by unfold isLt; omega)⟩⟩ hC0 hS0
    · refine lv_iconst (v := 1) hx hb dX4_isLetter_12 rfl ?_
      refine lv_goto (tgt := 17) hx hb dX4_isLetter_13 rfl ?_
      exact ret 1 H0 [] _ _ dX4_isLetter_17 (Or.inr rfl) ⟨rfl, Or.inl ⟨rfl, (by unfold isLt; omega)⟩⟩ hC0 hS0
set_option maxRecDepth 100000 in
set_option maxHeartbeats 4000000 in
theorem m_X4_isDigit (l : Launch) (X : xW) (Γ : Nat → Option Nat) (H0 : Heap) (hC0 : Conf X Γ H0) (p0 : Int32) {a0 : Int} (e0 : p0.toInt = a0) : Ctr l X Γ yX4_isDigit cX4_isDigit 1 (some .boolean) 0 [.int p0] H0 (QI X Γ (fun v H1 => H1 = H0 ∧ ((v = 1 ∧ (isDg a0)) ∨ (v = 0 ∧ (¬ isDg a0))))) := by
  refine q_enterZ (own := "SnowForts$Reader") (by decide) rfl (Nat.le_of_ble_eq_true rfl) ?_
  intro p e s m args below meth c ls Qz E hl ret hS0
  have hx := E.1; have hb := E.2.1
  have hl : lv_has ls 1 [(0, .int p0)] := hl
  refine lv_iload_n hx hb dX4_isDigit_0 rfl (lv_at hl 0 rfl) ?_
  refine lv_bipush (v := 48) hx hb dX4_isDigit_1 rfl ?_
  refine q_icmp_lt hx hb (a := a0) (b := 48) e0 (by decide) (tgt := 16) dX4_isDigit_3 rfl (fun c21 => ?_) (fun c21 => ?_)
  · refine lv_iconst (v := 0) hx hb dX4_isDigit_16 rfl ?_
    exact ret 0 H0 [] _ _ dX4_isDigit_17 (Or.inl rfl) ⟨rfl, Or.inr ⟨rfl, (by unfold isDg; omega)⟩⟩ hC0 hS0
  · refine lv_iload_n hx hb dX4_isDigit_6 rfl (lv_at hl 0 rfl) ?_
    refine lv_bipush (v := 57) hx hb dX4_isDigit_7 rfl ?_
    refine q_icmp_gt hx hb (a := a0) (b := 57) e0 (by decide) (tgt := 16) dX4_isDigit_9 rfl (fun c22 => ?_) (fun c22 => ?_)
    · refine lv_iconst (v := 0) hx hb dX4_isDigit_16 rfl ?_
      exact ret 0 H0 [] _ _ dX4_isDigit_17 (Or.inl rfl) ⟨rfl, Or.inr ⟨rfl, (by unfold isDg; omega)⟩⟩ hC0 hS0
    · refine lv_iconst (v := 1) hx hb dX4_isDigit_12 rfl ?_
      refine lv_goto (tgt := 17) hx hb dX4_isDigit_13 rfl ?_
      exact ret 1 H0 [] _ _ dX4_isDigit_17 (Or.inr rfl) ⟨rfl, Or.inl ⟨rfl, (by unfold isDg; omega)⟩⟩ hC0 hS0
set_option maxRecDepth 100000 in
set_option maxHeartbeats 4000000 in
theorem m_X4_kindHere (l : Launch) (X : xW) (Γ : Nat → Option Nat) (H0 : Heap) (hC0 : Conf X Γ H0) (h0 : Nat) (g0 : Γ h0 = some 2) (tp : Nat) (htp : sR H0 h0 (X.1.2 4 0) = some tp) (gtp : Γ tp = some 25) (r0 : 0 ≤ (sI H0 h0 (X.1.2 4 7)).toInt) (r1 : (sI H0 h0 (X.1.2 4 6)).toInt ≤ 900) (r2 : (sI H0 h0 (X.1.2 4 7)).toInt ≤ (sI H0 h0 (X.1.2 4 6)).toInt) : Ctr l X Γ yX4_kindHere cX4_kindHere 2 (some .int) 1 [.ref h0] H0 (QI X Γ (fun v H1 => H1 = H0 ∧ ((((sI H0 h0 (X.1.2 4 6)).toInt ≤ (sI H0 h0 (X.1.2 4 7)).toInt ∧ v.toInt = 0) ∨ ((sI H0 h0 (X.1.2 4 7)).toInt < (sI H0 h0 (X.1.2 4 6)).toInt ∧ KHR (bf H0 tp ((sI H0 h0 (X.1.2 4 7)).toInt).toNat) v.toInt))))) := by
  refine q_enterI (own := "SnowForts$Reader") (by decide) rfl (Nat.le_of_ble_eq_true rfl) ?_
  intro p e s m args below meth c ls Qz E hl ret hS0
  have hx := E.1; have hb := E.2.1
  have hl : lv_has ls 2 [(0, .ref h0)] := hl
  have tpt : ∀ j, sI H0 tp j = sI H0 tp j := fun _ => rfl
  refine lv_aload_n hx hb dX4_kindHere_0 rfl (lv_at hl 0 rfl) ?_
  refine q_getI E hC0 g0 fa_RX4_51 dX4_kindHere_1 (fun v21 ev21 _ _ => ?_)
  have m22 : (sI H0 h0 (X.1.2 4 7)).toInt = v21.toInt := (congrArg Int32.toInt ev21).trans rfl
  refine lv_aload_n hx hb dX4_kindHere_4 rfl (lv_at hl 0 rfl) ?_
  refine q_getI E hC0 g0 fa_RX4_48 dX4_kindHere_5 (fun v23 ev23 _ _ => ?_)
  have m24 : (sI H0 h0 (X.1.2 4 6)).toInt = v23.toInt := (congrArg Int32.toInt ev23).trans rfl
  have c25 := i_rng v21; rw [show v21.toInt = v21.toInt from rfl] at c25
  have c26 := i_rng v23; rw [show v23.toInt = v23.toInt from rfl] at c26
  refine q_icmp_lt hx hb (a := v21.toInt) (b := v23.toInt) rfl rfl (tgt := 13) dX4_kindHere_8 rfl (fun c27 => ?_) (fun c27 => ?_)
  · refine lv_aload_n hx hb dX4_kindHere_13 rfl (lv_at hl 0 rfl) ?_
    refine lv_aload_n hx hb dX4_kindHere_14 rfl (lv_at hl 0 rfl) ?_
    refine q_getI E hC0 g0 fa_RX4_51 dX4_kindHere_15 (fun v28 ev28 _ _ => ?_)
    have qv28 := ev21.symm.trans ev28; subst qv28
    refine q_goIp (q_runV (As := [.int v21]) (rest := []) E hC0 hS0 (m_X4_byteAt l X Γ H0 hC0 h0 g0 v21 (a1 := v21.toInt) rfl tp htp gtp) cw_X4_byteAt cl_RX4_78 g0 ⟨rfl, rfl⟩ rfl hl.1 rfl (Nat.zero_le _) (by decide) dX4_kindHere_18) hS0 (fun v29 locs29 hr29 hS29 => ?_)
    have f29_0 := hr29
    have hb0 : v29.toInt = bf H0 tp (v21.toInt : Int).toNat := BA.get f29_0 tpt (by omega) (by omega) (by omega)
    have hz1 : (sI H0 h0 (X.1.2 4 7)).toInt = v21.toInt := by omega
    have hb1 : v29.toInt = bf H0 tp ((sI H0 h0 (X.1.2 4 7)).toInt).toNat := by rw [hz1]; exact hb0
    refine lv_istore_n hx hb dX4_kindHere_21 rfl hl (by decide) rfl (fun ls hl => ?_)
    have hl : lv_has ls 2 [(1, .int v29), (0, .ref h0)] := hl
    refine lv_iload_n hx hb dX4_kindHere_22 rfl (lv_at hl 0 rfl) ?_
    refine q_goIp (q_runS (As := [.int v29]) (rest := []) E hS29 (m_X4_isLetter l X Γ H0 hC0 v29 (a0 := v29.toInt) rfl) cw_X4_isLetter cl_RX4_82 rfl hl.1 rfl (Nat.zero_le _) (by decide) dX4_kindHere_23) hS29 (fun v30 locs30 hr30 hS30 => ?_)
    rcases hr30 with ⟨rfl, hil⟩ | ⟨rfl, hil⟩
    · refine q_if_eq hx hb (a := 1) (by decide) (tgt := 31) dX4_kindHere_26 rfl (fun c31 => absurd c31 (by omega)) (fun c31 => ?_)
      refine lv_iconst (v := 2) hx hb dX4_kindHere_29 rfl ?_
      have hpost : ((sI H0 h0 (X.1.2 4 6)).toInt ≤ (sI H0 h0 (X.1.2 4 7)).toInt ∧ (2 : Int32).toInt = 0) ∨ ((sI H0 h0 (X.1.2 4 7)).toInt < (sI H0 h0 (X.1.2 4 6)).toInt ∧ KHR (bf H0 tp ((sI H0 h0 (X.1.2 4 7)).toInt).toNat) (2 : Int32).toInt) := by have hcc : (2 : Int32).toInt = 2 := (show (2 : Int32).toInt = 2 from by decide); first | exact Or.inl ⟨by omega, by omega⟩ | exact Or.inr ⟨by omega, KHR.lt hb1 (by assumption) (by omega)⟩ | exact Or.inr ⟨by omega, KHR.dg hb1 (by assumption) (by assumption) (by omega)⟩ | exact Or.inr ⟨by omega, KHR.sg hb1 (by assumption) (by assumption) (by omega) (by omega) (by omega)⟩ | exact Or.inr ⟨by omega, KHR.no hb1 (by assumption) (by assumption) (by omega) (by omega)⟩
      have c32 : (2 : Int32).toInt = 2 := (by decide)
      exact ret 2 H0 locs30 _ _ dX4_kindHere_30 ⟨rfl, hpost⟩ hC0 hS30
    · refine q_if_eq hx hb (a := 0) (by decide) (tgt := 31) dX4_kindHere_26 rfl (fun c33 => ?_) (fun c33 => absurd c33 (by omega))
      refine lv_iload_n hx hb dX4_kindHere_31 rfl (lv_at hl 0 rfl) ?_
      refine q_goIp (q_runS (As := [.int v29]) (rest := []) E hS30 (m_X4_isDigit l X Γ H0 hC0 v29 (a0 := v29.toInt) rfl) cw_X4_isDigit cl_RX4_86 rfl hl.1 rfl (Nat.zero_le _) (by decide) dX4_kindHere_32) hS30 (fun v34 locs34 hr34 hS34 => ?_)
      rcases hr34 with ⟨rfl, hid⟩ | ⟨rfl, hid⟩
      · refine q_if_eq hx hb (a := 1) (by decide) (tgt := 40) dX4_kindHere_35 rfl (fun c35 => absurd c35 (by omega)) (fun c35 => ?_)
        refine lv_iconst (v := 3) hx hb dX4_kindHere_38 rfl ?_
        have hpost : ((sI H0 h0 (X.1.2 4 6)).toInt ≤ (sI H0 h0 (X.1.2 4 7)).toInt ∧ (3 : Int32).toInt = 0) ∨ ((sI H0 h0 (X.1.2 4 7)).toInt < (sI H0 h0 (X.1.2 4 6)).toInt ∧ KHR (bf H0 tp ((sI H0 h0 (X.1.2 4 7)).toInt).toNat) (3 : Int32).toInt) := by have hcc : (3 : Int32).toInt = 3 := (show (3 : Int32).toInt = 3 from by decide); first | exact Or.inl ⟨by omega, by omega⟩ | exact Or.inr ⟨by omega, KHR.lt hb1 (by assumption) (by omega)⟩ | exact Or.inr ⟨by omega, KHR.dg hb1 (by assumption) (by assumption) (by omega)⟩ | exact Or.inr ⟨by omega, KHR.sg hb1 (by assumption) (by assumption) (by omega) (by omega) (by omega)⟩ | exact Or.inr ⟨by omega, KHR.no hb1 (by assumption) (by assumption) (by omega) (by omega)⟩
        have c36 : (3 : Int32).toInt = 3 := (by decide)
        exact ret 3 H0 locs34 _ _ dX4_kindHere_39 ⟨rfl, hpost⟩ hC0 hS34
      · refine q_if_eq hx hb (a := 0) (by decide) (tgt := 40) dX4_kindHere_35 rfl (fun c37 => ?_) (fun c37 => absurd c37 (by omega))
        refine lv_iload_n hx hb dX4_kindHere_40 rfl (lv_at hl 0 rfl) ?_
        refine lv_bipush (v := 59) hx hb dX4_kindHere_41 rfl ?_
        refine q_icmp_lt hx hb (a := v29.toInt) (b := 59) rfl (by decide) (tgt := 56) dX4_kindHere_43 rfl (fun c38 => ?_) (fun c38 => ?_)
        · refine lv_iconst (v := 1) hx hb dX4_kindHere_56 rfl ?_
          have hpost : ((sI H0 h0 (X.1.2 4 6)).toInt ≤ (sI H0 h0 (X.1.2 4 7)).toInt ∧ (1 : Int32).toInt = 0) ∨ ((sI H0 h0 (X.1.2 4 7)).toInt < (sI H0 h0 (X.1.2 4 6)).toInt ∧ KHR (bf H0 tp ((sI H0 h0 (X.1.2 4 7)).toInt).toNat) (1 : Int32).toInt) := by have hcc : (1 : Int32).toInt = 1 := (show (1 : Int32).toInt = 1 from by decide); first | exact Or.inl ⟨by omega, by omega⟩ | exact Or.inr ⟨by omega, KHR.lt hb1 (by assumption) (by omega)⟩ | exact Or.inr ⟨by omega, KHR.dg hb1 (by assumption) (by assumption) (by omega)⟩ | exact Or.inr ⟨by omega, KHR.sg hb1 (by assumption) (by assumption) (by omega) (by omega) (by omega)⟩ | exact Or.inr ⟨by omega, KHR.no hb1 (by assumption) (by assumption) (by omega) (by omega)⟩
          have c39 : (1 : Int32).toInt = 1 := (by decide)
          exact ret 1 H0 locs34 _ _ dX4_kindHere_57 ⟨rfl, hpost⟩ hC0 hS34
        · refine lv_iload_n hx hb dX4_kindHere_46 rfl (lv_at hl 0 rfl) ?_
          refine lv_bipush (v := 62) hx hb dX4_kindHere_47 rfl ?_
          refine q_icmp_gt hx hb (a := v29.toInt) (b := 62) rfl (by decide) (tgt := 56) dX4_kindHere_49 rfl (fun c40 => ?_) (fun c40 => ?_)
          · refine lv_iconst (v := 1) hx hb dX4_kindHere_56 rfl ?_
            have hpost : ((sI H0 h0 (X.1.2 4 6)).toInt ≤ (sI H0 h0 (X.1.2 4 7)).toInt ∧ (1 : Int32).toInt = 0) ∨ ((sI H0 h0 (X.1.2 4 7)).toInt < (sI H0 h0 (X.1.2 4 6)).toInt ∧ KHR (bf H0 tp ((sI H0 h0 (X.1.2 4 7)).toInt).toNat) (1 : Int32).toInt) := by have hcc : (1 : Int32).toInt = 1 := (show (1 : Int32).toInt = 1 from by decide); first | exact Or.inl ⟨by omega, by omega⟩ | exact Or.inr ⟨by omega, KHR.lt hb1 (by assumption) (by omega)⟩ | exact Or.inr ⟨by omega, KHR.dg hb1 (by assumption) (by assumption) (by omega)⟩ | exact Or.inr ⟨by omega, KHR.sg hb1 (by assumption) (by assumption) (by omega) (by omega) (by omega)⟩ | exact Or.inr ⟨by omega, KHR.no hb1 (by assumption) (by assumption) (by omega) (by omega)⟩
            have c41 : (1 : Int32).toInt = 1 := (by decide)
            exact ret 1 H0 locs34 _ _ dX4_kindHere_57 ⟨rfl, hpost⟩ hC0 hS34
          · refine lv_iload_n hx hb dX4_kindHere_52 rfl (lv_at hl 0 rfl) ?_
            refine lv_goto (tgt := 57) hx hb dX4_kindHere_53 rfl ?_
            have hpost : ((sI H0 h0 (X.1.2 4 6)).toInt ≤ (sI H0 h0 (X.1.2 4 7)).toInt ∧ (v29 : Int32).toInt = 0) ∨ ((sI H0 h0 (X.1.2 4 7)).toInt < (sI H0 h0 (X.1.2 4 6)).toInt ∧ KHR (bf H0 tp ((sI H0 h0 (X.1.2 4 7)).toInt).toNat) (v29 : Int32).toInt) := by have hcc : (v29 : Int32).toInt = v29.toInt := rfl; first | exact Or.inl ⟨by omega, by omega⟩ | exact Or.inr ⟨by omega, KHR.lt hb1 (by assumption) (by omega)⟩ | exact Or.inr ⟨by omega, KHR.dg hb1 (by assumption) (by assumption) (by omega)⟩ | exact Or.inr ⟨by omega, KHR.sg hb1 (by assumption) (by assumption) (by omega) (by omega) (by omega)⟩ | exact Or.inr ⟨by omega, KHR.no hb1 (by assumption) (by assumption) (by omega) (by omega)⟩
            have c42 : v29.toInt = v29.toInt := rfl
            exact ret v29 H0 locs34 _ _ dX4_kindHere_57 ⟨rfl, hpost⟩ hC0 hS34
  · refine lv_iconst (v := 0) hx hb dX4_kindHere_11 rfl ?_
    have hpost : ((sI H0 h0 (X.1.2 4 6)).toInt ≤ (sI H0 h0 (X.1.2 4 7)).toInt ∧ (0 : Int32).toInt = 0) ∨ ((sI H0 h0 (X.1.2 4 7)).toInt < (sI H0 h0 (X.1.2 4 6)).toInt ∧ KHR (bf H0 tp ((sI H0 h0 (X.1.2 4 7)).toInt).toNat) (0 : Int32).toInt) := by have hcc : (0 : Int32).toInt = 0 := (show (0 : Int32).toInt = 0 from by decide); first | exact Or.inl ⟨by omega, by omega⟩ | exact Or.inr ⟨by omega, KHR.lt hb1 (by assumption) (by omega)⟩ | exact Or.inr ⟨by omega, KHR.dg hb1 (by assumption) (by assumption) (by omega)⟩ | exact Or.inr ⟨by omega, KHR.sg hb1 (by assumption) (by assumption) (by omega) (by omega) (by omega)⟩ | exact Or.inr ⟨by omega, KHR.no hb1 (by assumption) (by assumption) (by omega) (by omega)⟩
    have c43 : (0 : Int32).toInt = 0 := (by decide)
    exact ret 0 H0 [] _ _ dX4_kindHere_12 ⟨rfl, hpost⟩ hC0 hS0
set_option maxRecDepth 100000 in
set_option maxHeartbeats 4000000 in
theorem m_X4_passWord (l : Launch) (X : xW) (Γ : Nat → Option Nat) (H0 : Heap) (hC0 : Conf X Γ H0) (h0 : Nat) (g0 : Γ h0 = some 2) (tp : Nat) (htp : sR H0 h0 (X.1.2 4 0) = some tp) (gtp : Γ tp = some 25) (r0 : 0 ≤ (sI H0 h0 (X.1.2 4 7)).toInt) (r1 : (sI H0 h0 (X.1.2 4 6)).toInt ≤ 900) (r2 : (sI H0 h0 (X.1.2 4 7)).toInt ≤ (sI H0 h0 (X.1.2 4 6)).toInt) : Ctr l X Γ yX4_passWord cX4_passWord 4 (some .long) 1 [.ref h0] H0 (QJ X Γ (fun v H1 => Kp X Γ [0, 2, 3, 4, 5, 18, 21, 23, 25, 27, 29, 31, 32, 33, 34, 37, 39, 40, 41] H0 H1 ∧ ((SpZ isLt (bf H0 tp) (sI H0 h0 (X.1.2 4 6)).toInt (sI H0 h0 (X.1.2 4 7)).toInt (sI H1 h0 (X.1.2 4 7)).toInt) ∧ ((sI H1 h0 (X.1.2 4 6)).toInt = (sI H0 h0 (X.1.2 4 6)).toInt) ∧ ((sI H0 h0 (X.1.2 4 7)).toInt ≤ (sI H1 h0 (X.1.2 4 7)).toInt) ∧ ((sI H1 h0 (X.1.2 4 7)).toInt ≤ (sI H1 h0 (X.1.2 4 6)).toInt) ∧ (v.toInt = if (sI H1 h0 (X.1.2 4 7)).toInt - (sI H0 h0 (X.1.2 4 7)).toInt ≤ 8 then cdN 27 (bf H0 tp) ((sI H0 h0 (X.1.2 4 7)).toInt).toNat ((sI H1 h0 (X.1.2 4 7)).toInt - (sI H0 h0 (X.1.2 4 7)).toInt).toNat else 0)))) := by
  refine q_enterJ (own := "SnowForts$Reader") (by decide) rfl (Nat.le_of_ble_eq_true rfl) ?_
  intro p e s m args below meth c ls Qz E hl ret hS0
  have hx := E.1; have hb := E.2.1
  have hKp0 : Kp X Γ [0, 2, 3, 4, 5, 18, 21, 23, 25, 27, 29, 31, 32, 33, 34, 37, 39, 40, 41] H0 H0 := Kp.rf
  have hl : lv_has ls 4 [(0, .ref h0)] := hl
  have tpt : ∀ j, sI H0 tp j = sI H0 tp j := fun _ => rfl
  refine lv_aload_n hx hb dX4_passWord_0 rfl (lv_at hl 0 rfl) ?_
  refine q_getI E hC0 g0 fa_RX4_51 dX4_passWord_1 (fun v21 ev21 _ _ => ?_)
  have m22 : (sI H0 h0 (X.1.2 4 7)).toInt = v21.toInt := (congrArg Int32.toInt ev21).trans rfl
  refine lv_istore_n hx hb dX4_passWord_4 rfl hl (by decide) rfl (fun ls hl => ?_)
  have hl : lv_has ls 4 [(1, .int v21), (0, .ref h0)] := hl
  refine lv_lconst (v := 0) hx hb dX4_passWord_5 rfl ?_
  refine lv_lstore_n hx hb dX4_passWord_6 rfl hl (by decide) rfl (fun ls hl => ?_)
  have hl : lv_has ls 4 [(2, .long 0), (1, .int v21), (0, .ref h0)] := hl
  have L7 : ∀ (n24 : Nat) (H24 : Heap) (locs24 : List Loc) (v23 : Int64) (z23 : Int) (ls : Array Slot), ((sI H24 h0 (X.1.2 4 6)).toInt - (sI H24 h0 (X.1.2 4 7)).toInt).toNat < n24 → v23.toInt = z23 → (sI H0 h0 (X.1.2 4 7)).toInt ≤ (sI H24 h0 (X.1.2 4 7)).toInt → (sI H24 h0 (X.1.2 4 6)).toInt = (sI H0 h0 (X.1.2 4 6)).toInt → v21.toInt = (sI H0 h0 (X.1.2 4 7)).toInt → SpP isLt (bf H0 tp) (sI H0 h0 (X.1.2 4 6)).toInt (sI H0 h0 (X.1.2 4 7)).toInt (sI H24 h0 (X.1.2 4 7)).toInt → PWI (bf H0 tp) (sI H0 h0 (X.1.2 4 7)).toInt (sI H24 h0 (X.1.2 4 7)).toInt z23 → (sI H24 h0 (X.1.2 4 7)).toInt ≤ (sI H24 h0 (X.1.2 4 6)).toInt → Conf X Γ H24 → va_S (AΓ Γ) H0 H24 locs24 → Kp X Γ [0, 2, 3, 4, 5, 18, 21, 23, 25, 27, 29, 31, 32, 33, 34, 37, 39, 40, 41] H0 H24 → (∀ j, sI H24 tp j = sI H0 tp j) → lv_has ls 4 [(2, .long v23), (1, .int v21), (0, .ref h0)] → W p l e (rmL 1) s m args below meth c H24 locs24 0 0 Qz (F0 m 7 ls []) := by
    intro n24
    induction n24 with
    | zero => intro H24 locs24 v23 z23 ls hm24 ev23 iv24_0 iv24_1 iv24_2 iv24_3 iv24_4 iv24_5 hC24 hS24 hKp24 tpt hl; exact absurd hm24 (Nat.not_lt_zero _)
    | succ n24 ih24 =>
      intro H24 locs24 v23 z23 ls hm24 ev23 iv24_0 iv24_1 iv24_2 iv24_3 iv24_4 iv24_5 hC24 hS24 hKp24 tpt hl
      have hsp := iv24_3
      have hpi := iv24_4
      refine lv_aload_n hx hb dX4_passWord_7 rfl (lv_at hl 2 rfl) ?_
      refine q_getI E hC24 g0 fa_RX4_51 dX4_passWord_8 (fun v25 ev25 _ _ => ?_)
      have m26 : (sI H24 h0 (X.1.2 4 7)).toInt = v25.toInt := (congrArg Int32.toInt ev25).trans rfl
      refine lv_aload_n hx hb dX4_passWord_11 rfl (lv_at hl 2 rfl) ?_
      refine q_getI E hC24 g0 fa_RX4_48 dX4_passWord_12 (fun v27 ev27 _ _ => ?_)
      have m28 : (sI H24 h0 (X.1.2 4 6)).toInt = v27.toInt := (congrArg Int32.toInt ev27).trans rfl
      refine q_icmp_ge hx hb (a := v25.toInt) (b := v27.toInt) rfl rfl (tgt := 67) dX4_passWord_15 rfl (fun c29 => ?_) (fun c29 => ?_)
      · refine lv_aload_n hx hb dX4_passWord_67 rfl (lv_at hl 2 rfl) ?_
        refine q_getI E hC24 g0 fa_RX4_51 dX4_passWord_68 (fun v30 ev30 _ _ => ?_)
        have qv30 := ev25.symm.trans ev30; subst qv30
        refine lv_iload_n hx hb dX4_passWord_71 rfl (lv_at hl 1 rfl) ?_
        refine lv_isub hx hb dX4_passWord_72 (lv_topi (fun v31 ev31 => ?_))
        have ev31i : v31.toInt = (v25.toInt - v21.toInt) := i_sub ev31 rfl rfl (by omega) (by omega)
        refine lv_bipush (v := 8) hx hb dX4_passWord_73 rfl ?_
        refine q_icmp_le hx hb (a := (v25.toInt - v21.toInt)) (b := 8) ev31i (by decide) (tgt := 82) dX4_passWord_75 rfl (fun c32 => ?_) (fun c32 => ?_)
        · refine lv_lload_n hx hb dX4_passWord_82 rfl (lv_at hl 0 rfl) ?_
          have hpost : SpZ isLt (bf H0 tp) (sI H0 h0 (X.1.2 4 6)).toInt (sI H0 h0 (X.1.2 4 7)).toInt (sI H24 h0 (X.1.2 4 7)).toInt := by first | exact ⟨hsp, fun q => absurd q.1 (by omega)⟩ | exact ⟨hsp, fun q => by have q2 := q.2; rw [hz1, ← hb1] at q2; exact absurd q2 (by assumption)⟩
          have hpw : (v23 : Int64).toInt = if (sI H24 h0 (X.1.2 4 7)).toInt - (sI H0 h0 (X.1.2 4 7)).toInt ≤ 8 then cdN 27 (bf H0 tp) ((sI H0 h0 (X.1.2 4 7)).toInt).toNat ((sI H24 h0 (X.1.2 4 7)).toInt - (sI H0 h0 (X.1.2 4 7)).toInt).toNat else 0 := by first | (rw [if_neg (by omega)]; decide) | (rw [if_pos (by omega)]; exact ev23.trans (hpi (by omega)))
          exact ret v23 H24 locs24 _ _ dX4_passWord_83 ⟨hKp24, ⟨hpost, by omega, by omega, by omega, hpw⟩⟩ hC24 hS24
        · refine lv_lconst (v := 0) hx hb dX4_passWord_78 rfl ?_
          refine lv_goto (tgt := 83) hx hb dX4_passWord_79 rfl ?_
          have hpost : SpZ isLt (bf H0 tp) (sI H0 h0 (X.1.2 4 6)).toInt (sI H0 h0 (X.1.2 4 7)).toInt (sI H24 h0 (X.1.2 4 7)).toInt := by first | exact ⟨hsp, fun q => absurd q.1 (by omega)⟩ | exact ⟨hsp, fun q => by have q2 := q.2; rw [hz1, ← hb1] at q2; exact absurd q2 (by assumption)⟩
          have hpw : (0 : Int64).toInt = if (sI H24 h0 (X.1.2 4 7)).toInt - (sI H0 h0 (X.1.2 4 7)).toInt ≤ 8 then cdN 27 (bf H0 tp) ((sI H0 h0 (X.1.2 4 7)).toInt).toNat ((sI H24 h0 (X.1.2 4 7)).toInt - (sI H0 h0 (X.1.2 4 7)).toInt).toNat else 0 := by first | (rw [if_neg (by omega)]; decide) | (rw [if_pos (by omega)]; exact (show (0 : Int64).toInt = 0 from by decide).trans (hpi (by omega)))
          exact ret 0 H24 locs24 _ _ dX4_passWord_83 ⟨hKp24, ⟨hpost, by omega, by omega, by omega, hpw⟩⟩ hC24 hS24
      · refine lv_aload_n hx hb dX4_passWord_18 rfl (lv_at hl 2 rfl) ?_
        refine lv_aload_n hx hb dX4_passWord_19 rfl (lv_at hl 2 rfl) ?_
        refine q_getI E hC24 g0 fa_RX4_51 dX4_passWord_20 (fun v33 ev33 _ _ => ?_)
        have qv33 := ev25.symm.trans ev33; subst qv33
        refine q_goIp (q_runV (As := [.int v25]) (rest := []) E hC24 hS24 (m_X4_byteAt l X Γ H24 hC24 h0 g0 v25 (a1 := v25.toInt) rfl tp ((kp_R hKp24 g0 (ci := 4) (k := 0) rfl (by decide) rfl).trans htp) gtp) cw_X4_byteAt cl_RX4_78 g0 ⟨rfl, rfl⟩ rfl hl.1 rfl (Nat.zero_le _) (by decide) dX4_passWord_23) hS24 (fun v34 locs34 hr34 hS34 => ?_)
        have f34_0 := hr34
        have hb1 : v34.toInt = bf H0 tp (v25.toInt : Int).toNat := BA.get f34_0 tpt (by omega) (by omega) (by omega)
        have hz1 : (sI H24 h0 (X.1.2 4 7)).toInt = v25.toInt := by omega
        refine q_goIp (q_runS (As := [.int v34]) (rest := []) E hS34 (m_X4_isLetter l X Γ H24 hC24 v34 (a0 := v34.toInt) rfl) cw_X4_isLetter cl_RX4_82 rfl hl.1 rfl (Nat.zero_le _) (by decide) dX4_passWord_26) hS34 (fun v35 locs35 hr35 hS35 => ?_)
        rcases hr35 with ⟨rfl, hil⟩ | ⟨rfl, hil⟩
        · refine q_if_eq hx hb (a := 1) (by decide) (tgt := 67) dX4_passWord_29 rfl (fun c36 => absurd c36 (by omega)) (fun c36 => ?_)
          have hlt := hb1 ▸ hil
          refine lv_lload_n hx hb dX4_passWord_32 rfl (lv_at hl 0 rfl) ?_
          refine lv_ldc2 (v := 27) hx hb E.2.2.2.1 (E.2.2.2.2.1 _ w_599) dX4_passWord_33 ?_
          refine lv_lmul hx hb dX4_passWord_36 (lv_topl (fun v37 ev37 => ?_))
          have qm1 := ev37; have qx := ev23
          refine lv_aload_n hx hb dX4_passWord_37 rfl (lv_at hl 2 rfl) ?_
          refine lv_aload_n hx hb dX4_passWord_38 rfl (lv_at hl 2 rfl) ?_
          refine q_getI E hC24 g0 fa_RX4_51 dX4_passWord_39 (fun v38 ev38 _ _ => ?_)
          have qv38 := ev25.symm.trans ev38; subst qv38
          refine q_goIp (q_runV (As := [.int v25]) (rest := [.long v37]) E hC24 hS35 (m_X4_byteAt l X Γ H24 hC24 h0 g0 v25 (a1 := v25.toInt) rfl tp ((kp_R hKp24 g0 (ci := 4) (k := 0) rfl (by decide) rfl).trans htp) gtp) cw_X4_byteAt cl_RX4_78 g0 ⟨rfl, rfl⟩ rfl hl.1 rfl (show _ ≤ _ from by simp [Value.category]) (by decide) dX4_passWord_42) hS35 (fun v39 locs39 hr39 hS39 => ?_)
          have f39_0 := hr39
          have hb2 : v39.toInt = bf H0 tp (v25.toInt : Int).toNat := BA.get f39_0 tpt (by omega) (by omega) (by omega)
          refine lv_i2l (v := v39.toInt64) hx hb dX4_passWord_45 rfl (lv_topl (fun v40 ev40 => ?_))
          have ev40i : v40.toInt = v39.toInt := l_ofi ev40.symm rfl
          refine lv_ladd hx hb dX4_passWord_46 (lv_topl (fun v41 ev41 => ?_))
          have qm2 := ev41; have qb2 := ev40i
          refine lv_ldc2 (v := 97) hx hb E.2.2.2.1 (E.2.2.2.2.1 _ w_600) dX4_passWord_47 ?_
          refine lv_lsub hx hb dX4_passWord_50 (lv_topl (fun v42 ev42 => ?_))
          have qm3 := ev42
          refine lv_lconst (v := 1) hx hb dX4_passWord_51 rfl ?_
          refine lv_ladd hx hb dX4_passWord_52 (lv_topl (fun v43 ev43 => ?_))
          have qm4 := ev43
          refine lv_lstore_n hx hb dX4_passWord_53 rfl hl (by decide) rfl (fun ls hl => ?_)
          have hl : lv_has ls 4 [(2, .long v43), (1, .int v21), (0, .ref h0)] := hl
          have hps := pw_step qm1 qm2 qm3 qm4 qb2 (hb2 ▸ hlt) qx (hpi.cast hz1) hb2 (hsp.cast hz1) (by omega)
          refine lv_aload_n hx hb dX4_passWord_54 rfl (lv_at hl 2 rfl) ?_
          refine lv_dup hx hb dX4_passWord_55 rfl ?_
          refine q_getI E hC24 g0 fa_RX4_51 dX4_passWord_56 (fun v44 ev44 _ _ => ?_)
          have qv44 := ev25.symm.trans ev44; subst qv44
          refine lv_iconst (v := 1) hx hb dX4_passWord_59 rfl ?_
          refine lv_iadd hx hb dX4_passWord_60 (lv_topi (fun v45 ev45 => ?_))
          have ev45i : v45.toInt = (v25.toInt + 1) := i_add ev45 rfl (by decide) (by omega) (by omega)
          refine q_put E hC24 hS39 g0 fp_RX4_51 tv_F rfl rfl dX4_passWord_61 (fun H46 locs46 hC46 hS46 U46 => ?_)
          have hKp46 := Kp.upO E g0 fp_RX4_51 rfl U46 hKp24
          have e47 := up_I U46
          have m48 : (sI H46 h0 (X.1.2 4 7)).toInt = (v25.toInt + 1) := (congrArg Int32.toInt e47).trans ev45i
          have tpt : ∀ j, sI H46 tp j = sI H0 tp j := fun j => (up_nI U46 (ne_k gtp g0 (by decide))).trans (tpt j)
          have m49 : (sI H46 h0 (X.1.2 4 6)).toInt = (sI H24 h0 (X.1.2 4 6)).toInt := congrArg Int32.toInt (up_nI U46 (ne_f E 4 6 7 rfl (by decide) (by decide) (by decide)))
          refine lv_goto (tgt := 7) hx hb dX4_passWord_64 rfl ?_
          have m1_length : (sI H24 h0 (X.1.2 4 6)).toInt = v27.toInt := (congrArg Int32.toInt ev27).trans rfl
          have e50 := (up_nI U46 (ne_f E 4 6 7 rfl (by decide) (by decide) (by decide))).trans ev27
          have m2_length : (sI H46 h0 (X.1.2 4 6)).toInt = v27.toInt := (congrArg Int32.toInt e50).trans rfl
          have m1_next : (sI H24 h0 (X.1.2 4 7)).toInt = v25.toInt := (congrArg Int32.toInt ev25).trans rfl
          have m2_next : (sI H46 h0 (X.1.2 4 7)).toInt = (v25.toInt + 1) := (congrArg Int32.toInt e47).trans ev45i
          exact ih24 H46 locs46 v43 (v43.toInt) ls (by omega) rfl (by omega) (by omega) (by omega) (SpP.cast ((hsp.cast hz1).step (by omega) (by omega) hlt) (by omega)) (PWI.cast hps (by omega)) (by omega) hC46 hS46 hKp46 tpt hl
        · refine q_if_eq hx hb (a := 0) (by decide) (tgt := 67) dX4_passWord_29 rfl (fun c51 => ?_) (fun c51 => absurd c51 (by omega))
          refine lv_aload_n hx hb dX4_passWord_67 rfl (lv_at hl 2 rfl) ?_
          refine q_getI E hC24 g0 fa_RX4_51 dX4_passWord_68 (fun v52 ev52 _ _ => ?_)
          have qv52 := ev25.symm.trans ev52; subst qv52
          refine lv_iload_n hx hb dX4_passWord_71 rfl (lv_at hl 1 rfl) ?_
          refine lv_isub hx hb dX4_passWord_72 (lv_topi (fun v53 ev53 => ?_))
          have ev53i : v53.toInt = (v25.toInt - v21.toInt) := i_sub ev53 rfl rfl (by omega) (by omega)
          refine lv_bipush (v := 8) hx hb dX4_passWord_73 rfl ?_
          refine q_icmp_le hx hb (a := (v25.toInt - v21.toInt)) (b := 8) ev53i (by decide) (tgt := 82) dX4_passWord_75 rfl (fun c54 => ?_) (fun c54 => ?_)
          · refine lv_lload_n hx hb dX4_passWord_82 rfl (lv_at hl 0 rfl) ?_
            have hpost : SpZ isLt (bf H0 tp) (sI H0 h0 (X.1.2 4 6)).toInt (sI H0 h0 (X.1.2 4 7)).toInt (sI H24 h0 (X.1.2 4 7)).toInt := by first | exact ⟨hsp, fun q => absurd q.1 (by omega)⟩ | exact ⟨hsp, fun q => by have q2 := q.2; rw [hz1, ← hb1] at q2; exact absurd q2 (by assumption)⟩
            have hpw : (v23 : Int64).toInt = if (sI H24 h0 (X.1.2 4 7)).toInt - (sI H0 h0 (X.1.2 4 7)).toInt ≤ 8 then cdN 27 (bf H0 tp) ((sI H0 h0 (X.1.2 4 7)).toInt).toNat ((sI H24 h0 (X.1.2 4 7)).toInt - (sI H0 h0 (X.1.2 4 7)).toInt).toNat else 0 := by first | (rw [if_neg (by omega)]; decide) | (rw [if_pos (by omega)]; exact ev23.trans (hpi (by omega)))
            exact ret v23 H24 locs35 _ _ dX4_passWord_83 ⟨hKp24, ⟨hpost, by omega, by omega, by omega, hpw⟩⟩ hC24 hS35
          · refine lv_lconst (v := 0) hx hb dX4_passWord_78 rfl ?_
            refine lv_goto (tgt := 83) hx hb dX4_passWord_79 rfl ?_
            have hpost : SpZ isLt (bf H0 tp) (sI H0 h0 (X.1.2 4 6)).toInt (sI H0 h0 (X.1.2 4 7)).toInt (sI H24 h0 (X.1.2 4 7)).toInt := by first | exact ⟨hsp, fun q => absurd q.1 (by omega)⟩ | exact ⟨hsp, fun q => by have q2 := q.2; rw [hz1, ← hb1] at q2; exact absurd q2 (by assumption)⟩
            have hpw : (0 : Int64).toInt = if (sI H24 h0 (X.1.2 4 7)).toInt - (sI H0 h0 (X.1.2 4 7)).toInt ≤ 8 then cdN 27 (bf H0 tp) ((sI H0 h0 (X.1.2 4 7)).toInt).toNat ((sI H24 h0 (X.1.2 4 7)).toInt - (sI H0 h0 (X.1.2 4 7)).toInt).toNat else 0 := by first | (rw [if_neg (by omega)]; decide) | (rw [if_pos (by omega)]; exact (show (0 : Int64).toInt = 0 from by decide).trans (hpi (by omega)))
            exact ret 0 H24 locs35 _ _ dX4_passWord_83 ⟨hKp24, ⟨hpost, by omega, by omega, by omega, hpw⟩⟩ hC24 hS35
  exact L7 _ H0 [] 0 0 ls (Nat.lt_succ_self _) (show (0 : Int64).toInt = 0 from by decide) (by omega) (by omega) (by omega) (SpP.nil) (fun _ => by rw [Int.sub_self]; rfl) (by omega) hC0 hS0 hKp0 tpt hl
set_option maxRecDepth 100000 in
set_option maxHeartbeats 4000000 in
theorem m_X8_of (l : Launch) (X : xW) (Γ : Nat → Option Nat) (H0 : Heap) (hC0 : Conf X Γ H0) (p0 : Int64) {a0 : Int} (e0 : p0.toInt = a0) : Ctr l X Γ yX8_of cX8_of 6 (some (.object "SnowForts$Word")) 0 [.long p0] H0 (QQ X Γ (fun v H1 => H1 = H0 ∧ ((∀ q, v = some q → Γ q = some 12) ∧ (WOF X v a0)))) := by
  refine q_enterQ (own := "SnowForts$Word") (by decide) rfl (Nat.le_of_ble_eq_true rfl) ?_
  intro p e s m args below meth c ls Qz E hl ret hS0
  have hx := E.1; have hb := E.2.1
  have hl : lv_has ls 6 [(0, .long p0)] := hl
  refine q_stALL E hS0 w_604 dX8_of_0 (fun q21 tq21 => ?_)
  refine lv_astore_n hx hb dX8_of_3 rfl hl (by decide) rfl (fun ls hl => ?_)
  have hl : lv_has ls 6 [(2, .ref q21), (0, .long p0)] := hl
  refine lv_aload_n hx hb dX8_of_4 rfl (lv_at hl 0 rfl) ?_
  refine q_lenALL E hS0 tq21 dX8_of_5 ?_
  refine lv_istore_n hx hb dX8_of_6 rfl hl (by decide) rfl (fun ls hl => ?_)
  have hl : lv_has ls 6 [(3, .int 29), (2, .ref q21), (0, .long p0)] := hl
  refine lv_iconst (v := 0) hx hb dX8_of_7 rfl ?_
  refine lv_istore hx hb dX8_of_8 hl (by decide) rfl (fun ls hl => ?_)
  have hl : lv_has ls 6 [(4, .int 0), (3, .int 29), (2, .ref q21), (0, .long p0)] := hl
  have L10 : ∀ (n23 : Nat) (locs23 : List Loc) (v22 : Int32) (z22 : Int) (ls : Array Slot), (29 - z22).toNat < n23 → v22.toInt = z22 → z22 ≤ 29 → 0 ≤ z22 → (∀ t : Nat, (t : Int) < z22 → kw t ≠ a0) → va_S (AΓ Γ) H0 H0 locs23 → lv_has ls 6 [(4, .int v22), (3, .int 29), (2, .ref q21), (0, .long p0)] → W p l e (rmL 0) s m args below meth c H0 locs23 0 0 Qz (F0 m 10 ls []) := by
    intro n23
    induction n23 with
    | zero => intro locs23 v22 z22 ls hm23 ev22 iv23_0 iv23_1 iv23_2 hS23 hl; exact absurd hm23 (Nat.not_lt_zero _)
    | succ n23 ih23 =>
      intro locs23 v22 z22 ls hm23 ev22 iv23_0 iv23_1 iv23_2 hS23 hl
      have hof := iv23_2
      refine lv_iload hx hb dX8_of_10 (lv_at hl 0 rfl) ?_
      refine lv_iload_n hx hb dX8_of_12 rfl (lv_at hl 1 rfl) ?_
      refine q_icmp_ge hx hb (a := z22) (b := 29) ev22 (by decide) (tgt := 41) dX8_of_13 rfl (fun c24 => ?_) (fun c24 => ?_)
      · refine lv_null hx hb dX8_of_41 ?_
        exact ret none H0 locs23 _ _ dX8_of_42 ⟨rfl, ⟨(fun _ h => by cases h), WOF.none (fun t ht => hof t (by omega))⟩⟩ hC0 hS23
      · refine lv_aload_n hx hb dX8_of_16 rfl (lv_at hl 2 rfl) ?_
        refine lv_iload hx hb dX8_of_17 (lv_at hl 0 rfl) ?_
        refine q_ldALL E hS23 tq21 (a := z22) ev22 (by omega) (by omega) dX8_of_19 (fun g25 => ?_)
        refine lv_astore hx hb dX8_of_20 hl (by decide) rfl (fun ls hl => ?_)
        have hl : lv_has ls 6 [(5, .ref (wad X (z22 : Int).toNat)), (4, .int v22), (3, .int 29), (2, .ref q21), (0, .long p0)] := hl
        refine lv_aload hx hb dX8_of_22 (lv_at hl 0 rfl) ?_
        refine q_letters E hS23 g25 w_2001 dX8_of_24 (fun jw26 hjw26 wjw26 => ?_)
        have hji := wad_inj E (i := (z22 : Int).toNat) (by omega) hjw26 wjw26
        refine lv_lload_n hx hb dX8_of_27 rfl (lv_at hl 4 rfl) ?_
        refine q_lcmp_ne hx hb (a := (kwN jw26).toInt) (b := a0) rfl e0 (tgt := 35) dX8_of_28 dX8_of_29 rfl (fun c27 => ?_) (fun c27 => ?_)
        · have hof2 : ∀ t : Nat, (t : Int) < z22 + 1 → kw t ≠ a0 := fun t ht => by by_cases e : t = (z22 : Int).toNat; (rw [e]; unfold kw; rw [hji]; assumption); exact hof t (by omega)
          obtain ⟨v28, ev28⟩ : ∃ z, z = v22 + Int32.ofInt 1 := ⟨_, rfl⟩
          have ev28i : v28.toInt = (z22 + 1) := i_add ev28 ev22 (by decide) (by omega) (by omega)
          refine lv_iinc hx hb dX8_of_35 hl (k := 1) rfl ev28.symm (by decide) rfl (fun ls hl => ?_)
          have hl : lv_has ls 6 [(4, .int v28), (5, .ref (wad X (z22 : Int).toNat)), (3, .int 29), (2, .ref q21), (0, .long p0)] := hl
          refine lv_goto (tgt := 10) hx hb dX8_of_38 rfl ?_
          exact ih23 locs23 v28 ((z22 + 1)) ls (by omega) ev28i (by omega) (by omega) (hof2) hS23 (lv_sub hl [0, 2, 3, 4] rfl)
        · refine lv_aload hx hb dX8_of_32 (lv_at hl 0 rfl) ?_
          exact ret (some (wad X (z22 : Int).toNat)) H0 locs23 _ _ dX8_of_34 ⟨rfl, ⟨(fun _ h => by cases h; exact g25), WOF.some (by omega) (by unfold kw; rw [hji]; omega)⟩⟩ hC0 hS23
  exact L10 _ [] 0 0 ls (Nat.lt_succ_self _) (by decide) (by omega) (by omega) (fun t ht => absurd ht (by omega)) hS0 hl
set_option maxRecDepth 100000 in
set_option maxHeartbeats 4000000 in
theorem m_X4_passNumber (l : Launch) (X : xW) (Γ : Nat → Option Nat) (H0 : Heap) (hC0 : Conf X Γ H0) (h0 : Nat) (g0 : Γ h0 = some 2) (tp : Nat) (htp : sR H0 h0 (X.1.2 4 0) = some tp) (gtp : Γ tp = some 25) (r0 : 0 ≤ (sI H0 h0 (X.1.2 4 7)).toInt) (r1 : (sI H0 h0 (X.1.2 4 6)).toInt ≤ 900) (r2 : (sI H0 h0 (X.1.2 4 7)).toInt ≤ (sI H0 h0 (X.1.2 4 6)).toInt) : Ctr l X Γ yX4_passNumber cX4_passNumber 3 (some .int) 1 [.ref h0] H0 (QI X Γ (fun v H1 => Kp X Γ [0, 2, 3, 4, 5, 18, 21, 23, 25, 27, 29, 31, 32, 33, 34, 37, 39, 40, 41] H0 H1 ∧ ((SpZ isDg (bf H0 tp) (sI H0 h0 (X.1.2 4 6)).toInt (sI H0 h0 (X.1.2 4 7)).toInt (sI H1 h0 (X.1.2 4 7)).toInt) ∧ ((sI H1 h0 (X.1.2 4 6)).toInt = (sI H0 h0 (X.1.2 4 6)).toInt) ∧ ((sI H0 h0 (X.1.2 4 7)).toInt ≤ (sI H1 h0 (X.1.2 4 7)).toInt) ∧ ((sI H1 h0 (X.1.2 4 7)).toInt ≤ (sI H1 h0 (X.1.2 4 6)).toInt) ∧ ((sI H1 h0 (X.1.2 4 7)).toInt - (sI H0 h0 (X.1.2 4 7)).toInt ≤ 4 → v.toInt = nmN (bf H0 tp) ((sI H0 h0 (X.1.2 4 7)).toInt).toNat ((sI H1 h0 (X.1.2 4 7)).toInt - (sI H0 h0 (X.1.2 4 7)).toInt).toNat) ∧ (0 ≤ v.toInt) ∧ (v.toInt ≤ 9999)))) := by
  refine q_enterI (own := "SnowForts$Reader") (by decide) rfl (Nat.le_of_ble_eq_true rfl) ?_
  intro p e s m args below meth c ls Qz E hl ret hS0
  have hx := E.1; have hb := E.2.1
  have hKp0 : Kp X Γ [0, 2, 3, 4, 5, 18, 21, 23, 25, 27, 29, 31, 32, 33, 34, 37, 39, 40, 41] H0 H0 := Kp.rf
  have hl : lv_has ls 3 [(0, .ref h0)] := hl
  have tpt : ∀ j, sI H0 tp j = sI H0 tp j := fun _ => rfl
  refine lv_aload_n hx hb dX4_passNumber_0 rfl (lv_at hl 0 rfl) ?_
  refine q_getI E hC0 g0 fa_RX4_51 dX4_passNumber_1 (fun v21 ev21 _ _ => ?_)
  have m22 : (sI H0 h0 (X.1.2 4 7)).toInt = v21.toInt := (congrArg Int32.toInt ev21).trans rfl
  refine lv_istore_n hx hb dX4_passNumber_4 rfl hl (by decide) rfl (fun ls hl => ?_)
  have hl : lv_has ls 3 [(1, .int v21), (0, .ref h0)] := hl
  refine lv_iconst (v := 0) hx hb dX4_passNumber_5 rfl ?_
  refine lv_istore_n hx hb dX4_passNumber_6 rfl hl (by decide) rfl (fun ls hl => ?_)
  have hl : lv_has ls 3 [(2, .int 0), (1, .int v21), (0, .ref h0)] := hl
  have L7 : ∀ (n24 : Nat) (H24 : Heap) (locs24 : List Loc) (v23 : Int32) (z23 : Int) (ls : Array Slot), ((sI H24 h0 (X.1.2 4 6)).toInt - (sI H24 h0 (X.1.2 4 7)).toInt).toNat < n24 → v23.toInt = z23 → (sI H0 h0 (X.1.2 4 7)).toInt ≤ (sI H24 h0 (X.1.2 4 7)).toInt → (sI H24 h0 (X.1.2 4 6)).toInt = (sI H0 h0 (X.1.2 4 6)).toInt → v21.toInt = (sI H0 h0 (X.1.2 4 7)).toInt → SpP isDg (bf H0 tp) (sI H0 h0 (X.1.2 4 6)).toInt (sI H0 h0 (X.1.2 4 7)).toInt (sI H24 h0 (X.1.2 4 7)).toInt → PNI (bf H0 tp) (sI H0 h0 (X.1.2 4 7)).toInt (sI H24 h0 (X.1.2 4 7)).toInt z23 → 0 ≤ z23 → z23 ≤ 9999 → (sI H24 h0 (X.1.2 4 7)).toInt ≤ (sI H24 h0 (X.1.2 4 6)).toInt → Conf X Γ H24 → va_S (AΓ Γ) H0 H24 locs24 → Kp X Γ [0, 2, 3, 4, 5, 18, 21, 23, 25, 27, 29, 31, 32, 33, 34, 37, 39, 40, 41] H0 H24 → (∀ j, sI H24 tp j = sI H0 tp j) → lv_has ls 3 [(2, .int v23), (1, .int v21), (0, .ref h0)] → W p l e (rmL 1) s m args below meth c H24 locs24 0 0 Qz (F0 m 7 ls []) := by
    intro n24
    induction n24 with
    | zero => intro H24 locs24 v23 z23 ls hm24 ev23 iv24_0 iv24_1 iv24_2 iv24_3 iv24_4 iv24_5 iv24_6 iv24_7 hC24 hS24 hKp24 tpt hl; exact absurd hm24 (Nat.not_lt_zero _)
    | succ n24 ih24 =>
      intro H24 locs24 v23 z23 ls hm24 ev23 iv24_0 iv24_1 iv24_2 iv24_3 iv24_4 iv24_5 iv24_6 iv24_7 hC24 hS24 hKp24 tpt hl
      have hsp := iv24_3
      have hpi := iv24_4
      refine lv_aload_n hx hb dX4_passNumber_7 rfl (lv_at hl 2 rfl) ?_
      refine q_getI E hC24 g0 fa_RX4_51 dX4_passNumber_8 (fun v25 ev25 _ _ => ?_)
      have m26 : (sI H24 h0 (X.1.2 4 7)).toInt = v25.toInt := (congrArg Int32.toInt ev25).trans rfl
      refine lv_aload_n hx hb dX4_passNumber_11 rfl (lv_at hl 2 rfl) ?_
      refine q_getI E hC24 g0 fa_RX4_48 dX4_passNumber_12 (fun v27 ev27 _ _ => ?_)
      have m28 : (sI H24 h0 (X.1.2 4 6)).toInt = v27.toInt := (congrArg Int32.toInt ev27).trans rfl
      refine q_icmp_ge hx hb (a := v25.toInt) (b := v27.toInt) rfl rfl (tgt := 72) dX4_passNumber_15 rfl (fun c29 => ?_) (fun c29 => ?_)
      · refine lv_iload_n hx hb dX4_passNumber_72 rfl (lv_at hl 0 rfl) ?_
        have hpost : SpZ isDg (bf H0 tp) (sI H0 h0 (X.1.2 4 6)).toInt (sI H0 h0 (X.1.2 4 7)).toInt (sI H24 h0 (X.1.2 4 7)).toInt := by first | exact ⟨hsp, fun q => absurd q.1 (by omega)⟩ | exact ⟨hsp, fun q => by have q2 := q.2; rw [hz1, ← hb1] at q2; exact absurd q2 (by assumption)⟩
        have hpw : (sI H24 h0 (X.1.2 4 7)).toInt - (sI H0 h0 (X.1.2 4 7)).toInt ≤ 4 → (v23 : Int32).toInt = nmN (bf H0 tp) ((sI H0 h0 (X.1.2 4 7)).toInt).toNat ((sI H24 h0 (X.1.2 4 7)).toInt - (sI H0 h0 (X.1.2 4 7)).toInt).toNat := fun q => ev23.trans (hpi q)
        have c30 : v23.toInt = z23 := ev23
        exact ret v23 H24 locs24 _ _ dX4_passNumber_73 ⟨hKp24, ⟨hpost, by omega, by omega, by omega, hpw, by omega, by omega⟩⟩ hC24 hS24
      · refine lv_aload_n hx hb dX4_passNumber_18 rfl (lv_at hl 2 rfl) ?_
        refine lv_aload_n hx hb dX4_passNumber_19 rfl (lv_at hl 2 rfl) ?_
        refine q_getI E hC24 g0 fa_RX4_51 dX4_passNumber_20 (fun v31 ev31 _ _ => ?_)
        have qv31 := ev25.symm.trans ev31; subst qv31
        refine q_goIp (q_runV (As := [.int v25]) (rest := []) E hC24 hS24 (m_X4_byteAt l X Γ H24 hC24 h0 g0 v25 (a1 := v25.toInt) rfl tp ((kp_R hKp24 g0 (ci := 4) (k := 0) rfl (by decide) rfl).trans htp) gtp) cw_X4_byteAt cl_RX4_78 g0 ⟨rfl, rfl⟩ rfl hl.1 rfl (Nat.zero_le _) (by decide) dX4_passNumber_23) hS24 (fun v32 locs32 hr32 hS32 => ?_)
        have f32_0 := hr32
        have hb1 : v32.toInt = bf H0 tp (v25.toInt : Int).toNat := BA.get f32_0 tpt (by omega) (by omega) (by omega)
        have hz1 : (sI H24 h0 (X.1.2 4 7)).toInt = v25.toInt := by omega
        refine q_goIp (q_runS (As := [.int v32]) (rest := []) E hS32 (m_X4_isDigit l X Γ H24 hC24 v32 (a0 := v32.toInt) rfl) cw_X4_isDigit cl_RX4_86 rfl hl.1 rfl (Nat.zero_le _) (by decide) dX4_passNumber_26) hS32 (fun v33 locs33 hr33 hS33 => ?_)
        rcases hr33 with ⟨rfl, hid⟩ | ⟨rfl, hid⟩
        · refine q_if_eq hx hb (a := 1) (by decide) (tgt := 72) dX4_passNumber_29 rfl (fun c34 => absurd c34 (by omega)) (fun c34 => ?_)
          have hlt := hb1 ▸ hid
          refine lv_aload_n hx hb dX4_passNumber_32 rfl (lv_at hl 2 rfl) ?_
          refine q_getI E hC24 g0 fa_RX4_51 dX4_passNumber_33 (fun v35 ev35 _ _ => ?_)
          have qv35 := ev25.symm.trans ev35; subst qv35
          refine lv_iload_n hx hb dX4_passNumber_36 rfl (lv_at hl 1 rfl) ?_
          refine lv_isub hx hb dX4_passNumber_37 (lv_topi (fun v36 ev36 => ?_))
          have ev36i : v36.toInt = (v25.toInt - v21.toInt) := i_sub ev36 rfl rfl (by omega) (by omega)
          refine lv_iconst (v := 4) hx hb dX4_passNumber_38 rfl ?_
          refine q_icmp_ge hx hb (a := (v25.toInt - v21.toInt)) (b := 4) ev36i (by decide) (tgt := 59) dX4_passNumber_39 rfl (fun c37 => ?_) (fun c37 => ?_)
          · have hps : PNI (bf H0 tp) (sI H0 h0 (X.1.2 4 7)).toInt ((sI H24 h0 (X.1.2 4 7)).toInt + 1) z23 := by first | exact PNI.out (by omega) | exact PNI.step hpi hsp (by omega) (hb2.trans (by rw [hz1])) (by omega) (by omega)
            refine lv_aload_n hx hb dX4_passNumber_59 rfl (lv_at hl 2 rfl) ?_
            refine lv_dup hx hb dX4_passNumber_60 rfl ?_
            refine q_getI E hC24 g0 fa_RX4_51 dX4_passNumber_61 (fun v38 ev38 _ _ => ?_)
            have qv38 := ev25.symm.trans ev38; subst qv38
            refine lv_iconst (v := 1) hx hb dX4_passNumber_64 rfl ?_
            refine lv_iadd hx hb dX4_passNumber_65 (lv_topi (fun v39 ev39 => ?_))
            have ev39i : v39.toInt = (v25.toInt + 1) := i_add ev39 rfl (by decide) (by omega) (by omega)
            refine q_put E hC24 hS33 g0 fp_RX4_51 tv_F rfl rfl dX4_passNumber_66 (fun H40 locs40 hC40 hS40 U40 => ?_)
            have hKp40 := Kp.upO E g0 fp_RX4_51 rfl U40 hKp24
            have e41 := up_I U40
            have m42 : (sI H40 h0 (X.1.2 4 7)).toInt = (v25.toInt + 1) := (congrArg Int32.toInt e41).trans ev39i
            have tpt : ∀ j, sI H40 tp j = sI H0 tp j := fun j => (up_nI U40 (ne_k gtp g0 (by decide))).trans (tpt j)
            have m43 : (sI H40 h0 (X.1.2 4 6)).toInt = (sI H24 h0 (X.1.2 4 6)).toInt := congrArg Int32.toInt (up_nI U40 (ne_f E 4 6 7 rfl (by decide) (by decide) (by decide)))
            refine lv_goto (tgt := 7) hx hb dX4_passNumber_69 rfl ?_
            have m1_length : (sI H24 h0 (X.1.2 4 6)).toInt = v27.toInt := (congrArg Int32.toInt ev27).trans rfl
            have e44 := (up_nI U40 (ne_f E 4 6 7 rfl (by decide) (by decide) (by decide))).trans ev27
            have m2_length : (sI H40 h0 (X.1.2 4 6)).toInt = v27.toInt := (congrArg Int32.toInt e44).trans rfl
            have m1_next : (sI H24 h0 (X.1.2 4 7)).toInt = v25.toInt := (congrArg Int32.toInt ev25).trans rfl
            have m2_next : (sI H40 h0 (X.1.2 4 7)).toInt = (v25.toInt + 1) := (congrArg Int32.toInt e41).trans ev39i
            exact ih24 H40 locs40 v23 (z23) ls (by omega) ev23 (by omega) (by omega) (by omega) (SpP.cast ((hsp.cast hz1).step (by omega) (by omega) hlt) (by omega)) (PNI.cast hps (by omega)) (by omega) (by omega) (by omega) hC40 hS40 hKp40 tpt hl
          · have hbd := (hpi.cast hz1).bd (hsp.cast hz1) (by omega) (by omega)
            have hdg := hlt
            unfold isDg at hdg
            refine lv_iload_n hx hb dX4_passNumber_42 rfl (lv_at hl 0 rfl) ?_
            refine lv_bipush (v := 10) hx hb dX4_passNumber_43 rfl ?_
            refine lv_imul hx hb dX4_passNumber_45 (lv_topi (fun v45 ev45 => ?_))
            have ev45i : v45.toInt = (z23 * 10) := i_mul ev45 ev23 (by decide) (by omega) (by omega)
            refine lv_aload_n hx hb dX4_passNumber_46 rfl (lv_at hl 2 rfl) ?_
            refine lv_aload_n hx hb dX4_passNumber_47 rfl (lv_at hl 2 rfl) ?_
            refine q_getI E hC24 g0 fa_RX4_51 dX4_passNumber_48 (fun v46 ev46 _ _ => ?_)
            have qv46 := ev25.symm.trans ev46; subst qv46
            refine q_goIp (q_runV (As := [.int v25]) (rest := [.int v45]) E hC24 hS33 (m_X4_byteAt l X Γ H24 hC24 h0 g0 v25 (a1 := v25.toInt) rfl tp ((kp_R hKp24 g0 (ci := 4) (k := 0) rfl (by decide) rfl).trans htp) gtp) cw_X4_byteAt cl_RX4_78 g0 ⟨rfl, rfl⟩ rfl hl.1 rfl (show _ ≤ _ from by simp [Value.category]) (by decide) dX4_passNumber_51) hS33 (fun v47 locs47 hr47 hS47 => ?_)
            have f47_0 := hr47
            have hb2 : v47.toInt = bf H0 tp (v25.toInt : Int).toNat := BA.get f47_0 tpt (by omega) (by omega) (by omega)
            refine lv_iadd hx hb dX4_passNumber_54 (lv_topi (fun v48 ev48 => ?_))
            have ev48i : v48.toInt = ((z23 * 10) + v47.toInt) := i_add ev48 ev45i rfl (by omega) (by omega)
            refine lv_bipush (v := 48) hx hb dX4_passNumber_55 rfl ?_
            refine lv_isub hx hb dX4_passNumber_57 (lv_topi (fun v49 ev49 => ?_))
            have ev49i : v49.toInt = (((z23 * 10) + v47.toInt) - 48) := i_sub ev49 ev48i (by decide) (by omega) (by omega)
            refine lv_istore_n hx hb dX4_passNumber_58 rfl hl (by decide) rfl (fun ls hl => ?_)
            have hl : lv_has ls 3 [(2, .int v49), (1, .int v21), (0, .ref h0)] := hl
            have hps : PNI (bf H0 tp) (sI H0 h0 (X.1.2 4 7)).toInt ((sI H24 h0 (X.1.2 4 7)).toInt + 1) (((z23 * 10) + v47.toInt) - 48) := by first | exact PNI.out (by omega) | exact PNI.step hpi hsp (by omega) (hb2.trans (by rw [hz1])) (by omega) (by omega)
            refine lv_aload_n hx hb dX4_passNumber_59 rfl (lv_at hl 2 rfl) ?_
            refine lv_dup hx hb dX4_passNumber_60 rfl ?_
            refine q_getI E hC24 g0 fa_RX4_51 dX4_passNumber_61 (fun v50 ev50 _ _ => ?_)
            have qv50 := ev25.symm.trans ev50; subst qv50
            refine lv_iconst (v := 1) hx hb dX4_passNumber_64 rfl ?_
            refine lv_iadd hx hb dX4_passNumber_65 (lv_topi (fun v51 ev51 => ?_))
            have ev51i : v51.toInt = (v25.toInt + 1) := i_add ev51 rfl (by decide) (by omega) (by omega)
            refine q_put E hC24 hS47 g0 fp_RX4_51 tv_F rfl rfl dX4_passNumber_66 (fun H52 locs52 hC52 hS52 U52 => ?_)
            have hKp52 := Kp.upO E g0 fp_RX4_51 rfl U52 hKp24
            have e53 := up_I U52
            have m54 : (sI H52 h0 (X.1.2 4 7)).toInt = (v25.toInt + 1) := (congrArg Int32.toInt e53).trans ev51i
            have tpt : ∀ j, sI H52 tp j = sI H0 tp j := fun j => (up_nI U52 (ne_k gtp g0 (by decide))).trans (tpt j)
            have m55 : (sI H52 h0 (X.1.2 4 6)).toInt = (sI H24 h0 (X.1.2 4 6)).toInt := congrArg Int32.toInt (up_nI U52 (ne_f E 4 6 7 rfl (by decide) (by decide) (by decide)))
            refine lv_goto (tgt := 7) hx hb dX4_passNumber_69 rfl ?_
            have m1_length : (sI H24 h0 (X.1.2 4 6)).toInt = v27.toInt := (congrArg Int32.toInt ev27).trans rfl
            have e56 := (up_nI U52 (ne_f E 4 6 7 rfl (by decide) (by decide) (by decide))).trans ev27
            have m2_length : (sI H52 h0 (X.1.2 4 6)).toInt = v27.toInt := (congrArg Int32.toInt e56).trans rfl
            have m1_next : (sI H24 h0 (X.1.2 4 7)).toInt = v25.toInt := (congrArg Int32.toInt ev25).trans rfl
            have m2_next : (sI H52 h0 (X.1.2 4 7)).toInt = (v25.toInt + 1) := (congrArg Int32.toInt e53).trans ev51i
            exact ih24 H52 locs52 v49 ((((z23 * 10) + v47.toInt) - 48)) ls (by omega) ev49i (by omega) (by omega) (by omega) (SpP.cast ((hsp.cast hz1).step (by omega) (by omega) hlt) (by omega)) (PNI.cast hps (by omega)) (by omega) (by omega) (by omega) hC52 hS52 hKp52 tpt hl
        · refine q_if_eq hx hb (a := 0) (by decide) (tgt := 72) dX4_passNumber_29 rfl (fun c57 => ?_) (fun c57 => absurd c57 (by omega))
          refine lv_iload_n hx hb dX4_passNumber_72 rfl (lv_at hl 0 rfl) ?_
          have hpost : SpZ isDg (bf H0 tp) (sI H0 h0 (X.1.2 4 6)).toInt (sI H0 h0 (X.1.2 4 7)).toInt (sI H24 h0 (X.1.2 4 7)).toInt := by first | exact ⟨hsp, fun q => absurd q.1 (by omega)⟩ | exact ⟨hsp, fun q => by have q2 := q.2; rw [hz1, ← hb1] at q2; exact absurd q2 (by assumption)⟩
          have hpw : (sI H24 h0 (X.1.2 4 7)).toInt - (sI H0 h0 (X.1.2 4 7)).toInt ≤ 4 → (v23 : Int32).toInt = nmN (bf H0 tp) ((sI H0 h0 (X.1.2 4 7)).toInt).toNat ((sI H24 h0 (X.1.2 4 7)).toInt - (sI H0 h0 (X.1.2 4 7)).toInt).toNat := fun q => ev23.trans (hpi q)
          have c58 : v23.toInt = z23 := ev23
          exact ret v23 H24 locs33 _ _ dX4_passNumber_73 ⟨hKp24, ⟨hpost, by omega, by omega, by omega, hpw, by omega, by omega⟩⟩ hC24 hS33
  exact L7 _ H0 [] 0 0 ls (Nat.lt_succ_self _) (by decide) (by omega) (by omega) (by omega) (SpP.nil) (fun _ => by rw [Int.sub_self]; rfl) (by omega) (by omega) (by omega) hC0 hS0 hKp0 tpt hl
set_option maxRecDepth 100000 in
set_option maxHeartbeats 4000000 in
theorem m_X4_advance (l : Launch) (X : xW) (Γ : Nat → Option Nat) (H0 : Heap) (hC0 : Conf X Γ H0) (h0 : Nat) (g0 : Γ h0 = some 2) : Ctr l X Γ yX4_advance cX4_advance 1 none 1 [.ref h0] H0 (QV X Γ (fun H1 => Kp X Γ [0, 2, 3, 4, 5, 18, 21, 23, 25, 27, 29, 31, 33, 34, 37, 39, 40, 41] H0 H1 ∧ ((∀ j : Nat, (sI H0 h0 (X.1.2 4 8)).toInt + 1 = j → j ≤ 900 → RDA X H1 h0 j)))) := by
  refine q_enterV (own := "SnowForts$Reader") (by decide) rfl (Nat.le_of_ble_eq_true rfl) ?_
  intro p e s m args below meth c ls Qz E hl ret hS0
  have hx := E.1; have hb := E.2.1
  have hKp0 : Kp X Γ [0, 2, 3, 4, 5, 18, 21, 23, 25, 27, 29, 31, 33, 34, 37, 39, 40, 41] H0 H0 := Kp.rf
  have hl : lv_has ls 1 [(0, .ref h0)] := hl
  obtain ⟨ks, hks, gks⟩ := f_ref hC0 g0 (ci := 4) (kf := 2) rfl rfl
  obtain ⟨vs, hvs, gvs⟩ := f_ref hC0 g0 (ci := 4) (kf := 4) rfl rfl
  obtain ⟨ws, hws, gws⟩ := f_ref hC0 g0 (ci := 4) (kf := 5) rfl rfl
  refine lv_aload_n hx hb dX4_advance_0 rfl (lv_at hl 0 rfl) ?_
  refine lv_aload_n hx hb dX4_advance_1 rfl (lv_at hl 0 rfl) ?_
  refine q_getI E hC0 g0 fa_RX4_72 dX4_advance_2 (fun v21 ev21 _ _ => ?_)
  have m22 : (sI H0 h0 (X.1.2 4 8)).toInt = v21.toInt := (congrArg Int32.toInt ev21).trans rfl
  refine lv_iconst (v := 1) hx hb dX4_advance_5 rfl ?_
  refine lv_iadd hx hb dX4_advance_6 (lv_topi (fun v23 ev23 => ?_))
  have qt := ev23
  refine lv_sipush (v := 900) hx hb dX4_advance_7 rfl ?_
  refine q_mmin E hl.1 w_574 mathw_min (a := v23.toInt) (b := 900) rfl (show (900 : Int32).toInt = 900 from by decide) (by decide) (show _ ≤ _ from by simp [Value.category]) dX4_advance_10 (fun v24 mv24a mv24b mv24c => ?_)
  refine q_put E hC0 hS0 g0 fp_RX4_72 tv_F rfl rfl dX4_advance_13 (fun H25 locs25 hC25 hS25 U25 => ?_)
  have hKp25 := Kp.upO E g0 fp_RX4_72 rfl U25 hKp0
  have e26 := up_I U25
  have m27 : (sI H25 h0 (X.1.2 4 8)).toInt = v24.toInt := (congrArg Int32.toInt e26).trans rfl
  have hU0 := U25
  have hK0 := hKp25
  refine lv_aload_n hx hb dX4_advance_16 rfl (lv_at hl 0 rfl) ?_
  refine q_getI E hC25 g0 fa_RX4_72 dX4_advance_17 (fun v28 ev28 _ _ => ?_)
  have qv28 := e26.symm.trans ev28; subst qv28
  refine q_if_lt hx hb (a := v24.toInt) rfl (tgt := 75) dX4_advance_20 rfl (fun c29 => ?_) (fun c29 => ?_)
  · have hpost : ∀ j : Nat, (sI H0 h0 (X.1.2 4 8)).toInt + 1 = j → j ≤ 900 → RDA X H25 h0 j := fun j h1 h2 => by have hq := i_add qt rfl (show (1 : Int32).toInt = 1 from by decide) (by omega) (by omega); first | (exfalso; omega) | exact (RDA.mk E g0 gks gvs gws ((kp_R hK0 g0 (ci := 4) (k := 2) rfl (by decide) rfl).trans hks) ((kp_R hK0 g0 (ci := 4) (k := 4) rfl (by decide) rfl).trans hvs) ((kp_R hK0 g0 (ci := 4) (k := 5) rfl (by decide) rfl).trans hws) (by rw [up_I hU0]; omega) (hix ▸ hE1) hU1 hU2 hE3 hU3 (hix ▸ hE4) hU4).cast (by omega)
    exact ret H25 locs25 _ _ dX4_advance_75 ⟨hKp25, hpost⟩ hC25 hS25
  · refine lv_aload_n hx hb dX4_advance_23 rfl (lv_at hl 0 rfl) ?_
    refine lv_aload_n hx hb dX4_advance_24 rfl (lv_at hl 0 rfl) ?_
    refine q_getS E hC25 g0 fa_RX4_15 ((kp_R hKp25 g0 (ci := 4) (k := 2) rfl (by decide) rfl).trans hks) dX4_advance_25 (fun _ => ?_)
    refine lv_aload_n hx hb dX4_advance_28 rfl (lv_at hl 0 rfl) ?_
    refine q_getI E hC25 g0 fa_RX4_72 dX4_advance_29 (fun v30 ev30 _ _ => ?_)
    have qv30 := e26.symm.trans ev30; subst qv30
    refine q_iald E hC25 gks rfl rfl (fun _ h => h) (i_in (a := v24.toInt) rfl (by omega) (by omega)) dX4_advance_32 (fun v31 ev31 _ _ => ?_)
    have hE1 := ev31
    have hix : (v24 : Int32).toNatClampNeg = (v24.toInt : Int).toNat := i_ix rfl
    refine q_put E hC25 hS25 g0 fp_RX4_93 tv_F rfl rfl dX4_advance_33 (fun H32 locs32 hC32 hS32 U32 => ?_)
    have hKp32 := Kp.upO E g0 fp_RX4_93 rfl U32 hKp25
    have e33 := up_I U32
    have m34 : (sI H32 h0 (X.1.2 4 8)).toInt = (sI H25 h0 (X.1.2 4 8)).toInt := congrArg Int32.toInt (up_nI U32 (ne_f E 4 8 9 rfl (by decide) (by decide) (by decide)))
    have hU1 := U32
    refine lv_aload_n hx hb dX4_advance_36 rfl (lv_at hl 0 rfl) ?_
    refine lv_aload_n hx hb dX4_advance_37 rfl (lv_at hl 0 rfl) ?_
    refine q_getR E hC32 g0 fa_RX4_19 dX4_advance_38 (fun q35 eq35 gq35 => ?_)
    refine lv_aload_n hx hb dX4_advance_41 rfl (lv_at hl 0 rfl) ?_
    have e37 := (up_nI U32 (ne_f E 4 8 9 rfl (by decide) (by decide) (by decide))).trans e26
    refine q_getI E hC32 g0 fa_RX4_72 dX4_advance_42 (fun v36 ev36 _ _ => ?_)
    have qv36 := e37.symm.trans ev36; subst qv36
    have m38 : (sI H32 h0 (X.1.2 4 8)).toInt = v24.toInt := (congrArg Int32.toInt ev36).trans rfl
    refine q_iald E hC32 gq35 rfl rfl (fun _ h => h) (i_in (a := v24.toInt) rfl (by omega) (by omega)) dX4_advance_45 (fun v39 ev39 _ _ => ?_)
    refine q_put E hC32 hS32 g0 fp_RX4_96 tv_F rfl rfl dX4_advance_46 (fun H40 locs40 hC40 hS40 U40 => ?_)
    have hKp40 := Kp.upO E g0 fp_RX4_96 rfl U40 hKp32
    have e41 := up_I U40
    have m42 : (sI H40 h0 (X.1.2 4 8)).toInt = (sI H32 h0 (X.1.2 4 8)).toInt := congrArg Int32.toInt (up_nI U40 (ne_f E 4 8 10 rfl (by decide) (by decide) (by decide)))
    have hU2 := U40
    refine lv_aload_n hx hb dX4_advance_49 rfl (lv_at hl 0 rfl) ?_
    refine lv_aload_n hx hb dX4_advance_50 rfl (lv_at hl 0 rfl) ?_
    refine q_getS E hC40 g0 fa_RX4_22 ((kp_R hKp40 g0 (ci := 4) (k := 4) rfl (by decide) rfl).trans hvs) dX4_advance_51 (fun _ => ?_)
    refine lv_aload_n hx hb dX4_advance_54 rfl (lv_at hl 0 rfl) ?_
    have e44 := (up_nI U40 (ne_f E 4 8 10 rfl (by decide) (by decide) (by decide))).trans e37
    refine q_getI E hC40 g0 fa_RX4_72 dX4_advance_55 (fun v43 ev43 _ _ => ?_)
    have qv43 := e44.symm.trans ev43; subst qv43
    have m45 : (sI H40 h0 (X.1.2 4 8)).toInt = v24.toInt := (congrArg Int32.toInt ev43).trans rfl
    refine q_lald2 E hC40 gvs rfl rfl (fun _ => rfl) (a := v24.toInt) rfl (by omega) (by omega) dX4_advance_58 (fun v46 ev46 => ?_)
    have hE3 := ev46
    refine q_put E hC40 hS40 g0 fp_RX4_99 tv_J rfl rfl dX4_advance_59 (fun H47 locs47 hC47 hS47 U47 => ?_)
    have hKp47 := Kp.upO E g0 fp_RX4_99 rfl U47 hKp40
    have m48 : (sI H47 h0 (X.1.2 4 8)).toInt = (sI H40 h0 (X.1.2 4 8)).toInt := congrArg Int32.toInt (up_nI U47 (ne_f E 4 8 11 rfl (by decide) (by decide) (by decide)))
    have hU3 := U47
    refine lv_aload_n hx hb dX4_advance_62 rfl (lv_at hl 0 rfl) ?_
    refine lv_aload_n hx hb dX4_advance_63 rfl (lv_at hl 0 rfl) ?_
    refine q_getS E hC47 g0 fa_RX4_28 ((kp_R hKp47 g0 (ci := 4) (k := 5) rfl (by decide) rfl).trans hws) dX4_advance_64 (fun _ => ?_)
    refine lv_aload_n hx hb dX4_advance_67 rfl (lv_at hl 0 rfl) ?_
    have e50 := (up_nI U47 (ne_f E 4 8 11 rfl (by decide) (by decide) (by decide))).trans e44
    refine q_getI E hC47 g0 fa_RX4_72 dX4_advance_68 (fun v49 ev49 _ _ => ?_)
    have qv49 := e50.symm.trans ev49; subst qv49
    have m51 : (sI H47 h0 (X.1.2 4 8)).toInt = v24.toInt := (congrArg Int32.toInt ev49).trans rfl
    refine q_aaldQ E hC47 gws rfl rfl (fun _ => rfl) (C := "SnowForts$Word") rfl (i_in (a := v24.toInt) rfl (by omega) (by omega)) dX4_advance_71 (fun q52 eq52 gq52 => ?_)
    have hE4 := eq52
    refine q_put E hC47 hS47 g0 fp_RX4_103 (tv_Q gq52) (nar_Q _) (fit_Q _) dX4_advance_72 (fun H53 locs53 hC53 hS53 U53 => ?_)
    have hKp53 := Kp.upO E g0 fp_RX4_103 rfl U53 hKp47
    have m54 : (sI H53 h0 (X.1.2 4 8)).toInt = (sI H47 h0 (X.1.2 4 8)).toInt := congrArg Int32.toInt (up_nI U53 (ne_f E 4 8 12 rfl (by decide) (by decide) (by decide)))
    have hU4 := U53
    have hpost : ∀ j : Nat, (sI H0 h0 (X.1.2 4 8)).toInt + 1 = j → j ≤ 900 → RDA X H53 h0 j := fun j h1 h2 => by have hq := i_add qt rfl (show (1 : Int32).toInt = 1 from by decide) (by omega) (by omega); first | (exfalso; omega) | exact (RDA.mk E g0 gks gvs gws ((kp_R hK0 g0 (ci := 4) (k := 2) rfl (by decide) rfl).trans hks) ((kp_R hK0 g0 (ci := 4) (k := 4) rfl (by decide) rfl).trans hvs) ((kp_R hK0 g0 (ci := 4) (k := 5) rfl (by decide) rfl).trans hws) (by rw [up_I hU0]; omega) (hix ▸ hE1) hU1 hU2 hE3 hU3 (hix ▸ hE4) hU4).cast (by omega)
    exact ret H53 locs53 _ _ dX4_advance_75 ⟨hKp53, hpost⟩ hC53 hS53
set_option maxRecDepth 100000 in
set_option maxHeartbeats 4000000 in
theorem m_X4_start (l : Launch) (X : xW) (Γ : Nat → Option Nat) (H0 : Heap) (hC0 : Conf X Γ H0) (h0 : Nat) (g0 : Γ h0 = some 2) (p1 : Int32) {a1 : Int} (e1 : p1.toInt = a1) (tp : Nat) (htp : sR H0 h0 (X.1.2 4 0) = some tp) (gtp : Γ tp = some 25) (r0 : 0 ≤ a1) (r1 : a1 ≤ 900) : Ctr l X Γ yX4_start cX4_start 4 none 2 [.ref h0, .int p1] H0 (QV X Γ (fun H1 => Kp X Γ [0, 2, 3, 4, 5, 18, 21, 23, 25, 27, 29, 33, 34, 37, 39, 40, 41] H0 H1 ∧ ((∃ (kd vl w3 : Nat → Int) (pos : Nat → Nat) (N : Nat), TKS (bf H0 tp) (a1).toNat N pos kd vl w3 ∧ CU X Γ H1 h0 kd vl N 0)))) := by
  refine q_enterV (own := "SnowForts$Reader") (by decide) rfl (Nat.le_of_ble_eq_true rfl) ?_
  intro p e s m args below meth c ls Qz E hl ret hS0
  have hx := E.1; have hb := E.2.1
  have hKp0 : Kp X Γ [0, 2, 3, 4, 5, 18, 21, 23, 25, 27, 29, 33, 34, 37, 39, 40, 41] H0 H0 := Kp.rf
  have hl : lv_has ls 4 [(0, .ref h0), (1, .int p1)] := hl
  obtain ⟨ks, hks, gks⟩ := f_ref hC0 g0 (ci := 4) (kf := 2) rfl rfl
  obtain ⟨vs, hvs, gvs⟩ := f_ref hC0 g0 (ci := 4) (kf := 4) rfl rfl
  obtain ⟨ws, hws, gws⟩ := f_ref hC0 g0 (ci := 4) (kf := 5) rfl rfl
  obtain ⟨ps, hps, gps⟩ := f_ref hC0 g0 (ci := 4) (kf := 3) rfl rfl
  have tpt : ∀ j, sI H0 tp j = sI H0 tp j := fun _ => rfl
  refine lv_aload_n hx hb dX4_start_0 rfl (lv_at hl 0 rfl) ?_
  refine lv_iconst (v := 0) hx hb dX4_start_1 rfl ?_
  refine q_put E hC0 hS0 g0 fp_RX4_32 tv_F rfl rfl dX4_start_2 (fun H21 locs21 hC21 hS21 U21 => ?_)
  have hKp21 := Kp.upO E g0 fp_RX4_32 rfl U21 hKp0
  have e22 := up_I U21
  have tpt : ∀ j, sI H21 tp j = sI H0 tp j := fun j => (up_nI U21 (ne_k gtp g0 (by decide))).trans (tpt j)
  have m23 : (sI H21 h0 (X.1.2 4 7)).toInt = (sI H0 h0 (X.1.2 4 7)).toInt := congrArg Int32.toInt (up_nI U21 (ne_f E 4 7 15 rfl (by decide) (by decide) (by decide)))
  have m24 : (sI H21 h0 (X.1.2 4 6)).toInt = (sI H0 h0 (X.1.2 4 6)).toInt := congrArg Int32.toInt (up_nI U21 (ne_f E 4 6 15 rfl (by decide) (by decide) (by decide)))
  refine lv_aload_n hx hb dX4_start_5 rfl (lv_at hl 0 rfl) ?_
  refine lv_iconst (v := (-1)) hx hb dX4_start_6 rfl ?_
  refine q_put E hC21 hS21 g0 fp_RX4_36 tv_F rfl rfl dX4_start_7 (fun H25 locs25 hC25 hS25 U25 => ?_)
  have hKp25 := Kp.upO E g0 fp_RX4_36 rfl U25 hKp21
  have e26 := up_I U25
  have tpt : ∀ j, sI H25 tp j = sI H0 tp j := fun j => (up_nI U25 (ne_k gtp g0 (by decide))).trans (tpt j)
  have m27 : (sI H25 h0 (X.1.2 4 7)).toInt = (sI H21 h0 (X.1.2 4 7)).toInt := congrArg Int32.toInt (up_nI U25 (ne_f E 4 7 16 rfl (by decide) (by decide) (by decide)))
  have m28 : (sI H25 h0 (X.1.2 4 6)).toInt = (sI H21 h0 (X.1.2 4 6)).toInt := congrArg Int32.toInt (up_nI U25 (ne_f E 4 6 16 rfl (by decide) (by decide) (by decide)))
  refine lv_aload_n hx hb dX4_start_10 rfl (lv_at hl 0 rfl) ?_
  refine lv_iload_n hx hb dX4_start_11 rfl (lv_at hl 1 rfl) ?_
  refine lv_sipush (v := 900) hx hb dX4_start_12 rfl ?_
  refine q_mmin E hl.1 w_574 mathw_min (a := a1) (b := 900) e1 (show (900 : Int32).toInt = 900 from by decide) (by decide) (show _ ≤ _ from by simp [Value.category]) dX4_start_15 (fun v29 mv29a mv29b mv29c => ?_)
  refine q_put E hC25 hS25 g0 fp_RX4_48 tv_F rfl rfl dX4_start_18 (fun H30 locs30 hC30 hS30 U30 => ?_)
  have hKp30 := Kp.upO E g0 fp_RX4_48 rfl U30 hKp25
  have e31 := up_I U30
  have m32 : (sI H30 h0 (X.1.2 4 6)).toInt = v29.toInt := (congrArg Int32.toInt e31).trans rfl
  have tpt : ∀ j, sI H30 tp j = sI H0 tp j := fun j => (up_nI U30 (ne_k gtp g0 (by decide))).trans (tpt j)
  have m33 : (sI H30 h0 (X.1.2 4 7)).toInt = (sI H25 h0 (X.1.2 4 7)).toInt := congrArg Int32.toInt (up_nI U30 (ne_f E 4 7 6 rfl (by decide) (by decide) (by decide)))
  refine lv_aload_n hx hb dX4_start_21 rfl (lv_at hl 0 rfl) ?_
  refine lv_iconst (v := 0) hx hb dX4_start_22 rfl ?_
  refine q_put E hC30 hS30 g0 fp_RX4_51 tv_F rfl rfl dX4_start_23 (fun H34 locs34 hC34 hS34 U34 => ?_)
  have hKp34 := Kp.upO E g0 fp_RX4_51 rfl U34 hKp30
  have e35 := up_I U34
  have m36 : (sI H34 h0 (X.1.2 4 7)).toInt = 0 := (congrArg Int32.toInt e35).trans (show (0 : Int32).toInt = 0 from by decide)
  have tpt : ∀ j, sI H34 tp j = sI H0 tp j := fun j => (up_nI U34 (ne_k gtp g0 (by decide))).trans (tpt j)
  have m37 : (sI H34 h0 (X.1.2 4 6)).toInt = (sI H30 h0 (X.1.2 4 6)).toInt := congrArg Int32.toInt (up_nI U34 (ne_f E 4 6 7 rfl (by decide) (by decide) (by decide)))
  refine lv_iconst (v := 0) hx hb dX4_start_26 rfl ?_
  refine lv_istore_n hx hb dX4_start_27 rfl hl (by decide) rfl (fun ls hl => ?_)
  have hl : lv_has ls 4 [(2, .int 0), (0, .ref h0), (1, .int p1)] := hl
  refine lv_iconst (v := 0) hx hb dX4_start_28 rfl ?_
  refine lv_istore_n hx hb dX4_start_29 rfl hl (by decide) rfl (fun ls hl => ?_)
  have hl : lv_has ls 4 [(3, .int 0), (2, .int 0), (0, .ref h0), (1, .int p1)] := hl
  have L30 : ∀ (n40 : Nat) (H40 : Heap) (locs40 : List Loc) (v38 : Int32) (z38 : Int) (v39 : Int32) (z39 : Int) (ls : Array Slot), (901 - z38).toNat < n40 → v38.toInt = z38 → v39.toInt = z39 → z38 ≤ 901 → 0 ≤ z38 → z39 = 0 ∨ z39 = 1 → (sI H40 h0 (X.1.2 4 6)).toInt = a1 → 0 ≤ (sI H40 h0 (X.1.2 4 7)).toInt → (z39 = 0 → (sI H40 h0 (X.1.2 4 7)).toInt ≤ a1) → (((z39 : Int) = 0 → TSP X H40 ks vs ws (bf H0 tp) (a1).toNat (z38 : Int).toNat (sI H40 h0 (X.1.2 4 7)).toInt) ∧ ((z39 : Int) = 1 → TSF X H40 ks vs ws (bf H0 tp) (a1).toNat)) → Conf X Γ H40 → va_S (AΓ Γ) H0 H40 locs40 → Kp X Γ [0, 2, 3, 4, 5, 18, 21, 23, 25, 27, 29, 33, 34, 37, 39, 40, 41] H0 H40 → (∀ j, sI H40 tp j = sI H0 tp j) → lv_has ls 4 [(3, .int v38), (2, .int v39), (0, .ref h0), (1, .int p1)] → W p l e (rmL 2) s m args below meth c H40 locs40 0 0 Qz (F0 m 30 ls []) := by
    intro n40
    induction n40 with
    | zero => intro H40 locs40 v38 z38 v39 z39 ls hm40 ev38 ev39 iv40_0 iv40_1 iv40_2 iv40_3 iv40_4 iv40_5 iv40_6 hC40 hS40 hKp40 tpt hl; exact absurd hm40 (Nat.not_lt_zero _)
    | succ n40 ih40 =>
      intro H40 locs40 v38 z38 v39 z39 ls hm40 ev38 ev39 iv40_0 iv40_1 iv40_2 iv40_3 iv40_4 iv40_5 iv40_6 hC40 hS40 hKp40 tpt hl
      have hts := iv40_6
      obtain ⟨Hb, hHb⟩ : ∃ h, h = H40 := ⟨_, rfl⟩
      have hnb : (sI H40 h0 (X.1.2 4 7)).toInt = (sI Hb h0 (X.1.2 4 7)).toInt := by rw [hHb]
      rw [← hHb] at hts
      have rwe : RWE ks vs ws (z38 : Int).toNat Hb H40 := by rw [hHb]; exact RWE.rf
      refine lv_iload_n hx hb dX4_start_30 rfl (lv_at hl 0 rfl) ?_
      refine lv_sipush (v := 901) hx hb dX4_start_31 rfl ?_
      refine q_icmp_ge hx hb (a := z38) (b := 901) ev38 (by decide) (tgt := 198) dX4_start_34 rfl (fun c41 => ?_) (fun c41 => ?_)
      · refine lv_aload_n hx hb dX4_start_198 rfl (lv_at hl 2 rfl) ?_
        refine lv_iconst (v := (-1)) hx hb dX4_start_199 rfl ?_
        refine q_put E hC40 hS40 g0 fp_RX4_72 tv_F rfl rfl dX4_start_200 (fun H42 locs42 hC42 hS42 U42 => ?_)
        have hKp42 := Kp.upO E g0 fp_RX4_72 rfl U42 hKp40
        have e43 := up_I U42
        have tpt : ∀ j, sI H42 tp j = sI H0 tp j := fun j => (up_nI U42 (ne_k gtp g0 (by decide))).trans (tpt j)
        have m44 : (sI H42 h0 (X.1.2 4 7)).toInt = (sI H40 h0 (X.1.2 4 7)).toInt := congrArg Int32.toInt (up_nI U42 (ne_f E 4 7 8 rfl (by decide) (by decide) (by decide)))
        have m45 : (sI H42 h0 (X.1.2 4 6)).toInt = (sI H40 h0 (X.1.2 4 6)).toInt := congrArg Int32.toInt (up_nI U42 (ne_f E 4 6 8 rfl (by decide) (by decide) (by decide)))
        have htk := up_I U42
        have hR1 : ∀ i, RWE ks vs ws i Hb H42 := fun i => by rw [hHb]; exact RWE.up RWE.rf U42 (Or.inr ⟨nek g0 gks (by decide), nek g0 gvs (by decide), nek g0 gws (by decide)⟩)
        refine lv_aload_n hx hb dX4_start_203 rfl (lv_at hl 2 rfl) ?_
        refine q_goV (q_runV (As := []) (rest := []) E hC42 hS42 (m_X4_advance l X Γ H42 hC42 h0 g0) cw_X4_advance cl_RX4_75 g0 ⟨rfl, rfl⟩ rfl hl.1 rfl (Nat.zero_le _) (by decide) dX4_start_204) hS42 (fun H46 locs46 hr46 hC46 hS46 => ?_)
        obtain ⟨hp46, hr46⟩ := hr46
        have hKp46 := hKp42.tr (hp46.mono rfl)
        have tpt : ∀ j, sI H46 tp j = sI H0 tp j := fun j => (kp_aI hp46 j gtp rfl rfl).trans (tpt j)
        have f46_0 := hr46
        have hav := f46_0
        have hR2 : ∀ i, RWE ks vs ws i Hb H46 := fun i => (hR1 i).kp hp46 gks gvs gws rfl
        have hpost : ∃ (kd vl w3 : Nat → Int) (pos : Nat → Nat) (N : Nat), TKS (bf H0 tp) (a1).toNat N pos kd vl w3 ∧ CU X Γ H46 h0 kd vl N 0 := by rcases (show z39 = 0 ∨ z39 = 1 by omega) with he | he; (exfalso; have q1 := (hts.1 he).lt; omega); exact ((hts.2 he).kp hR2).cu g0 ((kp_R hKp46 g0 (ci := 4) (k := 2) rfl (by decide) rfl).trans hks) ((kp_R hKp46 g0 (ci := 4) (k := 4) rfl (by decide) rfl).trans hvs) ((kp_R hKp46 g0 (ci := 4) (k := 5) rfl (by decide) rfl).trans hws) gks gvs gws (hav 0 (by rw [htk]; decide) (by omega))
        exact ret H46 locs46 _ _ dX4_start_207 ⟨hKp46, hpost⟩ hC46 hS46
      · refine lv_iload_n hx hb dX4_start_37 rfl (lv_at hl 1 rfl) ?_
        refine q_if_ne hx hb (a := z39) ev39 (tgt := 198) dX4_start_38 rfl (fun c47 => ?_) (fun c47 => ?_)
        · refine lv_aload_n hx hb dX4_start_198 rfl (lv_at hl 2 rfl) ?_
          refine lv_iconst (v := (-1)) hx hb dX4_start_199 rfl ?_
          refine q_put E hC40 hS40 g0 fp_RX4_72 tv_F rfl rfl dX4_start_200 (fun H48 locs48 hC48 hS48 U48 => ?_)
          have hKp48 := Kp.upO E g0 fp_RX4_72 rfl U48 hKp40
          have e49 := up_I U48
          have tpt : ∀ j, sI H48 tp j = sI H0 tp j := fun j => (up_nI U48 (ne_k gtp g0 (by decide))).trans (tpt j)
          have m50 : (sI H48 h0 (X.1.2 4 7)).toInt = (sI H40 h0 (X.1.2 4 7)).toInt := congrArg Int32.toInt (up_nI U48 (ne_f E 4 7 8 rfl (by decide) (by decide) (by decide)))
          have m51 : (sI H48 h0 (X.1.2 4 6)).toInt = (sI H40 h0 (X.1.2 4 6)).toInt := congrArg Int32.toInt (up_nI U48 (ne_f E 4 6 8 rfl (by decide) (by decide) (by decide)))
          have htk := up_I U48
          have hR1 : ∀ i, RWE ks vs ws i Hb H48 := fun i => by rw [hHb]; exact RWE.up RWE.rf U48 (Or.inr ⟨nek g0 gks (by decide), nek g0 gvs (by decide), nek g0 gws (by decide)⟩)
          refine lv_aload_n hx hb dX4_start_203 rfl (lv_at hl 2 rfl) ?_
          refine q_goV (q_runV (As := []) (rest := []) E hC48 hS48 (m_X4_advance l X Γ H48 hC48 h0 g0) cw_X4_advance cl_RX4_75 g0 ⟨rfl, rfl⟩ rfl hl.1 rfl (Nat.zero_le _) (by decide) dX4_start_204) hS48 (fun H52 locs52 hr52 hC52 hS52 => ?_)
          obtain ⟨hp52, hr52⟩ := hr52
          have hKp52 := hKp48.tr (hp52.mono rfl)
          have tpt : ∀ j, sI H52 tp j = sI H0 tp j := fun j => (kp_aI hp52 j gtp rfl rfl).trans (tpt j)
          have f52_0 := hr52
          have hav := f52_0
          have hR2 : ∀ i, RWE ks vs ws i Hb H52 := fun i => (hR1 i).kp hp52 gks gvs gws rfl
          have hpost : ∃ (kd vl w3 : Nat → Int) (pos : Nat → Nat) (N : Nat), TKS (bf H0 tp) (a1).toNat N pos kd vl w3 ∧ CU X Γ H52 h0 kd vl N 0 := by rcases (show z39 = 0 ∨ z39 = 1 by omega) with he | he; (exfalso; have q1 := (hts.1 he).lt; omega); exact ((hts.2 he).kp hR2).cu g0 ((kp_R hKp52 g0 (ci := 4) (k := 2) rfl (by decide) rfl).trans hks) ((kp_R hKp52 g0 (ci := 4) (k := 4) rfl (by decide) rfl).trans hvs) ((kp_R hKp52 g0 (ci := 4) (k := 5) rfl (by decide) rfl).trans hws) gks gvs gws (hav 0 (by rw [htk]; decide) (by omega))
          exact ret H52 locs52 _ _ dX4_start_207 ⟨hKp52, hpost⟩ hC52 hS52
        · have hts0 := hts.1 (by omega)
          have hlt0 := hts0.lt
          have tb1 := bf_eq tpt
          refine lv_aload_n hx hb dX4_start_41 rfl (lv_at hl 2 rfl) ?_
          refine q_goV (q_runV (As := []) (rest := []) E hC40 hS40 (m_X4_passBlanks l X Γ H40 hC40 h0 g0 tp ((kp_R hKp40 g0 (ci := 4) (k := 0) rfl (by decide) rfl).trans htp) gtp (by omega) (by omega) (by omega)) cw_X4_passBlanks cl_RX4_54 g0 ⟨rfl, rfl⟩ rfl hl.1 rfl (Nat.zero_le _) (by decide) dX4_start_42) hS40 (fun H53 locs53 hr53 hC53 hS53 => ?_)
          obtain ⟨hp53, hr53⟩ := hr53
          have hKp53 := hKp40.tr (hp53.mono rfl)
          have tpt : ∀ j, sI H53 tp j = sI H0 tp j := fun j => (kp_aI hp53 j gtp rfl rfl).trans (tpt j)
          have rwe : RWE ks vs ws (z38 : Int).toNat Hb H53 := rwe.kp hp53 gks gvs gws rfl
          obtain ⟨f53_0, f53_1, f53_2, f53_3⟩ := hr53
          obtain ⟨sq, hsq⟩ : ∃ z, z = (sI H53 h0 (X.1.2 4 7)).toInt := ⟨_, rfl⟩
          have hB : SpZ isBl (bf H0 tp) a1 (sI Hb h0 (X.1.2 4 7)).toInt sq := SpZ.cast (tb1 ▸ f53_0) (by omega) (by omega) (by omega)
          refine lv_aload_n hx hb dX4_start_45 rfl (lv_at hl 2 rfl) ?_
          refine q_getS E hC53 g0 fa_RX4_19 ((kp_R hKp53 g0 (ci := 4) (k := 3) rfl (by decide) rfl).trans hps) dX4_start_46 (fun _ => ?_)
          refine lv_iload_n hx hb dX4_start_49 rfl (lv_at hl 0 rfl) ?_
          refine lv_aload_n hx hb dX4_start_50 rfl (lv_at hl 2 rfl) ?_
          refine q_getI E hC53 g0 fa_RX4_51 dX4_start_51 (fun v54 ev54 _ _ => ?_)
          have m55 : (sI H53 h0 (X.1.2 4 7)).toInt = v54.toInt := (congrArg Int32.toInt ev54).trans rfl
          refine q_iast E hC53 hS53 gps (by decide) rfl rfl (i_in (a := z38) ev38 (by omega) (by omega)) tv_F dX4_start_54 (fun H56 locs56 hC56 hS56 U56 => ?_)
          have hKp56 := Kp.upA gps rfl (by decide) rfl U56 hKp53
          have tpt : ∀ j, sI H56 tp j = sI H0 tp j := fun j => (up_nI U56 (ne_k gtp gps (by decide))).trans (tpt j)
          have rwe : RWE ks vs ws (z38 : Int).toNat Hb H56 := rwe.up U56 (by first | exact Or.inr ⟨nek gps gks (by decide), nek gps gvs (by decide), nek gps gws (by decide)⟩ | exact Or.inl (Nat.le_of_eq (i_ix ev38).symm) | exact Or.inl (Nat.le_refl _))
          have m57 : (sI H56 h0 (X.1.2 4 7)).toInt = (sI H53 h0 (X.1.2 4 7)).toInt := congrArg Int32.toInt (up_nI U56 (ne_k g0 gps (by decide)))
          have m58 : (sI H56 h0 (X.1.2 4 6)).toInt = (sI H53 h0 (X.1.2 4 6)).toInt := congrArg Int32.toInt (up_nI U56 (ne_k g0 gps (by decide)))
          have cp : sI H56 ps (z38 : Int).toNat = v54 := by rw [← i_ix ev38]; exact up_I U56
          have hpl : (v54 : Int32).toInt = sq := by omega
          refine lv_aload_n hx hb dX4_start_55 rfl (lv_at hl 2 rfl) ?_
          refine q_getS E hC56 g0 fa_RX4_22 ((kp_R hKp56 g0 (ci := 4) (k := 4) rfl (by decide) rfl).trans hvs) dX4_start_56 (fun _ => ?_)
          refine lv_iload_n hx hb dX4_start_59 rfl (lv_at hl 0 rfl) ?_
          refine lv_lconst (v := 0) hx hb dX4_start_60 rfl ?_
          refine q_last2 E hC56 hS56 gvs (by decide) rfl rfl (fun _ => rfl) (a := z38) ev38 (by omega) (by omega) dX4_start_61 (fun H59 locs59 hC59 hS59 U59 => ?_)
          have hKp59 := Kp.upA gvs rfl (by decide) rfl U59 hKp56
          have tpt : ∀ j, sI H59 tp j = sI H0 tp j := fun j => (up_nI U59 (ne_k gtp gvs (by decide))).trans (tpt j)
          have rwe : RWE ks vs ws (z38 : Int).toNat Hb H59 := rwe.up U59 (by first | exact Or.inr ⟨nek gvs gks (by decide), nek gvs gvs (by decide), nek gvs gws (by decide)⟩ | exact Or.inl (Nat.le_of_eq (i_ix ev38).symm) | exact Or.inl (Nat.le_refl _))
          have cp : sI H59 ps (z38 : Int).toNat = v54 := (up_nI U59 (ne_k gps gvs (by decide))).trans cp
          have m60 : (sI H59 h0 (X.1.2 4 7)).toInt = (sI H56 h0 (X.1.2 4 7)).toInt := congrArg Int32.toInt (up_nI U59 (ne_k g0 gvs (by decide)))
          have m61 : (sI H59 h0 (X.1.2 4 6)).toInt = (sI H56 h0 (X.1.2 4 6)).toInt := congrArg Int32.toInt (up_nI U59 (ne_k g0 gvs (by decide)))
          have cv : sJ H59 vs (z38 : Int).toNat = 0 := up_J U59
          refine lv_aload_n hx hb dX4_start_62 rfl (lv_at hl 2 rfl) ?_
          refine q_getS E hC59 g0 fa_RX4_28 ((kp_R hKp59 g0 (ci := 4) (k := 5) rfl (by decide) rfl).trans hws) dX4_start_63 (fun _ => ?_)
          refine lv_iload_n hx hb dX4_start_66 rfl (lv_at hl 0 rfl) ?_
          refine lv_null hx hb dX4_start_67 ?_
          refine q_wast (o := none) E hC59 hS59 gws (by decide) rfl rfl (fun _ => rfl) (fun _ h => by cases h) (i_in (a := z38) ev38 (by omega) (by omega)) dX4_start_68 (fun H62 locs62 hC62 hS62 U62 => ?_)
          have hKp62 := Kp.upA gws rfl (by decide) rfl U62 hKp59
          have tpt : ∀ j, sI H62 tp j = sI H0 tp j := fun j => (up_nI U62 (ne_k gtp gws (by decide))).trans (tpt j)
          have rwe : RWE ks vs ws (z38 : Int).toNat Hb H62 := rwe.up U62 (by first | exact Or.inr ⟨nek gws gks (by decide), nek gws gvs (by decide), nek gws gws (by decide)⟩ | exact Or.inl (Nat.le_of_eq (i_ix ev38).symm) | exact Or.inl (Nat.le_refl _))
          have cp : sI H62 ps (z38 : Int).toNat = v54 := (up_nI U62 (ne_k gps gws (by decide))).trans cp
          have cv : sJ H62 vs (z38 : Int).toNat = 0 := (up_nJ U62 (ne_k gvs gws (by decide))).trans cv
          have m63 : (sI H62 h0 (X.1.2 4 7)).toInt = (sI H59 h0 (X.1.2 4 7)).toInt := congrArg Int32.toInt (up_nI U62 (ne_k g0 gws (by decide)))
          have m64 : (sI H62 h0 (X.1.2 4 6)).toInt = (sI H59 h0 (X.1.2 4 6)).toInt := congrArg Int32.toInt (up_nI U62 (ne_k g0 gws (by decide)))
          have cw : sR H62 ws (z38 : Int).toNat = none := by rw [← i_ix ev38]; exact up_Q (o := none) U62
          refine lv_aload_n hx hb dX4_start_69 rfl (lv_at hl 2 rfl) ?_
          refine q_getS E hC62 g0 fa_RX4_15 ((kp_R hKp62 g0 (ci := 4) (k := 2) rfl (by decide) rfl).trans hks) dX4_start_70 (fun _ => ?_)
          refine lv_iload_n hx hb dX4_start_73 rfl (lv_at hl 0 rfl) ?_
          refine lv_aload_n hx hb dX4_start_74 rfl (lv_at hl 2 rfl) ?_
          have tb2 := bf_eq tpt
          refine q_goIp (q_runV (As := []) (rest := [.int v38, .ref ks]) E hC62 hS62 (m_X4_kindHere l X Γ H62 hC62 h0 g0 tp ((kp_R hKp62 g0 (ci := 4) (k := 0) rfl (by decide) rfl).trans htp) gtp (by omega) (by omega) (by omega)) cw_X4_kindHere cl_RX4_57 g0 ⟨rfl, rfl⟩ rfl hl.1 rfl (show _ ≤ _ from by simp [Value.category]) (by decide) dX4_start_75) hS62 (fun v65 locs65 hr65 hS65 => ?_)
          have f65_0 := hr65
          have hK : (a1 ≤ sq ∧ v65.toInt = 0) ∨ (sq < a1 ∧ KHR (bf H0 tp sq.toNat) v65.toInt) := by have q := f65_0; rw [tb2, show (sI H62 h0 (X.1.2 4 7)).toInt = sq by omega, show (sI H62 h0 (X.1.2 4 6)).toInt = a1 by omega] at q; exact q
          refine q_iast E hC62 hS65 gks (by decide) rfl rfl (i_in (a := z38) ev38 (by omega) (by omega)) tv_F dX4_start_78 (fun H66 locs66 hC66 hS66 U66 => ?_)
          have hKp66 := Kp.upA gks rfl (by decide) rfl U66 hKp62
          have tpt : ∀ j, sI H66 tp j = sI H0 tp j := fun j => (up_nI U66 (ne_k gtp gks (by decide))).trans (tpt j)
          have rwe : RWE ks vs ws (z38 : Int).toNat Hb H66 := rwe.up U66 (by first | exact Or.inr ⟨nek gks gks (by decide), nek gks gvs (by decide), nek gks gws (by decide)⟩ | exact Or.inl (Nat.le_of_eq (i_ix ev38).symm) | exact Or.inl (Nat.le_refl _))
          have cp : sI H66 ps (z38 : Int).toNat = v54 := (up_nI U66 (ne_k gps gks (by decide))).trans cp
          have cv : sJ H66 vs (z38 : Int).toNat = 0 := (up_nJ U66 (ne_k gvs gks (by decide))).trans cv
          have cw : sR H66 ws (z38 : Int).toNat = none := (up_nR U66 (ne_k gws gks (by decide))).trans cw
          have m67 : (sI H66 h0 (X.1.2 4 7)).toInt = (sI H62 h0 (X.1.2 4 7)).toInt := congrArg Int32.toInt (up_nI U66 (ne_k g0 gks (by decide)))
          have m68 : (sI H66 h0 (X.1.2 4 6)).toInt = (sI H62 h0 (X.1.2 4 6)).toInt := congrArg Int32.toInt (up_nI U66 (ne_k g0 gks (by decide)))
          have ck : sI H66 ks (z38 : Int).toNat = v65 := by rw [← i_ix ev38]; exact up_I U66
          refine lv_aload_n hx hb dX4_start_79 rfl (lv_at hl 2 rfl) ?_
          refine q_getS E hC66 g0 fa_RX4_15 ((kp_R hKp66 g0 (ci := 4) (k := 2) rfl (by decide) rfl).trans hks) dX4_start_80 (fun _ => ?_)
          refine lv_iload_n hx hb dX4_start_83 rfl (lv_at hl 0 rfl) ?_
          refine q_iald E hC66 gks rfl rfl (fun _ h => h) (i_in (a := z38) ev38 (by omega) (by omega)) dX4_start_84 (fun v69 ev69 _ _ => ?_)
          have hk1 : v69.toInt = _ := congrArg Int32.toInt (ev69.symm.trans ((congrArg (sI H66 ks) (i_ix ev38)).trans ck))
          refine q_if_ne hx hb (a := v69.toInt) rfl (tgt := 92) dX4_start_85 rfl (fun c70 => ?_) (fun c70 => ?_)
          · refine lv_iconst (v := 0) hx hb dX4_start_92 rfl ?_
            refine lv_istore_n hx hb dX4_start_93 rfl hl (by decide) rfl (fun ls hl => ?_)
            have hl : lv_has ls 4 [(2, .int 0), (3, .int v38), (0, .ref h0), (1, .int p1)] := hl
            refine lv_aload_n hx hb dX4_start_94 rfl (lv_at hl 2 rfl) ?_
            refine q_getS E hC66 g0 fa_RX4_15 ((kp_R hKp66 g0 (ci := 4) (k := 2) rfl (by decide) rfl).trans hks) dX4_start_95 (fun _ => ?_)
            refine lv_iload_n hx hb dX4_start_98 rfl (lv_at hl 1 rfl) ?_
            refine q_iald E hC66 gks rfl rfl (fun _ h => h) (i_in (a := z38) ev38 (by omega) (by omega)) dX4_start_99 (fun v71 ev71 _ _ => ?_)
            have hk2 : v71.toInt = _ := congrArg Int32.toInt (ev71.symm.trans ((congrArg (sI H66 ks) (i_ix ev38)).trans ck))
            refine lv_iconst (v := 2) hx hb dX4_start_100 rfl ?_
            refine q_icmp_ne hx hb (a := v71.toInt) (b := 2) rfl (by decide) (tgt := 132) dX4_start_101 rfl (fun c72 => ?_) (fun c72 => ?_)
            · refine lv_aload_n hx hb dX4_start_132 rfl (lv_at hl 2 rfl) ?_
              refine q_getS E hC66 g0 fa_RX4_15 ((kp_R hKp66 g0 (ci := 4) (k := 2) rfl (by decide) rfl).trans hks) dX4_start_133 (fun _ => ?_)
              refine lv_iload_n hx hb dX4_start_136 rfl (lv_at hl 1 rfl) ?_
              refine q_iald E hC66 gks rfl rfl (fun _ h => h) (i_in (a := z38) ev38 (by omega) (by omega)) dX4_start_137 (fun v73 ev73 _ _ => ?_)
              have hk3 : v73.toInt = _ := congrArg Int32.toInt (ev73.symm.trans ((congrArg (sI H66 ks) (i_ix ev38)).trans ck))
              refine lv_iconst (v := 3) hx hb dX4_start_138 rfl ?_
              refine q_icmp_ne hx hb (a := v73.toInt) (b := 3) rfl (by decide) (tgt := 182) dX4_start_139 rfl (fun c74 => ?_) (fun c74 => ?_)
              · refine lv_aload_n hx hb dX4_start_182 rfl (lv_at hl 2 rfl) ?_
                refine lv_dup hx hb dX4_start_183 rfl ?_
                have e76 := (up_nI U56 (ne_k g0 gps (by decide))).trans ev54
                have e77 := (up_nI U59 (ne_k g0 gvs (by decide))).trans e76
                have e78 := (up_nI U62 (ne_k g0 gws (by decide))).trans e77
                have e79 := (up_nI U66 (ne_k g0 gks (by decide))).trans e78
                refine q_getI E hC66 g0 fa_RX4_51 dX4_start_184 (fun v75 ev75 _ _ => ?_)
                have qv75 := e79.symm.trans ev75; subst qv75
                have m80 : (sI H66 h0 (X.1.2 4 7)).toInt = v54.toInt := (congrArg Int32.toInt ev75).trans rfl
                refine lv_iconst (v := 1) hx hb dX4_start_187 rfl ?_
                refine lv_iadd hx hb dX4_start_188 (lv_topi (fun v81 ev81 => ?_))
                have ev81i : v81.toInt = (v54.toInt + 1) := i_add ev81 rfl (by decide) (by omega) (by omega)
                refine q_put E hC66 hS66 g0 fp_RX4_51 tv_F rfl rfl dX4_start_189 (fun H82 locs82 hC82 hS82 U82 => ?_)
                have hKp82 := Kp.upO E g0 fp_RX4_51 rfl U82 hKp66
                have e83 := up_I U82
                have m84 : (sI H82 h0 (X.1.2 4 7)).toInt = (v54.toInt + 1) := (congrArg Int32.toInt e83).trans ev81i
                have tpt : ∀ j, sI H82 tp j = sI H0 tp j := fun j => (up_nI U82 (ne_k gtp g0 (by decide))).trans (tpt j)
                have rwe : RWE ks vs ws (z38 : Int).toNat Hb H82 := rwe.up U82 (by first | exact Or.inr ⟨nek g0 gks (by decide), nek g0 gvs (by decide), nek g0 gws (by decide)⟩ | exact Or.inl (Nat.le_of_eq (rfl).symm) | exact Or.inl (Nat.le_refl _))
                have cp : sI H82 ps (z38 : Int).toNat = v54 := (up_nI U82 (ne_k gps g0 (by decide))).trans cp
                have cv : sJ H82 vs (z38 : Int).toNat = 0 := (up_nJ U82 (ne_k gvs g0 (by decide))).trans cv
                have cw : sR H82 ws (z38 : Int).toNat = none := (up_nR U82 (ne_k gws g0 (by decide))).trans cw
                have ck : sI H82 ks (z38 : Int).toNat = v65 := (up_nI U82 (ne_k gks g0 (by decide))).trans ck
                have m85 : (sI H82 h0 (X.1.2 4 6)).toInt = (sI H66 h0 (X.1.2 4 6)).toInt := congrArg Int32.toInt (up_nI U82 (ne_f E 4 6 7 rfl (by decide) (by decide) (by decide)))
                have hTT : TK1 (bf H0 tp) (a1).toNat (sI Hb h0 (X.1.2 4 7)).toInt.toNat (sI H82 ks (z38 : Int).toNat).toInt (sJ H82 vs (z38 : Int).toNat).toInt ((sI H82 h0 (X.1.2 4 7)).toInt).toNat := by rw [ck, cv]; first | exact TK1.oth hB (by omega) (hK.resolve_left (by omega)).2 (by omega) (by omega) (by omega) (by omega) | exact TK1.fin hB (by rcases hK with q | q; exact q.1; exact absurd (by omega) q.2.nz) (by omega) (by omega) (by omega)
                have hWD : WDT X (sI H82 ks (z38 : Int).toNat).toInt (sJ H82 vs (z38 : Int).toNat).toInt (sR H82 ws (z38 : Int).toNat) := by rw [ck, cw]; exact WDT.no (by omega)
                have hkk : (sI H82 ks (z38 : Int).toNat).toInt = _ := congrArg Int32.toInt ck
                have hix3 : (z38 + 1 : Int).toNat = (z38 : Int).toNat + 1 := by omega
                have hnx : ((0 : Int) = 0 → TSP X H82 ks vs ws (bf H0 tp) (a1).toNat (z38 + 1 : Int).toNat (sI H82 h0 (X.1.2 4 7)).toInt) ∧ ((0 : Int) = 1 → TSF X H82 ks vs ws (bf H0 tp) (a1).toNat) := by rw [hix3]; first | (exfalso; omega) | exact ⟨fun _ => TSP.step hts0 rwe (by omega) hTT hWD (by omega), fun q => absurd q (by decide)⟩ | exact ⟨fun q => absurd q (by decide), fun _ => TSP.fin hts0 rwe (by omega) hTT hWD (by omega)⟩
                obtain ⟨v86, ev86⟩ : ∃ z, z = v38 + Int32.ofInt 1 := ⟨_, rfl⟩
                have ev86i : v86.toInt = (z38 + 1) := i_add ev86 ev38 (by decide) (by omega) (by omega)
                refine lv_iinc hx hb dX4_start_192 hl (k := 1) rfl ev86.symm (by decide) rfl (fun ls hl => ?_)
                have hl : lv_has ls 4 [(3, .int v86), (2, .int 0), (0, .ref h0), (1, .int p1)] := hl
                refine lv_goto (tgt := 30) hx hb dX4_start_195 rfl ?_
                exact ih40 H82 locs82 v86 ((z38 + 1)) 0 (0) ls (by omega) ev86i (by decide) (by omega) (by omega) (by omega) (by omega) (by omega) (by omega) (hnx) hC82 hS82 hKp82 tpt hl
              · refine lv_aload_n hx hb dX4_start_142 rfl (lv_at hl 2 rfl) ?_
                refine q_getS E hC66 g0 fa_RX4_22 ((kp_R hKp66 g0 (ci := 4) (k := 4) rfl (by decide) rfl).trans hvs) dX4_start_143 (fun _ => ?_)
                refine lv_iload_n hx hb dX4_start_146 rfl (lv_at hl 1 rfl) ?_
                refine lv_aload_n hx hb dX4_start_147 rfl (lv_at hl 2 rfl) ?_
                have tb4 := bf_eq tpt
                refine q_goI (q_runV (As := []) (rest := [.int v38, .ref vs]) E hC66 hS66 (m_X4_passNumber l X Γ H66 hC66 h0 g0 tp ((kp_R hKp66 g0 (ci := 4) (k := 0) rfl (by decide) rfl).trans htp) gtp (by omega) (by omega) (by omega)) cw_X4_passNumber cl_RX4_69 g0 ⟨rfl, rfl⟩ rfl hl.1 rfl (show _ ≤ _ from by simp [Value.category]) (by decide) dX4_start_148) hS66 (fun v87 H87 locs87 hr87 hC87 hS87 => ?_)
                obtain ⟨hp87, hr87⟩ := hr87
                have hKp87 := hKp66.tr (hp87.mono rfl)
                have tpt : ∀ j, sI H87 tp j = sI H0 tp j := fun j => (kp_aI hp87 j gtp rfl rfl).trans (tpt j)
                have rwe : RWE ks vs ws (z38 : Int).toNat Hb H87 := rwe.kp hp87 gks gvs gws rfl
                have cp : sI H87 ps (z38 : Int).toNat = v54 := (kp_aI hp87 _ gps rfl rfl).trans cp
                have cv : sJ H87 vs (z38 : Int).toNat = 0 := (kp_aJ hp87 _ gvs rfl rfl).trans cv
                have cw : sR H87 ws (z38 : Int).toNat = none := (kp_aR hp87 _ gws rfl rfl).trans cw
                have ck : sI H87 ks (z38 : Int).toNat = v65 := (kp_aI hp87 _ gks rfl rfl).trans ck
                obtain ⟨f87_0, f87_1, f87_2, f87_3, f87_4, f87_5, f87_6⟩ := hr87
                obtain ⟨qq, hqq⟩ : ∃ z, z = (sI H87 h0 (X.1.2 4 7)).toInt := ⟨_, rfl⟩
                have hD : SpZ isDg (bf H0 tp) a1 sq qq := SpZ.cast (tb4 ▸ f87_0) (by omega) (by omega) (by omega)
                have hsb : (sI H66 h0 (X.1.2 4 7)).toInt = sq := by omega
                have hN := f87_4; rw [tb4, hsb, ← hqq] at hN
                refine lv_i2l (v := v87.toInt64) hx hb dX4_start_151 rfl (lv_topl (fun v88 ev88 => ?_))
                have ev88i : v88.toInt = v87.toInt := l_ofi ev88.symm rfl
                refine q_last2 E hC87 hS87 gvs (by decide) rfl rfl (fun _ => rfl) (a := z38) ev38 (by omega) (by omega) dX4_start_152 (fun H89 locs89 hC89 hS89 U89 => ?_)
                have hKp89 := Kp.upA gvs rfl (by decide) rfl U89 hKp87
                have tpt : ∀ j, sI H89 tp j = sI H0 tp j := fun j => (up_nI U89 (ne_k gtp gvs (by decide))).trans (tpt j)
                have rwe : RWE ks vs ws (z38 : Int).toNat Hb H89 := rwe.up U89 (by first | exact Or.inr ⟨nek gvs gks (by decide), nek gvs gvs (by decide), nek gvs gws (by decide)⟩ | exact Or.inl (Nat.le_of_eq (i_ix ev38).symm) | exact Or.inl (Nat.le_refl _))
                have cp : sI H89 ps (z38 : Int).toNat = v54 := (up_nI U89 (ne_k gps gvs (by decide))).trans cp
                have cw : sR H89 ws (z38 : Int).toNat = none := (up_nR U89 (ne_k gws gvs (by decide))).trans cw
                have ck : sI H89 ks (z38 : Int).toNat = v65 := (up_nI U89 (ne_k gks gvs (by decide))).trans ck
                have m90 : (sI H89 h0 (X.1.2 4 7)).toInt = (sI H87 h0 (X.1.2 4 7)).toInt := congrArg Int32.toInt (up_nI U89 (ne_k g0 gvs (by decide)))
                have m91 : (sI H89 h0 (X.1.2 4 6)).toInt = (sI H87 h0 (X.1.2 4 6)).toInt := congrArg Int32.toInt (up_nI U89 (ne_k g0 gvs (by decide)))
                have hV : (v88 : Int64).toInt = v87.toInt := ev88i
                have cv : sJ H89 vs (z38 : Int).toNat = v88 := up_J U89
                refine lv_aload_n hx hb dX4_start_153 rfl (lv_at hl 2 rfl) ?_
                refine q_getS E hC89 g0 fa_RX4_15 ((kp_R hKp89 g0 (ci := 4) (k := 2) rfl (by decide) rfl).trans hks) dX4_start_154 (fun _ => ?_)
                refine lv_iload_n hx hb dX4_start_157 rfl (lv_at hl 1 rfl) ?_
                refine lv_aload_n hx hb dX4_start_158 rfl (lv_at hl 2 rfl) ?_
                have e93 := (up_nI U56 (ne_k g0 gps (by decide))).trans ev54
                have e94 := (up_nI U59 (ne_k g0 gvs (by decide))).trans e93
                have e95 := (up_nI U62 (ne_k g0 gws (by decide))).trans e94
                have e96 := (up_nI U66 (ne_k g0 gks (by decide))).trans e95
                refine q_getI E hC89 g0 fa_RX4_51 dX4_start_159 (fun v92 ev92 _ _ => ?_)
                have m97 : (sI H89 h0 (X.1.2 4 7)).toInt = v92.toInt := (congrArg Int32.toInt ev92).trans rfl
                refine lv_aload_n hx hb dX4_start_162 rfl (lv_at hl 2 rfl) ?_
                refine q_getS E hC89 g0 fa_RX4_19 ((kp_R hKp89 g0 (ci := 4) (k := 3) rfl (by decide) rfl).trans hps) dX4_start_163 (fun _ => ?_)
                refine lv_iload_n hx hb dX4_start_166 rfl (lv_at hl 1 rfl) ?_
                refine q_iald E hC89 gps rfl rfl (fun _ h => h) (i_in (a := z38) ev38 (by omega) (by omega)) dX4_start_167 (fun v98 ev98 _ _ => ?_)
                have hk5 : v98.toInt = sq := (congrArg Int32.toInt (ev98.symm.trans ((congrArg (sI H89 ps) (i_ix ev38)).trans cp))).trans hpl
                refine lv_isub hx hb dX4_start_168 (lv_topi (fun v99 ev99 => ?_))
                have ev99i : v99.toInt = (v92.toInt - v98.toInt) := i_sub ev99 rfl rfl (by omega) (by omega)
                refine lv_iconst (v := 4) hx hb dX4_start_169 rfl ?_
                refine q_icmp_le hx hb (a := (v92.toInt - v98.toInt)) (b := 4) ev99i (by decide) (tgt := 177) dX4_start_170 rfl (fun c100 => ?_) (fun c100 => ?_)
                · refine lv_iconst (v := 3) hx hb dX4_start_177 rfl ?_
                  refine q_iast E hC89 hS89 gks (by decide) rfl rfl (i_in (a := z38) ev38 (by omega) (by omega)) tv_F dX4_start_178 (fun H101 locs101 hC101 hS101 U101 => ?_)
                  have hKp101 := Kp.upA gks rfl (by decide) rfl U101 hKp89
                  have tpt : ∀ j, sI H101 tp j = sI H0 tp j := fun j => (up_nI U101 (ne_k gtp gks (by decide))).trans (tpt j)
                  have rwe : RWE ks vs ws (z38 : Int).toNat Hb H101 := rwe.up U101 (by first | exact Or.inr ⟨nek gks gks (by decide), nek gks gvs (by decide), nek gks gws (by decide)⟩ | exact Or.inl (Nat.le_of_eq (i_ix ev38).symm) | exact Or.inl (Nat.le_refl _))
                  have cp : sI H101 ps (z38 : Int).toNat = v54 := (up_nI U101 (ne_k gps gks (by decide))).trans cp
                  have cw : sR H101 ws (z38 : Int).toNat = none := (up_nR U101 (ne_k gws gks (by decide))).trans cw
                  have cv : sJ H101 vs (z38 : Int).toNat = v88 := (up_nJ U101 (ne_k gvs gks (by decide))).trans cv
                  have m102 : (sI H101 h0 (X.1.2 4 7)).toInt = (sI H89 h0 (X.1.2 4 7)).toInt := congrArg Int32.toInt (up_nI U101 (ne_k g0 gks (by decide)))
                  have m103 : (sI H101 h0 (X.1.2 4 6)).toInt = (sI H89 h0 (X.1.2 4 6)).toInt := congrArg Int32.toInt (up_nI U101 (ne_k g0 gks (by decide)))
                  have ck : sI H101 ks (z38 : Int).toNat = 3 := by rw [← i_ix ev38]; exact up_I U101
                  have hkk : ((sI H101 ks (z38 : Int).toNat).toInt = 3 ∧ qq - sq ≤ 4) ∨ ((sI H101 ks (z38 : Int).toNat).toInt = 1 ∧ 4 < qq - sq) := by rw [ck]; first | exact Or.inl ⟨by decide, by omega⟩ | exact Or.inr ⟨by decide, by omega⟩
                  have hTT : TK1 (bf H0 tp) (a1).toNat (sI Hb h0 (X.1.2 4 7)).toInt.toNat (sI H101 ks (z38 : Int).toNat).toInt (sJ H101 vs (z38 : Int).toNat).toInt ((sI H101 h0 (X.1.2 4 7)).toInt).toNat := by rcases hkk with ⟨q1, q2⟩ | ⟨q1, q2⟩ <;> rw [q1, cv, show (sI H101 h0 (X.1.2 4 7)).toInt = qq by omega]; exact TK1.num hB (by omega) ((hK.resolve_left (by omega)).2.three (by omega)) hD q2 (hV.trans (hN q2)) (by omega); exact TK1.long hB (by omega) ((hK.resolve_left (by omega)).2.three (by omega)) hD q2 (by omega)
                  have hWD : WDT X (sI H101 ks (z38 : Int).toNat).toInt (sJ H101 vs (z38 : Int).toNat).toInt (sR H101 ws (z38 : Int).toNat) := by rw [cw]; exact WDT.no (by omega)
                  have hqs := hD.pos (by omega) ((hK.resolve_left (by omega)).2.three (by omega))
                  refine lv_goto (tgt := 192) hx hb dX4_start_179 rfl ?_
                  have hix3 : (z38 + 1 : Int).toNat = (z38 : Int).toNat + 1 := by omega
                  have hnx : ((0 : Int) = 0 → TSP X H101 ks vs ws (bf H0 tp) (a1).toNat (z38 + 1 : Int).toNat (sI H101 h0 (X.1.2 4 7)).toInt) ∧ ((0 : Int) = 1 → TSF X H101 ks vs ws (bf H0 tp) (a1).toNat) := by rw [hix3]; first | (exfalso; omega) | exact ⟨fun _ => TSP.step hts0 rwe (by omega) hTT hWD (by omega), fun q => absurd q (by decide)⟩ | exact ⟨fun q => absurd q (by decide), fun _ => TSP.fin hts0 rwe (by omega) hTT hWD (by omega)⟩
                  obtain ⟨v104, ev104⟩ : ∃ z, z = v38 + Int32.ofInt 1 := ⟨_, rfl⟩
                  have ev104i : v104.toInt = (z38 + 1) := i_add ev104 ev38 (by decide) (by omega) (by omega)
                  refine lv_iinc hx hb dX4_start_192 hl (k := 1) rfl ev104.symm (by decide) rfl (fun ls hl => ?_)
                  have hl : lv_has ls 4 [(3, .int v104), (2, .int 0), (0, .ref h0), (1, .int p1)] := hl
                  refine lv_goto (tgt := 30) hx hb dX4_start_195 rfl ?_
                  exact ih40 H101 locs101 v104 ((z38 + 1)) 0 (0) ls (by omega) ev104i (by decide) (by omega) (by omega) (by omega) (by omega) (by omega) (by omega) (hnx) hC101 hS101 hKp101 tpt hl
                · refine lv_iconst (v := 1) hx hb dX4_start_173 rfl ?_
                  refine lv_goto (tgt := 178) hx hb dX4_start_174 rfl ?_
                  refine q_iast E hC89 hS89 gks (by decide) rfl rfl (i_in (a := z38) ev38 (by omega) (by omega)) tv_F dX4_start_178 (fun H105 locs105 hC105 hS105 U105 => ?_)
                  have hKp105 := Kp.upA gks rfl (by decide) rfl U105 hKp89
                  have tpt : ∀ j, sI H105 tp j = sI H0 tp j := fun j => (up_nI U105 (ne_k gtp gks (by decide))).trans (tpt j)
                  have rwe : RWE ks vs ws (z38 : Int).toNat Hb H105 := rwe.up U105 (by first | exact Or.inr ⟨nek gks gks (by decide), nek gks gvs (by decide), nek gks gws (by decide)⟩ | exact Or.inl (Nat.le_of_eq (i_ix ev38).symm) | exact Or.inl (Nat.le_refl _))
                  have cp : sI H105 ps (z38 : Int).toNat = v54 := (up_nI U105 (ne_k gps gks (by decide))).trans cp
                  have cw : sR H105 ws (z38 : Int).toNat = none := (up_nR U105 (ne_k gws gks (by decide))).trans cw
                  have cv : sJ H105 vs (z38 : Int).toNat = v88 := (up_nJ U105 (ne_k gvs gks (by decide))).trans cv
                  have m106 : (sI H105 h0 (X.1.2 4 7)).toInt = (sI H89 h0 (X.1.2 4 7)).toInt := congrArg Int32.toInt (up_nI U105 (ne_k g0 gks (by decide)))
                  have m107 : (sI H105 h0 (X.1.2 4 6)).toInt = (sI H89 h0 (X.1.2 4 6)).toInt := congrArg Int32.toInt (up_nI U105 (ne_k g0 gks (by decide)))
                  have ck : sI H105 ks (z38 : Int).toNat = 1 := by rw [← i_ix ev38]; exact up_I U105
                  have hkk : ((sI H105 ks (z38 : Int).toNat).toInt = 3 ∧ qq - sq ≤ 4) ∨ ((sI H105 ks (z38 : Int).toNat).toInt = 1 ∧ 4 < qq - sq) := by rw [ck]; first | exact Or.inl ⟨by decide, by omega⟩ | exact Or.inr ⟨by decide, by omega⟩
                  have hTT : TK1 (bf H0 tp) (a1).toNat (sI Hb h0 (X.1.2 4 7)).toInt.toNat (sI H105 ks (z38 : Int).toNat).toInt (sJ H105 vs (z38 : Int).toNat).toInt ((sI H105 h0 (X.1.2 4 7)).toInt).toNat := by rcases hkk with ⟨q1, q2⟩ | ⟨q1, q2⟩ <;> rw [q1, cv, show (sI H105 h0 (X.1.2 4 7)).toInt = qq by omega]; exact TK1.num hB (by omega) ((hK.resolve_left (by omega)).2.three (by omega)) hD q2 (hV.trans (hN q2)) (by omega); exact TK1.long hB (by omega) ((hK.resolve_left (by omega)).2.three (by omega)) hD q2 (by omega)
                  have hWD : WDT X (sI H105 ks (z38 : Int).toNat).toInt (sJ H105 vs (z38 : Int).toNat).toInt (sR H105 ws (z38 : Int).toNat) := by rw [cw]; exact WDT.no (by omega)
                  have hqs := hD.pos (by omega) ((hK.resolve_left (by omega)).2.three (by omega))
                  refine lv_goto (tgt := 192) hx hb dX4_start_179 rfl ?_
                  have hix3 : (z38 + 1 : Int).toNat = (z38 : Int).toNat + 1 := by omega
                  have hnx : ((0 : Int) = 0 → TSP X H105 ks vs ws (bf H0 tp) (a1).toNat (z38 + 1 : Int).toNat (sI H105 h0 (X.1.2 4 7)).toInt) ∧ ((0 : Int) = 1 → TSF X H105 ks vs ws (bf H0 tp) (a1).toNat) := by rw [hix3]; first | (exfalso; omega) | exact ⟨fun _ => TSP.step hts0 rwe (by omega) hTT hWD (by omega), fun q => absurd q (by decide)⟩ | exact ⟨fun q => absurd q (by decide), fun _ => TSP.fin hts0 rwe (by omega) hTT hWD (by omega)⟩
                  obtain ⟨v108, ev108⟩ : ∃ z, z = v38 + Int32.ofInt 1 := ⟨_, rfl⟩
                  have ev108i : v108.toInt = (z38 + 1) := i_add ev108 ev38 (by decide) (by omega) (by omega)
                  refine lv_iinc hx hb dX4_start_192 hl (k := 1) rfl ev108.symm (by decide) rfl (fun ls hl => ?_)
                  have hl : lv_has ls 4 [(3, .int v108), (2, .int 0), (0, .ref h0), (1, .int p1)] := hl
                  refine lv_goto (tgt := 30) hx hb dX4_start_195 rfl ?_
                  exact ih40 H105 locs105 v108 ((z38 + 1)) 0 (0) ls (by omega) ev108i (by decide) (by omega) (by omega) (by omega) (by omega) (by omega) (by omega) (hnx) hC105 hS105 hKp105 tpt hl
            · refine lv_aload_n hx hb dX4_start_104 rfl (lv_at hl 2 rfl) ?_
              refine q_getS E hC66 g0 fa_RX4_22 ((kp_R hKp66 g0 (ci := 4) (k := 4) rfl (by decide) rfl).trans hvs) dX4_start_105 (fun _ => ?_)
              refine lv_iload_n hx hb dX4_start_108 rfl (lv_at hl 1 rfl) ?_
              refine lv_aload_n hx hb dX4_start_109 rfl (lv_at hl 2 rfl) ?_
              have tb3 := bf_eq tpt
              refine q_goJ (q_runV (As := []) (rest := [.int v38, .ref vs]) E hC66 hS66 (m_X4_passWord l X Γ H66 hC66 h0 g0 tp ((kp_R hKp66 g0 (ci := 4) (k := 0) rfl (by decide) rfl).trans htp) gtp (by omega) (by omega) (by omega)) cw_X4_passWord cl_RX4_61 g0 ⟨rfl, rfl⟩ rfl hl.1 rfl (show _ ≤ _ from by simp [Value.category]) (by decide) dX4_start_110) hS66 (fun v109 H109 locs109 hr109 hC109 hS109 => ?_)
              obtain ⟨hp109, hr109⟩ := hr109
              have hKp109 := hKp66.tr (hp109.mono rfl)
              have tpt : ∀ j, sI H109 tp j = sI H0 tp j := fun j => (kp_aI hp109 j gtp rfl rfl).trans (tpt j)
              have rwe : RWE ks vs ws (z38 : Int).toNat Hb H109 := rwe.kp hp109 gks gvs gws rfl
              have cp : sI H109 ps (z38 : Int).toNat = v54 := (kp_aI hp109 _ gps rfl rfl).trans cp
              have cv : sJ H109 vs (z38 : Int).toNat = 0 := (kp_aJ hp109 _ gvs rfl rfl).trans cv
              have cw : sR H109 ws (z38 : Int).toNat = none := (kp_aR hp109 _ gws rfl rfl).trans cw
              have ck : sI H109 ks (z38 : Int).toNat = v65 := (kp_aI hp109 _ gks rfl rfl).trans ck
              obtain ⟨f109_0, f109_1, f109_2, f109_3, f109_4⟩ := hr109
              obtain ⟨qq, hqq⟩ : ∃ z, z = (sI H109 h0 (X.1.2 4 7)).toInt := ⟨_, rfl⟩
              have hW : SpZ isLt (bf H0 tp) a1 sq qq := SpZ.cast (tb3 ▸ f109_0) (by omega) (by omega) (by omega)
              have hsb : (sI H66 h0 (X.1.2 4 7)).toInt = sq := by omega
              have hV := f109_4; rw [tb3, hsb, ← hqq] at hV
              refine q_last2 E hC109 hS109 gvs (by decide) rfl rfl (fun _ => rfl) (a := z38) ev38 (by omega) (by omega) dX4_start_113 (fun H110 locs110 hC110 hS110 U110 => ?_)
              have hKp110 := Kp.upA gvs rfl (by decide) rfl U110 hKp109
              have tpt : ∀ j, sI H110 tp j = sI H0 tp j := fun j => (up_nI U110 (ne_k gtp gvs (by decide))).trans (tpt j)
              have rwe : RWE ks vs ws (z38 : Int).toNat Hb H110 := rwe.up U110 (by first | exact Or.inr ⟨nek gvs gks (by decide), nek gvs gvs (by decide), nek gvs gws (by decide)⟩ | exact Or.inl (Nat.le_of_eq (i_ix ev38).symm) | exact Or.inl (Nat.le_refl _))
              have cp : sI H110 ps (z38 : Int).toNat = v54 := (up_nI U110 (ne_k gps gvs (by decide))).trans cp
              have cw : sR H110 ws (z38 : Int).toNat = none := (up_nR U110 (ne_k gws gvs (by decide))).trans cw
              have ck : sI H110 ks (z38 : Int).toNat = v65 := (up_nI U110 (ne_k gks gvs (by decide))).trans ck
              have m111 : (sI H110 h0 (X.1.2 4 7)).toInt = (sI H109 h0 (X.1.2 4 7)).toInt := congrArg Int32.toInt (up_nI U110 (ne_k g0 gvs (by decide)))
              have m112 : (sI H110 h0 (X.1.2 4 6)).toInt = (sI H109 h0 (X.1.2 4 6)).toInt := congrArg Int32.toInt (up_nI U110 (ne_k g0 gvs (by decide)))
              have cv : sJ H110 vs (z38 : Int).toNat = v109 := up_J U110
              refine lv_aload_n hx hb dX4_start_114 rfl (lv_at hl 2 rfl) ?_
              refine q_getS E hC110 g0 fa_RX4_28 ((kp_R hKp110 g0 (ci := 4) (k := 5) rfl (by decide) rfl).trans hws) dX4_start_115 (fun _ => ?_)
              refine lv_iload_n hx hb dX4_start_118 rfl (lv_at hl 1 rfl) ?_
              refine lv_aload_n hx hb dX4_start_119 rfl (lv_at hl 2 rfl) ?_
              refine q_getS E hC110 g0 fa_RX4_22 ((kp_R hKp110 g0 (ci := 4) (k := 4) rfl (by decide) rfl).trans hvs) dX4_start_120 (fun _ => ?_)
              refine lv_iload_n hx hb dX4_start_123 rfl (lv_at hl 1 rfl) ?_
              refine q_lald2 E hC110 gvs rfl rfl (fun _ => rfl) (a := z38) ev38 (by omega) (by omega) dX4_start_124 (fun v113 ev113 => ?_)
              have hk4 : v113.toInt = _ := congrArg Int64.toInt (ev113.symm.trans cv)
              refine q_goQp (q_runS (As := [.long v113]) (rest := [.int v38, .ref ws]) E hS110 (m_X8_of l X Γ H110 hC110 v113 (a0 := v113.toInt) rfl) cw_X8_of cl_RX4_65 rfl hl.1 rfl (show _ ≤ _ from by simp [Value.category]) (by decide) dX4_start_125) hS110 (fun v114 locs114 hr114 hS114 => ?_)
              have hof := hr114.2
              refine q_wast (o := v114) E hC110 hS114 gws (by decide) rfl rfl (fun _ => rfl) hr114.1 (i_in (a := z38) ev38 (by omega) (by omega)) dX4_start_128 (fun H115 locs115 hC115 hS115 U115 => ?_)
              have hKp115 := Kp.upA gws rfl (by decide) rfl U115 hKp110
              have tpt : ∀ j, sI H115 tp j = sI H0 tp j := fun j => (up_nI U115 (ne_k gtp gws (by decide))).trans (tpt j)
              have rwe : RWE ks vs ws (z38 : Int).toNat Hb H115 := rwe.up U115 (by first | exact Or.inr ⟨nek gws gks (by decide), nek gws gvs (by decide), nek gws gws (by decide)⟩ | exact Or.inl (Nat.le_of_eq (i_ix ev38).symm) | exact Or.inl (Nat.le_refl _))
              have cp : sI H115 ps (z38 : Int).toNat = v54 := (up_nI U115 (ne_k gps gws (by decide))).trans cp
              have ck : sI H115 ks (z38 : Int).toNat = v65 := (up_nI U115 (ne_k gks gws (by decide))).trans ck
              have cv : sJ H115 vs (z38 : Int).toNat = v109 := (up_nJ U115 (ne_k gvs gws (by decide))).trans cv
              have m116 : (sI H115 h0 (X.1.2 4 7)).toInt = (sI H110 h0 (X.1.2 4 7)).toInt := congrArg Int32.toInt (up_nI U115 (ne_k g0 gws (by decide)))
              have m117 : (sI H115 h0 (X.1.2 4 6)).toInt = (sI H110 h0 (X.1.2 4 6)).toInt := congrArg Int32.toInt (up_nI U115 (ne_k g0 gws (by decide)))
              have cw : sR H115 ws (z38 : Int).toNat = v114 := by rw [← i_ix ev38]; exact up_Q U115
              have hkk : (sI H115 ks (z38 : Int).toNat).toInt = 2 := by rw [ck]; omega
              have hqs := hW.pos (by omega) ((hK.resolve_left (by omega)).2.two (by omega))
              have hTT : TK1 (bf H0 tp) (a1).toNat (sI Hb h0 (X.1.2 4 7)).toInt.toNat (sI H115 ks (z38 : Int).toNat).toInt (sJ H115 vs (z38 : Int).toNat).toInt ((sI H115 h0 (X.1.2 4 7)).toInt).toNat := by rw [hkk, cv, show (sI H115 h0 (X.1.2 4 7)).toInt = qq by omega]; exact TK1.word hB (by omega) ((hK.resolve_left (by omega)).2.two (by omega)) hW hV (by omega)
              have hWD : WDT X (sI H115 ks (z38 : Int).toNat).toInt (sJ H115 vs (z38 : Int).toNat).toInt (sR H115 ws (z38 : Int).toNat) := by rw [hkk, cv, cw]; exact WDT.word (hk4 ▸ hof) rfl
              refine lv_goto (tgt := 192) hx hb dX4_start_129 rfl ?_
              have hix3 : (z38 + 1 : Int).toNat = (z38 : Int).toNat + 1 := by omega
              have hnx : ((0 : Int) = 0 → TSP X H115 ks vs ws (bf H0 tp) (a1).toNat (z38 + 1 : Int).toNat (sI H115 h0 (X.1.2 4 7)).toInt) ∧ ((0 : Int) = 1 → TSF X H115 ks vs ws (bf H0 tp) (a1).toNat) := by rw [hix3]; first | (exfalso; omega) | exact ⟨fun _ => TSP.step hts0 rwe (by omega) hTT hWD (by omega), fun q => absurd q (by decide)⟩ | exact ⟨fun q => absurd q (by decide), fun _ => TSP.fin hts0 rwe (by omega) hTT hWD (by omega)⟩
              obtain ⟨v118, ev118⟩ : ∃ z, z = v38 + Int32.ofInt 1 := ⟨_, rfl⟩
              have ev118i : v118.toInt = (z38 + 1) := i_add ev118 ev38 (by decide) (by omega) (by omega)
              refine lv_iinc hx hb dX4_start_192 hl (k := 1) rfl ev118.symm (by decide) rfl (fun ls hl => ?_)
              have hl : lv_has ls 4 [(3, .int v118), (2, .int 0), (0, .ref h0), (1, .int p1)] := hl
              refine lv_goto (tgt := 30) hx hb dX4_start_195 rfl ?_
              exact ih40 H115 locs115 v118 ((z38 + 1)) 0 (0) ls (by omega) ev118i (by decide) (by omega) (by omega) (by omega) (by omega) (by omega) (by omega) (hnx) hC115 hS115 hKp115 tpt hl
          · refine lv_iconst (v := 1) hx hb dX4_start_88 rfl ?_
            refine lv_goto (tgt := 93) hx hb dX4_start_89 rfl ?_
            refine lv_istore_n hx hb dX4_start_93 rfl hl (by decide) rfl (fun ls hl => ?_)
            have hl : lv_has ls 4 [(2, .int 1), (3, .int v38), (0, .ref h0), (1, .int p1)] := hl
            refine lv_aload_n hx hb dX4_start_94 rfl (lv_at hl 2 rfl) ?_
            refine q_getS E hC66 g0 fa_RX4_15 ((kp_R hKp66 g0 (ci := 4) (k := 2) rfl (by decide) rfl).trans hks) dX4_start_95 (fun _ => ?_)
            refine lv_iload_n hx hb dX4_start_98 rfl (lv_at hl 1 rfl) ?_
            refine q_iald E hC66 gks rfl rfl (fun _ h => h) (i_in (a := z38) ev38 (by omega) (by omega)) dX4_start_99 (fun v119 ev119 _ _ => ?_)
            have hk2 : v119.toInt = _ := congrArg Int32.toInt (ev119.symm.trans ((congrArg (sI H66 ks) (i_ix ev38)).trans ck))
            refine lv_iconst (v := 2) hx hb dX4_start_100 rfl ?_
            refine q_icmp_ne hx hb (a := v119.toInt) (b := 2) rfl (by decide) (tgt := 132) dX4_start_101 rfl (fun c120 => ?_) (fun c120 => ?_)
            · refine lv_aload_n hx hb dX4_start_132 rfl (lv_at hl 2 rfl) ?_
              refine q_getS E hC66 g0 fa_RX4_15 ((kp_R hKp66 g0 (ci := 4) (k := 2) rfl (by decide) rfl).trans hks) dX4_start_133 (fun _ => ?_)
              refine lv_iload_n hx hb dX4_start_136 rfl (lv_at hl 1 rfl) ?_
              refine q_iald E hC66 gks rfl rfl (fun _ h => h) (i_in (a := z38) ev38 (by omega) (by omega)) dX4_start_137 (fun v121 ev121 _ _ => ?_)
              have hk3 : v121.toInt = _ := congrArg Int32.toInt (ev121.symm.trans ((congrArg (sI H66 ks) (i_ix ev38)).trans ck))
              refine lv_iconst (v := 3) hx hb dX4_start_138 rfl ?_
              refine q_icmp_ne hx hb (a := v121.toInt) (b := 3) rfl (by decide) (tgt := 182) dX4_start_139 rfl (fun c122 => ?_) (fun c122 => ?_)
              · refine lv_aload_n hx hb dX4_start_182 rfl (lv_at hl 2 rfl) ?_
                refine lv_dup hx hb dX4_start_183 rfl ?_
                have e124 := (up_nI U56 (ne_k g0 gps (by decide))).trans ev54
                have e125 := (up_nI U59 (ne_k g0 gvs (by decide))).trans e124
                have e126 := (up_nI U62 (ne_k g0 gws (by decide))).trans e125
                have e127 := (up_nI U66 (ne_k g0 gks (by decide))).trans e126
                refine q_getI E hC66 g0 fa_RX4_51 dX4_start_184 (fun v123 ev123 _ _ => ?_)
                have qv123 := e127.symm.trans ev123; subst qv123
                have m128 : (sI H66 h0 (X.1.2 4 7)).toInt = v54.toInt := (congrArg Int32.toInt ev123).trans rfl
                refine lv_iconst (v := 1) hx hb dX4_start_187 rfl ?_
                refine lv_iadd hx hb dX4_start_188 (lv_topi (fun v129 ev129 => ?_))
                have ev129i : v129.toInt = (v54.toInt + 1) := i_add ev129 rfl (by decide) (by omega) (by omega)
                refine q_put E hC66 hS66 g0 fp_RX4_51 tv_F rfl rfl dX4_start_189 (fun H130 locs130 hC130 hS130 U130 => ?_)
                have hKp130 := Kp.upO E g0 fp_RX4_51 rfl U130 hKp66
                have e131 := up_I U130
                have m132 : (sI H130 h0 (X.1.2 4 7)).toInt = (v54.toInt + 1) := (congrArg Int32.toInt e131).trans ev129i
                have tpt : ∀ j, sI H130 tp j = sI H0 tp j := fun j => (up_nI U130 (ne_k gtp g0 (by decide))).trans (tpt j)
                have rwe : RWE ks vs ws (z38 : Int).toNat Hb H130 := rwe.up U130 (by first | exact Or.inr ⟨nek g0 gks (by decide), nek g0 gvs (by decide), nek g0 gws (by decide)⟩ | exact Or.inl (Nat.le_of_eq (rfl).symm) | exact Or.inl (Nat.le_refl _))
                have cp : sI H130 ps (z38 : Int).toNat = v54 := (up_nI U130 (ne_k gps g0 (by decide))).trans cp
                have cv : sJ H130 vs (z38 : Int).toNat = 0 := (up_nJ U130 (ne_k gvs g0 (by decide))).trans cv
                have cw : sR H130 ws (z38 : Int).toNat = none := (up_nR U130 (ne_k gws g0 (by decide))).trans cw
                have ck : sI H130 ks (z38 : Int).toNat = v65 := (up_nI U130 (ne_k gks g0 (by decide))).trans ck
                have m133 : (sI H130 h0 (X.1.2 4 6)).toInt = (sI H66 h0 (X.1.2 4 6)).toInt := congrArg Int32.toInt (up_nI U130 (ne_f E 4 6 7 rfl (by decide) (by decide) (by decide)))
                have hTT : TK1 (bf H0 tp) (a1).toNat (sI Hb h0 (X.1.2 4 7)).toInt.toNat (sI H130 ks (z38 : Int).toNat).toInt (sJ H130 vs (z38 : Int).toNat).toInt ((sI H130 h0 (X.1.2 4 7)).toInt).toNat := by rw [ck, cv]; first | exact TK1.oth hB (by omega) (hK.resolve_left (by omega)).2 (by omega) (by omega) (by omega) (by omega) | exact TK1.fin hB (by rcases hK with q | q; exact q.1; exact absurd (by omega) q.2.nz) (by omega) (by omega) (by omega)
                have hWD : WDT X (sI H130 ks (z38 : Int).toNat).toInt (sJ H130 vs (z38 : Int).toNat).toInt (sR H130 ws (z38 : Int).toNat) := by rw [ck, cw]; exact WDT.no (by omega)
                have hkk : (sI H130 ks (z38 : Int).toNat).toInt = _ := congrArg Int32.toInt ck
                have hix3 : (z38 + 1 : Int).toNat = (z38 : Int).toNat + 1 := by omega
                have hnx : ((1 : Int) = 0 → TSP X H130 ks vs ws (bf H0 tp) (a1).toNat (z38 + 1 : Int).toNat (sI H130 h0 (X.1.2 4 7)).toInt) ∧ ((1 : Int) = 1 → TSF X H130 ks vs ws (bf H0 tp) (a1).toNat) := by rw [hix3]; first | (exfalso; omega) | exact ⟨fun _ => TSP.step hts0 rwe (by omega) hTT hWD (by omega), fun q => absurd q (by decide)⟩ | exact ⟨fun q => absurd q (by decide), fun _ => TSP.fin hts0 rwe (by omega) hTT hWD (by omega)⟩
                obtain ⟨v134, ev134⟩ : ∃ z, z = v38 + Int32.ofInt 1 := ⟨_, rfl⟩
                have ev134i : v134.toInt = (z38 + 1) := i_add ev134 ev38 (by decide) (by omega) (by omega)
                refine lv_iinc hx hb dX4_start_192 hl (k := 1) rfl ev134.symm (by decide) rfl (fun ls hl => ?_)
                have hl : lv_has ls 4 [(3, .int v134), (2, .int 1), (0, .ref h0), (1, .int p1)] := hl
                refine lv_goto (tgt := 30) hx hb dX4_start_195 rfl ?_
                exact ih40 H130 locs130 v134 ((z38 + 1)) 1 (1) ls (by omega) ev134i (by decide) (by omega) (by omega) (by omega) (by omega) (by omega) (by omega) (hnx) hC130 hS130 hKp130 tpt hl
              · refine lv_aload_n hx hb dX4_start_142 rfl (lv_at hl 2 rfl) ?_
                refine q_getS E hC66 g0 fa_RX4_22 ((kp_R hKp66 g0 (ci := 4) (k := 4) rfl (by decide) rfl).trans hvs) dX4_start_143 (fun _ => ?_)
                refine lv_iload_n hx hb dX4_start_146 rfl (lv_at hl 1 rfl) ?_
                refine lv_aload_n hx hb dX4_start_147 rfl (lv_at hl 2 rfl) ?_
                have tb4 := bf_eq tpt
                refine q_goI (q_runV (As := []) (rest := [.int v38, .ref vs]) E hC66 hS66 (m_X4_passNumber l X Γ H66 hC66 h0 g0 tp ((kp_R hKp66 g0 (ci := 4) (k := 0) rfl (by decide) rfl).trans htp) gtp (by omega) (by omega) (by omega)) cw_X4_passNumber cl_RX4_69 g0 ⟨rfl, rfl⟩ rfl hl.1 rfl (show _ ≤ _ from by simp [Value.category]) (by decide) dX4_start_148) hS66 (fun v135 H135 locs135 hr135 hC135 hS135 => ?_)
                obtain ⟨hp135, hr135⟩ := hr135
                have hKp135 := hKp66.tr (hp135.mono rfl)
                have tpt : ∀ j, sI H135 tp j = sI H0 tp j := fun j => (kp_aI hp135 j gtp rfl rfl).trans (tpt j)
                have rwe : RWE ks vs ws (z38 : Int).toNat Hb H135 := rwe.kp hp135 gks gvs gws rfl
                have cp : sI H135 ps (z38 : Int).toNat = v54 := (kp_aI hp135 _ gps rfl rfl).trans cp
                have cv : sJ H135 vs (z38 : Int).toNat = 0 := (kp_aJ hp135 _ gvs rfl rfl).trans cv
                have cw : sR H135 ws (z38 : Int).toNat = none := (kp_aR hp135 _ gws rfl rfl).trans cw
                have ck : sI H135 ks (z38 : Int).toNat = v65 := (kp_aI hp135 _ gks rfl rfl).trans ck
                obtain ⟨f135_0, f135_1, f135_2, f135_3, f135_4, f135_5, f135_6⟩ := hr135
                obtain ⟨qq, hqq⟩ : ∃ z, z = (sI H135 h0 (X.1.2 4 7)).toInt := ⟨_, rfl⟩
                have hD : SpZ isDg (bf H0 tp) a1 sq qq := SpZ.cast (tb4 ▸ f135_0) (by omega) (by omega) (by omega)
                have hsb : (sI H66 h0 (X.1.2 4 7)).toInt = sq := by omega
                have hN := f135_4; rw [tb4, hsb, ← hqq] at hN
                refine lv_i2l (v := v135.toInt64) hx hb dX4_start_151 rfl (lv_topl (fun v136 ev136 => ?_))
                have ev136i : v136.toInt = v135.toInt := l_ofi ev136.symm rfl
                refine q_last2 E hC135 hS135 gvs (by decide) rfl rfl (fun _ => rfl) (a := z38) ev38 (by omega) (by omega) dX4_start_152 (fun H137 locs137 hC137 hS137 U137 => ?_)
                have hKp137 := Kp.upA gvs rfl (by decide) rfl U137 hKp135
                have tpt : ∀ j, sI H137 tp j = sI H0 tp j := fun j => (up_nI U137 (ne_k gtp gvs (by decide))).trans (tpt j)
                have rwe : RWE ks vs ws (z38 : Int).toNat Hb H137 := rwe.up U137 (by first | exact Or.inr ⟨nek gvs gks (by decide), nek gvs gvs (by decide), nek gvs gws (by decide)⟩ | exact Or.inl (Nat.le_of_eq (i_ix ev38).symm) | exact Or.inl (Nat.le_refl _))
                have cp : sI H137 ps (z38 : Int).toNat = v54 := (up_nI U137 (ne_k gps gvs (by decide))).trans cp
                have cw : sR H137 ws (z38 : Int).toNat = none := (up_nR U137 (ne_k gws gvs (by decide))).trans cw
                have ck : sI H137 ks (z38 : Int).toNat = v65 := (up_nI U137 (ne_k gks gvs (by decide))).trans ck
                have m138 : (sI H137 h0 (X.1.2 4 7)).toInt = (sI H135 h0 (X.1.2 4 7)).toInt := congrArg Int32.toInt (up_nI U137 (ne_k g0 gvs (by decide)))
                have m139 : (sI H137 h0 (X.1.2 4 6)).toInt = (sI H135 h0 (X.1.2 4 6)).toInt := congrArg Int32.toInt (up_nI U137 (ne_k g0 gvs (by decide)))
                have hV : (v136 : Int64).toInt = v135.toInt := ev136i
                have cv : sJ H137 vs (z38 : Int).toNat = v136 := up_J U137
                refine lv_aload_n hx hb dX4_start_153 rfl (lv_at hl 2 rfl) ?_
                refine q_getS E hC137 g0 fa_RX4_15 ((kp_R hKp137 g0 (ci := 4) (k := 2) rfl (by decide) rfl).trans hks) dX4_start_154 (fun _ => ?_)
                refine lv_iload_n hx hb dX4_start_157 rfl (lv_at hl 1 rfl) ?_
                refine lv_aload_n hx hb dX4_start_158 rfl (lv_at hl 2 rfl) ?_
                have e141 := (up_nI U56 (ne_k g0 gps (by decide))).trans ev54
                have e142 := (up_nI U59 (ne_k g0 gvs (by decide))).trans e141
                have e143 := (up_nI U62 (ne_k g0 gws (by decide))).trans e142
                have e144 := (up_nI U66 (ne_k g0 gks (by decide))).trans e143
                refine q_getI E hC137 g0 fa_RX4_51 dX4_start_159 (fun v140 ev140 _ _ => ?_)
                have m145 : (sI H137 h0 (X.1.2 4 7)).toInt = v140.toInt := (congrArg Int32.toInt ev140).trans rfl
                refine lv_aload_n hx hb dX4_start_162 rfl (lv_at hl 2 rfl) ?_
                refine q_getS E hC137 g0 fa_RX4_19 ((kp_R hKp137 g0 (ci := 4) (k := 3) rfl (by decide) rfl).trans hps) dX4_start_163 (fun _ => ?_)
                refine lv_iload_n hx hb dX4_start_166 rfl (lv_at hl 1 rfl) ?_
                refine q_iald E hC137 gps rfl rfl (fun _ h => h) (i_in (a := z38) ev38 (by omega) (by omega)) dX4_start_167 (fun v146 ev146 _ _ => ?_)
                have hk5 : v146.toInt = sq := (congrArg Int32.toInt (ev146.symm.trans ((congrArg (sI H137 ps) (i_ix ev38)).trans cp))).trans hpl
                refine lv_isub hx hb dX4_start_168 (lv_topi (fun v147 ev147 => ?_))
                have ev147i : v147.toInt = (v140.toInt - v146.toInt) := i_sub ev147 rfl rfl (by omega) (by omega)
                refine lv_iconst (v := 4) hx hb dX4_start_169 rfl ?_
                refine q_icmp_le hx hb (a := (v140.toInt - v146.toInt)) (b := 4) ev147i (by decide) (tgt := 177) dX4_start_170 rfl (fun c148 => ?_) (fun c148 => ?_)
                · refine lv_iconst (v := 3) hx hb dX4_start_177 rfl ?_
                  refine q_iast E hC137 hS137 gks (by decide) rfl rfl (i_in (a := z38) ev38 (by omega) (by omega)) tv_F dX4_start_178 (fun H149 locs149 hC149 hS149 U149 => ?_)
                  have hKp149 := Kp.upA gks rfl (by decide) rfl U149 hKp137
                  have tpt : ∀ j, sI H149 tp j = sI H0 tp j := fun j => (up_nI U149 (ne_k gtp gks (by decide))).trans (tpt j)
                  have rwe : RWE ks vs ws (z38 : Int).toNat Hb H149 := rwe.up U149 (by first | exact Or.inr ⟨nek gks gks (by decide), nek gks gvs (by decide), nek gks gws (by decide)⟩ | exact Or.inl (Nat.le_of_eq (i_ix ev38).symm) | exact Or.inl (Nat.le_refl _))
                  have cp : sI H149 ps (z38 : Int).toNat = v54 := (up_nI U149 (ne_k gps gks (by decide))).trans cp
                  have cw : sR H149 ws (z38 : Int).toNat = none := (up_nR U149 (ne_k gws gks (by decide))).trans cw
                  have cv : sJ H149 vs (z38 : Int).toNat = v136 := (up_nJ U149 (ne_k gvs gks (by decide))).trans cv
                  have m150 : (sI H149 h0 (X.1.2 4 7)).toInt = (sI H137 h0 (X.1.2 4 7)).toInt := congrArg Int32.toInt (up_nI U149 (ne_k g0 gks (by decide)))
                  have m151 : (sI H149 h0 (X.1.2 4 6)).toInt = (sI H137 h0 (X.1.2 4 6)).toInt := congrArg Int32.toInt (up_nI U149 (ne_k g0 gks (by decide)))
                  have ck : sI H149 ks (z38 : Int).toNat = 3 := by rw [← i_ix ev38]; exact up_I U149
                  have hkk : ((sI H149 ks (z38 : Int).toNat).toInt = 3 ∧ qq - sq ≤ 4) ∨ ((sI H149 ks (z38 : Int).toNat).toInt = 1 ∧ 4 < qq - sq) := by rw [ck]; first | exact Or.inl ⟨by decide, by omega⟩ | exact Or.inr ⟨by decide, by omega⟩
                  have hTT : TK1 (bf H0 tp) (a1).toNat (sI Hb h0 (X.1.2 4 7)).toInt.toNat (sI H149 ks (z38 : Int).toNat).toInt (sJ H149 vs (z38 : Int).toNat).toInt ((sI H149 h0 (X.1.2 4 7)).toInt).toNat := by rcases hkk with ⟨q1, q2⟩ | ⟨q1, q2⟩ <;> rw [q1, cv, show (sI H149 h0 (X.1.2 4 7)).toInt = qq by omega]; exact TK1.num hB (by omega) ((hK.resolve_left (by omega)).2.three (by omega)) hD q2 (hV.trans (hN q2)) (by omega); exact TK1.long hB (by omega) ((hK.resolve_left (by omega)).2.three (by omega)) hD q2 (by omega)
                  have hWD : WDT X (sI H149 ks (z38 : Int).toNat).toInt (sJ H149 vs (z38 : Int).toNat).toInt (sR H149 ws (z38 : Int).toNat) := by rw [cw]; exact WDT.no (by omega)
                  have hqs := hD.pos (by omega) ((hK.resolve_left (by omega)).2.three (by omega))
                  refine lv_goto (tgt := 192) hx hb dX4_start_179 rfl ?_
                  have hix3 : (z38 + 1 : Int).toNat = (z38 : Int).toNat + 1 := by omega
                  have hnx : ((1 : Int) = 0 → TSP X H149 ks vs ws (bf H0 tp) (a1).toNat (z38 + 1 : Int).toNat (sI H149 h0 (X.1.2 4 7)).toInt) ∧ ((1 : Int) = 1 → TSF X H149 ks vs ws (bf H0 tp) (a1).toNat) := by rw [hix3]; first | (exfalso; omega) | exact ⟨fun _ => TSP.step hts0 rwe (by omega) hTT hWD (by omega), fun q => absurd q (by decide)⟩ | exact ⟨fun q => absurd q (by decide), fun _ => TSP.fin hts0 rwe (by omega) hTT hWD (by omega)⟩
                  obtain ⟨v152, ev152⟩ : ∃ z, z = v38 + Int32.ofInt 1 := ⟨_, rfl⟩
                  have ev152i : v152.toInt = (z38 + 1) := i_add ev152 ev38 (by decide) (by omega) (by omega)
                  refine lv_iinc hx hb dX4_start_192 hl (k := 1) rfl ev152.symm (by decide) rfl (fun ls hl => ?_)
                  have hl : lv_has ls 4 [(3, .int v152), (2, .int 1), (0, .ref h0), (1, .int p1)] := hl
                  refine lv_goto (tgt := 30) hx hb dX4_start_195 rfl ?_
                  exact ih40 H149 locs149 v152 ((z38 + 1)) 1 (1) ls (by omega) ev152i (by decide) (by omega) (by omega) (by omega) (by omega) (by omega) (by omega) (hnx) hC149 hS149 hKp149 tpt hl
                · refine lv_iconst (v := 1) hx hb dX4_start_173 rfl ?_
                  refine lv_goto (tgt := 178) hx hb dX4_start_174 rfl ?_
                  refine q_iast E hC137 hS137 gks (by decide) rfl rfl (i_in (a := z38) ev38 (by omega) (by omega)) tv_F dX4_start_178 (fun H153 locs153 hC153 hS153 U153 => ?_)
                  have hKp153 := Kp.upA gks rfl (by decide) rfl U153 hKp137
                  have tpt : ∀ j, sI H153 tp j = sI H0 tp j := fun j => (up_nI U153 (ne_k gtp gks (by decide))).trans (tpt j)
                  have rwe : RWE ks vs ws (z38 : Int).toNat Hb H153 := rwe.up U153 (by first | exact Or.inr ⟨nek gks gks (by decide), nek gks gvs (by decide), nek gks gws (by decide)⟩ | exact Or.inl (Nat.le_of_eq (i_ix ev38).symm) | exact Or.inl (Nat.le_refl _))
                  have cp : sI H153 ps (z38 : Int).toNat = v54 := (up_nI U153 (ne_k gps gks (by decide))).trans cp
                  have cw : sR H153 ws (z38 : Int).toNat = none := (up_nR U153 (ne_k gws gks (by decide))).trans cw
                  have cv : sJ H153 vs (z38 : Int).toNat = v136 := (up_nJ U153 (ne_k gvs gks (by decide))).trans cv
                  have m154 : (sI H153 h0 (X.1.2 4 7)).toInt = (sI H137 h0 (X.1.2 4 7)).toInt := congrArg Int32.toInt (up_nI U153 (ne_k g0 gks (by decide)))
                  have m155 : (sI H153 h0 (X.1.2 4 6)).toInt = (sI H137 h0 (X.1.2 4 6)).toInt := congrArg Int32.toInt (up_nI U153 (ne_k g0 gks (by decide)))
                  have ck : sI H153 ks (z38 : Int).toNat = 1 := by rw [← i_ix ev38]; exact up_I U153
                  have hkk : ((sI H153 ks (z38 : Int).toNat).toInt = 3 ∧ qq - sq ≤ 4) ∨ ((sI H153 ks (z38 : Int).toNat).toInt = 1 ∧ 4 < qq - sq) := by rw [ck]; first | exact Or.inl ⟨by decide, by omega⟩ | exact Or.inr ⟨by decide, by omega⟩
                  have hTT : TK1 (bf H0 tp) (a1).toNat (sI Hb h0 (X.1.2 4 7)).toInt.toNat (sI H153 ks (z38 : Int).toNat).toInt (sJ H153 vs (z38 : Int).toNat).toInt ((sI H153 h0 (X.1.2 4 7)).toInt).toNat := by rcases hkk with ⟨q1, q2⟩ | ⟨q1, q2⟩ <;> rw [q1, cv, show (sI H153 h0 (X.1.2 4 7)).toInt = qq by omega]; exact TK1.num hB (by omega) ((hK.resolve_left (by omega)).2.three (by omega)) hD q2 (hV.trans (hN q2)) (by omega); exact TK1.long hB (by omega) ((hK.resolve_left (by omega)).2.three (by omega)) hD q2 (by omega)
                  have hWD : WDT X (sI H153 ks (z38 : Int).toNat).toInt (sJ H153 vs (z38 : Int).toNat).toInt (sR H153 ws (z38 : Int).toNat) := by rw [cw]; exact WDT.no (by omega)
                  have hqs := hD.pos (by omega) ((hK.resolve_left (by omega)).2.three (by omega))
                  refine lv_goto (tgt := 192) hx hb dX4_start_179 rfl ?_
                  have hix3 : (z38 + 1 : Int).toNat = (z38 : Int).toNat + 1 := by omega
                  have hnx : ((1 : Int) = 0 → TSP X H153 ks vs ws (bf H0 tp) (a1).toNat (z38 + 1 : Int).toNat (sI H153 h0 (X.1.2 4 7)).toInt) ∧ ((1 : Int) = 1 → TSF X H153 ks vs ws (bf H0 tp) (a1).toNat) := by rw [hix3]; first | (exfalso; omega) | exact ⟨fun _ => TSP.step hts0 rwe (by omega) hTT hWD (by omega), fun q => absurd q (by decide)⟩ | exact ⟨fun q => absurd q (by decide), fun _ => TSP.fin hts0 rwe (by omega) hTT hWD (by omega)⟩
                  obtain ⟨v156, ev156⟩ : ∃ z, z = v38 + Int32.ofInt 1 := ⟨_, rfl⟩
                  have ev156i : v156.toInt = (z38 + 1) := i_add ev156 ev38 (by decide) (by omega) (by omega)
                  refine lv_iinc hx hb dX4_start_192 hl (k := 1) rfl ev156.symm (by decide) rfl (fun ls hl => ?_)
                  have hl : lv_has ls 4 [(3, .int v156), (2, .int 1), (0, .ref h0), (1, .int p1)] := hl
                  refine lv_goto (tgt := 30) hx hb dX4_start_195 rfl ?_
                  exact ih40 H153 locs153 v156 ((z38 + 1)) 1 (1) ls (by omega) ev156i (by decide) (by omega) (by omega) (by omega) (by omega) (by omega) (by omega) (hnx) hC153 hS153 hKp153 tpt hl
            · refine lv_aload_n hx hb dX4_start_104 rfl (lv_at hl 2 rfl) ?_
              refine q_getS E hC66 g0 fa_RX4_22 ((kp_R hKp66 g0 (ci := 4) (k := 4) rfl (by decide) rfl).trans hvs) dX4_start_105 (fun _ => ?_)
              refine lv_iload_n hx hb dX4_start_108 rfl (lv_at hl 1 rfl) ?_
              refine lv_aload_n hx hb dX4_start_109 rfl (lv_at hl 2 rfl) ?_
              have tb3 := bf_eq tpt
              refine q_goJ (q_runV (As := []) (rest := [.int v38, .ref vs]) E hC66 hS66 (m_X4_passWord l X Γ H66 hC66 h0 g0 tp ((kp_R hKp66 g0 (ci := 4) (k := 0) rfl (by decide) rfl).trans htp) gtp (by omega) (by omega) (by omega)) cw_X4_passWord cl_RX4_61 g0 ⟨rfl, rfl⟩ rfl hl.1 rfl (show _ ≤ _ from by simp [Value.category]) (by decide) dX4_start_110) hS66 (fun v157 H157 locs157 hr157 hC157 hS157 => ?_)
              obtain ⟨hp157, hr157⟩ := hr157
              have hKp157 := hKp66.tr (hp157.mono rfl)
              have tpt : ∀ j, sI H157 tp j = sI H0 tp j := fun j => (kp_aI hp157 j gtp rfl rfl).trans (tpt j)
              have rwe : RWE ks vs ws (z38 : Int).toNat Hb H157 := rwe.kp hp157 gks gvs gws rfl
              have cp : sI H157 ps (z38 : Int).toNat = v54 := (kp_aI hp157 _ gps rfl rfl).trans cp
              have cv : sJ H157 vs (z38 : Int).toNat = 0 := (kp_aJ hp157 _ gvs rfl rfl).trans cv
              have cw : sR H157 ws (z38 : Int).toNat = none := (kp_aR hp157 _ gws rfl rfl).trans cw
              have ck : sI H157 ks (z38 : Int).toNat = v65 := (kp_aI hp157 _ gks rfl rfl).trans ck
              obtain ⟨f157_0, f157_1, f157_2, f157_3, f157_4⟩ := hr157
              obtain ⟨qq, hqq⟩ : ∃ z, z = (sI H157 h0 (X.1.2 4 7)).toInt := ⟨_, rfl⟩
              have hW : SpZ isLt (bf H0 tp) a1 sq qq := SpZ.cast (tb3 ▸ f157_0) (by omega) (by omega) (by omega)
              have hsb : (sI H66 h0 (X.1.2 4 7)).toInt = sq := by omega
              have hV := f157_4; rw [tb3, hsb, ← hqq] at hV
              refine q_last2 E hC157 hS157 gvs (by decide) rfl rfl (fun _ => rfl) (a := z38) ev38 (by omega) (by omega) dX4_start_113 (fun H158 locs158 hC158 hS158 U158 => ?_)
              have hKp158 := Kp.upA gvs rfl (by decide) rfl U158 hKp157
              have tpt : ∀ j, sI H158 tp j = sI H0 tp j := fun j => (up_nI U158 (ne_k gtp gvs (by decide))).trans (tpt j)
              have rwe : RWE ks vs ws (z38 : Int).toNat Hb H158 := rwe.up U158 (by first | exact Or.inr ⟨nek gvs gks (by decide), nek gvs gvs (by decide), nek gvs gws (by decide)⟩ | exact Or.inl (Nat.le_of_eq (i_ix ev38).symm) | exact Or.inl (Nat.le_refl _))
              have cp : sI H158 ps (z38 : Int).toNat = v54 := (up_nI U158 (ne_k gps gvs (by decide))).trans cp
              have cw : sR H158 ws (z38 : Int).toNat = none := (up_nR U158 (ne_k gws gvs (by decide))).trans cw
              have ck : sI H158 ks (z38 : Int).toNat = v65 := (up_nI U158 (ne_k gks gvs (by decide))).trans ck
              have m159 : (sI H158 h0 (X.1.2 4 7)).toInt = (sI H157 h0 (X.1.2 4 7)).toInt := congrArg Int32.toInt (up_nI U158 (ne_k g0 gvs (by decide)))
              have m160 : (sI H158 h0 (X.1.2 4 6)).toInt = (sI H157 h0 (X.1.2 4 6)).toInt := congrArg Int32.toInt (up_nI U158 (ne_k g0 gvs (by decide)))
              have cv : sJ H158 vs (z38 : Int).toNat = v157 := up_J U158
              refine lv_aload_n hx hb dX4_start_114 rfl (lv_at hl 2 rfl) ?_
              refine q_getS E hC158 g0 fa_RX4_28 ((kp_R hKp158 g0 (ci := 4) (k := 5) rfl (by decide) rfl).trans hws) dX4_start_115 (fun _ => ?_)
              refine lv_iload_n hx hb dX4_start_118 rfl (lv_at hl 1 rfl) ?_
              refine lv_aload_n hx hb dX4_start_119 rfl (lv_at hl 2 rfl) ?_
              refine q_getS E hC158 g0 fa_RX4_22 ((kp_R hKp158 g0 (ci := 4) (k := 4) rfl (by decide) rfl).trans hvs) dX4_start_120 (fun _ => ?_)
              refine lv_iload_n hx hb dX4_start_123 rfl (lv_at hl 1 rfl) ?_
              refine q_lald2 E hC158 gvs rfl rfl (fun _ => rfl) (a := z38) ev38 (by omega) (by omega) dX4_start_124 (fun v161 ev161 => ?_)
              have hk4 : v161.toInt = _ := congrArg Int64.toInt (ev161.symm.trans cv)
              refine q_goQp (q_runS (As := [.long v161]) (rest := [.int v38, .ref ws]) E hS158 (m_X8_of l X Γ H158 hC158 v161 (a0 := v161.toInt) rfl) cw_X8_of cl_RX4_65 rfl hl.1 rfl (show _ ≤ _ from by simp [Value.category]) (by decide) dX4_start_125) hS158 (fun v162 locs162 hr162 hS162 => ?_)
              have hof := hr162.2
              refine q_wast (o := v162) E hC158 hS162 gws (by decide) rfl rfl (fun _ => rfl) hr162.1 (i_in (a := z38) ev38 (by omega) (by omega)) dX4_start_128 (fun H163 locs163 hC163 hS163 U163 => ?_)
              have hKp163 := Kp.upA gws rfl (by decide) rfl U163 hKp158
              have tpt : ∀ j, sI H163 tp j = sI H0 tp j := fun j => (up_nI U163 (ne_k gtp gws (by decide))).trans (tpt j)
              have rwe : RWE ks vs ws (z38 : Int).toNat Hb H163 := rwe.up U163 (by first | exact Or.inr ⟨nek gws gks (by decide), nek gws gvs (by decide), nek gws gws (by decide)⟩ | exact Or.inl (Nat.le_of_eq (i_ix ev38).symm) | exact Or.inl (Nat.le_refl _))
              have cp : sI H163 ps (z38 : Int).toNat = v54 := (up_nI U163 (ne_k gps gws (by decide))).trans cp
              have ck : sI H163 ks (z38 : Int).toNat = v65 := (up_nI U163 (ne_k gks gws (by decide))).trans ck
              have cv : sJ H163 vs (z38 : Int).toNat = v157 := (up_nJ U163 (ne_k gvs gws (by decide))).trans cv
              have m164 : (sI H163 h0 (X.1.2 4 7)).toInt = (sI H158 h0 (X.1.2 4 7)).toInt := congrArg Int32.toInt (up_nI U163 (ne_k g0 gws (by decide)))
              have m165 : (sI H163 h0 (X.1.2 4 6)).toInt = (sI H158 h0 (X.1.2 4 6)).toInt := congrArg Int32.toInt (up_nI U163 (ne_k g0 gws (by decide)))
              have cw : sR H163 ws (z38 : Int).toNat = v162 := by rw [← i_ix ev38]; exact up_Q U163
              have hkk : (sI H163 ks (z38 : Int).toNat).toInt = 2 := by rw [ck]; omega
              have hqs := hW.pos (by omega) ((hK.resolve_left (by omega)).2.two (by omega))
              have hTT : TK1 (bf H0 tp) (a1).toNat (sI Hb h0 (X.1.2 4 7)).toInt.toNat (sI H163 ks (z38 : Int).toNat).toInt (sJ H163 vs (z38 : Int).toNat).toInt ((sI H163 h0 (X.1.2 4 7)).toInt).toNat := by rw [hkk, cv, show (sI H163 h0 (X.1.2 4 7)).toInt = qq by omega]; exact TK1.word hB (by omega) ((hK.resolve_left (by omega)).2.two (by omega)) hW hV (by omega)
              have hWD : WDT X (sI H163 ks (z38 : Int).toNat).toInt (sJ H163 vs (z38 : Int).toNat).toInt (sR H163 ws (z38 : Int).toNat) := by rw [hkk, cv, cw]; exact WDT.word (hk4 ▸ hof) rfl
              refine lv_goto (tgt := 192) hx hb dX4_start_129 rfl ?_
              have hix3 : (z38 + 1 : Int).toNat = (z38 : Int).toNat + 1 := by omega
              have hnx : ((1 : Int) = 0 → TSP X H163 ks vs ws (bf H0 tp) (a1).toNat (z38 + 1 : Int).toNat (sI H163 h0 (X.1.2 4 7)).toInt) ∧ ((1 : Int) = 1 → TSF X H163 ks vs ws (bf H0 tp) (a1).toNat) := by rw [hix3]; first | (exfalso; omega) | exact ⟨fun _ => TSP.step hts0 rwe (by omega) hTT hWD (by omega), fun q => absurd q (by decide)⟩ | exact ⟨fun q => absurd q (by decide), fun _ => TSP.fin hts0 rwe (by omega) hTT hWD (by omega)⟩
              obtain ⟨v166, ev166⟩ : ∃ z, z = v38 + Int32.ofInt 1 := ⟨_, rfl⟩
              have ev166i : v166.toInt = (z38 + 1) := i_add ev166 ev38 (by decide) (by omega) (by omega)
              refine lv_iinc hx hb dX4_start_192 hl (k := 1) rfl ev166.symm (by decide) rfl (fun ls hl => ?_)
              have hl : lv_has ls 4 [(3, .int v166), (2, .int 1), (0, .ref h0), (1, .int p1)] := hl
              refine lv_goto (tgt := 30) hx hb dX4_start_195 rfl ?_
              exact ih40 H163 locs163 v166 ((z38 + 1)) 1 (1) ls (by omega) ev166i (by decide) (by omega) (by omega) (by omega) (by omega) (by omega) (by omega) (hnx) hC163 hS163 hKp163 tpt hl
  exact L30 _ H34 locs34 0 0 0 0 ls (Nat.lt_succ_self _) (by decide) (by decide) (by omega) (by omega) (by omega) (by omega) (by omega) (by omega) (⟨fun _ => by rw [show (sI H34 h0 (X.1.2 4 7)).toInt = 0 by omega]; exact TSP.nil, fun q => by omega⟩) hC34 hS34 hKp34 tpt hl
set_option maxRecDepth 100000 in
set_option maxHeartbeats 4000000 in
theorem m_X4_misfit (l : Launch) (X : xW) (Γ : Nat → Option Nat) (H0 : Heap) (hC0 : Conf X Γ H0) (h0 : Nat) (g0 : Γ h0 = some 2) : Ctr l X Γ yX4_misfit cX4_misfit 1 (some .boolean) 0 [.ref h0] H0 (QI X Γ (fun v H1 => Kp X Γ [0, 2, 3, 4, 5, 18, 21, 23, 25, 27, 29, 31, 32, 33, 34, 37, 39, 40, 41] H0 H1 ∧ ((v = 1 ∧ ((0 : Int) = 1)) ∨ (v = 0 ∧ (True))))) := by
  refine q_enterZ (own := "SnowForts$Reader") (by decide) rfl (Nat.le_of_ble_eq_true rfl) ?_
  intro p e s m args below meth c ls Qz E hl ret hS0
  have hx := E.1; have hb := E.2.1
  have hKp0 : Kp X Γ [0, 2, 3, 4, 5, 18, 21, 23, 25, 27, 29, 31, 32, 33, 34, 37, 39, 40, 41] H0 H0 := Kp.rf
  have hl : lv_has ls 1 [(0, .ref h0)] := hl
  refine lv_aload_n hx hb dX4_misfit_0 rfl (lv_at hl 0 rfl) ?_
  refine lv_aload_n hx hb dX4_misfit_1 rfl (lv_at hl 0 rfl) ?_
  refine q_getI E hC0 g0 fa_RX4_93 dX4_misfit_2 (fun v21 ev21 _ _ => ?_)
  refine lv_iconst (v := 1) hx hb dX4_misfit_5 rfl ?_
  refine q_icmp_ne hx hb (a := v21.toInt) (b := 1) rfl (by decide) (tgt := 13) dX4_misfit_6 rfl (fun c22 => ?_) (fun c22 => ?_)
  · refine lv_iconst (v := 2) hx hb dX4_misfit_13 rfl ?_
    refine q_put E hC0 hS0 g0 fp_RX4_32 tv_F rfl rfl dX4_misfit_14 (fun H23 locs23 hC23 hS23 U23 => ?_)
    have hKp23 := Kp.upO E g0 fp_RX4_32 rfl U23 hKp0
    have e24 := up_I U23
    refine lv_aload_n hx hb dX4_misfit_17 rfl (lv_at hl 0 rfl) ?_
    refine lv_aload_n hx hb dX4_misfit_18 rfl (lv_at hl 0 rfl) ?_
    refine q_getI E hC23 g0 fa_RX4_96 dX4_misfit_19 (fun v25 ev25 _ _ => ?_)
    refine q_put E hC23 hS23 g0 fp_RX4_36 tv_F rfl rfl dX4_misfit_22 (fun H26 locs26 hC26 hS26 U26 => ?_)
    have hKp26 := Kp.upO E g0 fp_RX4_36 rfl U26 hKp23
    have e27 := up_I U26
    refine lv_iconst (v := 0) hx hb dX4_misfit_25 rfl ?_
    exact ret 0 H26 locs26 _ _ dX4_misfit_26 (Or.inl rfl) ⟨hKp26, Or.inr ⟨rfl, trivial⟩⟩ hC26 hS26
  · refine lv_iconst (v := 1) hx hb dX4_misfit_9 rfl ?_
    refine lv_goto (tgt := 14) hx hb dX4_misfit_10 rfl ?_
    refine q_put E hC0 hS0 g0 fp_RX4_32 tv_F rfl rfl dX4_misfit_14 (fun H28 locs28 hC28 hS28 U28 => ?_)
    have hKp28 := Kp.upO E g0 fp_RX4_32 rfl U28 hKp0
    have e29 := up_I U28
    refine lv_aload_n hx hb dX4_misfit_17 rfl (lv_at hl 0 rfl) ?_
    refine lv_aload_n hx hb dX4_misfit_18 rfl (lv_at hl 0 rfl) ?_
    refine q_getI E hC28 g0 fa_RX4_96 dX4_misfit_19 (fun v30 ev30 _ _ => ?_)
    refine q_put E hC28 hS28 g0 fp_RX4_36 tv_F rfl rfl dX4_misfit_22 (fun H31 locs31 hC31 hS31 U31 => ?_)
    have hKp31 := Kp.upO E g0 fp_RX4_36 rfl U31 hKp28
    have e32 := up_I U31
    refine lv_iconst (v := 0) hx hb dX4_misfit_25 rfl ?_
    exact ret 0 H31 locs31 _ _ dX4_misfit_26 (Or.inl rfl) ⟨hKp31, Or.inr ⟨rfl, trivial⟩⟩ hC31 hS31
set_option maxRecDepth 100000 in
set_option maxHeartbeats 4000000 in
theorem m_X4_take (l : Launch) (X : xW) (Γ : Nat → Option Nat) (H0 : Heap) (hC0 : Conf X Γ H0) (h0 : Nat) (g0 : Γ h0 = some 2) (o1 : Option Nat) (g1 : ∀ q, o1 = some q → Γ q = some 12) : Ctr l X Γ yX4_take cX4_take 2 (some .boolean) 2 [.ref h0, va_rf o1] H0 (QI X Γ (fun v H1 => Kp X Γ [0, 2, 3, 4, 5, 18, 21, 23, 25, 27, 29, 31, 33, 34, 37, 39, 40, 41] H0 H1 ∧ ((v = 0 ∨ v = 1) ∧ (∀ (kd vl : Nat → Int) (N i : Nat), CU X Γ H0 h0 kd vl N i → ∀ t : Nat, t < 29 → o1 = some (wad X t) → (v = 1 ∧ okW kd vl t i ∧ CU X Γ H1 h0 kd vl N (i + 1)) ∨ (v = 0 ∧ ¬ okW kd vl t i))))) := by
  refine q_enterZ (own := "SnowForts$Reader") (by decide) rfl (by cases o1 <;> exact Nat.le_of_ble_eq_true rfl) ?_
  intro p e s m args below meth c ls Qz E hl ret hS0
  have hx := E.1; have hb := E.2.1
  have hKp0 : Kp X Γ [0, 2, 3, 4, 5, 18, 21, 23, 25, 27, 29, 31, 33, 34, 37, 39, 40, 41] H0 H0 := Kp.rf
  have hl : lv_has ls 2 [(0, .ref h0), (1, va_rf o1)] := by revert hl; cases o1 <;> exact fun h => h
  refine lv_aload_n hx hb dX4_take_0 rfl (lv_at hl 0 rfl) ?_
  refine q_getQ E hC0 g0 fa_RX4_103 dX4_take_1 (fun q21 eq21 gq21 => ?_)
  refine q_alq_n (o := o1) hx hb dX4_take_4 rfl (lv_at hl 1 rfl) ?_
  refine lv_acmp_eq (rx := q21) (ry := o1) (tgt := 13) hx hb dX4_take_5 rfl (fun c22 => ?_) (fun c22 => ?_)
  · have hwq := eq21.trans c22
    refine lv_aload_n hx hb dX4_take_13 rfl (lv_at hl 0 rfl) ?_
    refine q_goV (q_runV (As := []) (rest := []) E hC0 hS0 (m_X4_advance l X Γ H0 hC0 h0 g0) cw_X4_advance cl_RX4_75 g0 ⟨rfl, rfl⟩ rfl hl.1 rfl (Nat.zero_le _) (by decide) dX4_take_14) hS0 (fun H23 locs23 hr23 hC23 hS23 => ?_)
    obtain ⟨hp23, hr23⟩ := hr23
    have hKp23 := hKp0.tr (hp23.mono rfl)
    have f23_0 := hr23
    have hav := f23_0
    refine lv_iconst (v := 1) hx hb dX4_take_17 rfl ?_
    exact ret 1 H23 locs23 _ _ dX4_take_18 (Or.inr rfl) ⟨hKp23, ⟨Or.inr rfl, fun kd vl N i cu t ht ho => Or.inl ⟨rfl, cu.isw E hwq ho ht, cu.next (by have := (cu.isw E hwq ho ht).1; omega) hKp23 rfl hav⟩⟩⟩ hC23 hS23
  · have hwn := fun q => c22 (eq21.symm.trans q)
    refine lv_aload_n hx hb dX4_take_8 rfl (lv_at hl 0 rfl) ?_
    refine q_goI (q_runV (As := []) (rest := []) E hC0 hS0 (m_X4_misfit l X Γ H0 hC0 h0 g0) cw_X4_misfit cl_RX4_107 g0 ⟨rfl, rfl⟩ rfl hl.1 rfl (Nat.zero_le _) (by decide) dX4_take_9) hS0 (fun v24 H24 locs24 hr24 hC24 hS24 => ?_)
    obtain ⟨hp24, hr24⟩ := hr24
    have hKp24 := hKp0.tr (hp24.mono rfl)
    rcases hr24 with ⟨rfl, f24a⟩ | ⟨rfl, -⟩
    · exact absurd f24a (by decide)
    · exact ret 0 H24 locs24 _ _ dX4_take_12 (Or.inl rfl) ⟨hKp24, ⟨Or.inl rfl, fun kd vl N i cu t ht ho => Or.inr ⟨rfl, fun q => hwn (by rw [ho]; exact (cu.wd _).mpr ⟨q.1, t, ht, q.2, rfl⟩)⟩⟩⟩ hC24 hS24
set_option maxRecDepth 100000 in
set_option maxHeartbeats 4000000 in
theorem m_X4_fail (l : Launch) (X : xW) (Γ : Nat → Option Nat) (H0 : Heap) (hC0 : Conf X Γ H0) (h0 : Nat) (g0 : Γ h0 = some 2) (p1 : Int32) {a1 : Int} (e1 : p1.toInt = a1) (p2 : Int32) {a2 : Int} (e2 : p2.toInt = a2) : Ctr l X Γ yX4_fail cX4_fail 3 (some .boolean) 0 [.ref h0, .int p1, .int p2] H0 (QI X Γ (fun v H1 => Kp X Γ [0, 2, 3, 4, 5, 18, 21, 23, 25, 27, 29, 31, 32, 33, 34, 37, 39, 40, 41] H0 H1 ∧ ((v = 1 ∧ ((0 : Int) = 1)) ∨ (v = 0 ∧ (True))))) := by
  refine q_enterZ (own := "SnowForts$Reader") (by decide) rfl (Nat.le_of_ble_eq_true rfl) ?_
  intro p e s m args below meth c ls Qz E hl ret hS0
  have hx := E.1; have hb := E.2.1
  have hKp0 : Kp X Γ [0, 2, 3, 4, 5, 18, 21, 23, 25, 27, 29, 31, 32, 33, 34, 37, 39, 40, 41] H0 H0 := Kp.rf
  have hl : lv_has ls 3 [(0, .ref h0), (1, .int p1), (2, .int p2)] := hl
  refine lv_aload_n hx hb dX4_fail_0 rfl (lv_at hl 0 rfl) ?_
  refine lv_iload_n hx hb dX4_fail_1 rfl (lv_at hl 1 rfl) ?_
  refine q_put E hC0 hS0 g0 fp_RX4_32 tv_F rfl rfl dX4_fail_2 (fun H21 locs21 hC21 hS21 U21 => ?_)
  have hKp21 := Kp.upO E g0 fp_RX4_32 rfl U21 hKp0
  have e22 := up_I U21
  refine lv_aload_n hx hb dX4_fail_5 rfl (lv_at hl 0 rfl) ?_
  refine lv_iload_n hx hb dX4_fail_6 rfl (lv_at hl 2 rfl) ?_
  refine q_put E hC21 hS21 g0 fp_RX4_36 tv_F rfl rfl dX4_fail_7 (fun H23 locs23 hC23 hS23 U23 => ?_)
  have hKp23 := Kp.upO E g0 fp_RX4_36 rfl U23 hKp21
  have e24 := up_I U23
  refine lv_iconst (v := 0) hx hb dX4_fail_10 rfl ?_
  exact ret 0 H23 locs23 _ _ dX4_fail_11 (Or.inl rfl) ⟨hKp23, Or.inr ⟨rfl, trivial⟩⟩ hC23 hS23
set_option maxRecDepth 100000 in
set_option maxHeartbeats 4000000 in
theorem m_X4_takeNumber (l : Launch) (X : xW) (Γ : Nat → Option Nat) (H0 : Heap) (hC0 : Conf X Γ H0) (h0 : Nat) (g0 : Γ h0 = some 2) (p1 : Int32) {a1 : Int} (e1 : p1.toInt = a1) (p2 : Int32) {a2 : Int} (e2 : p2.toInt = a2) : Ctr l X Γ yX4_takeNumber cX4_takeNumber 3 (some .boolean) 2 [.ref h0, .int p1, .int p2] H0 (QI X Γ (fun v H1 => Kp X Γ [0, 2, 3, 4, 5, 18, 21, 23, 25, 27, 29, 31, 33, 37, 39, 40, 41] H0 H1 ∧ ((v = 0 ∨ v = 1) ∧ (∀ (kd vl : Nat → Int) (N i : Nat), CU X Γ H0 h0 kd vl N i → (v = 1 ∧ okN kd vl a1 a2 i ∧ (sI H1 h0 (X.1.2 4 13)).toInt = vl i ∧ CU X Γ H1 h0 kd vl N (i + 1)) ∨ (v = 0 ∧ ¬ okN kd vl a1 a2 i))))) := by
  refine q_enterZ (own := "SnowForts$Reader") (by decide) rfl (Nat.le_of_ble_eq_true rfl) ?_
  intro p e s m args below meth c ls Qz E hl ret hS0
  have hx := E.1; have hb := E.2.1
  have hKp0 : Kp X Γ [0, 2, 3, 4, 5, 18, 21, 23, 25, 27, 29, 31, 33, 37, 39, 40, 41] H0 H0 := Kp.rf
  have hl : lv_has ls 3 [(0, .ref h0), (1, .int p1), (2, .int p2)] := hl
  refine lv_aload_n hx hb dX4_takeNumber_0 rfl (lv_at hl 0 rfl) ?_
  refine q_getI E hC0 g0 fa_RX4_93 dX4_takeNumber_1 (fun v21 ev21 _ _ => ?_)
  have m22 : (sI H0 h0 (X.1.2 4 9)).toInt = v21.toInt := (congrArg Int32.toInt ev21).trans rfl
  refine lv_iconst (v := 3) hx hb dX4_takeNumber_4 rfl ?_
  refine q_icmp_eq hx hb (a := v21.toInt) (b := 3) rfl (by decide) (tgt := 13) dX4_takeNumber_5 rfl (fun c23 => ?_) (fun c23 => ?_)
  · refine lv_aload_n hx hb dX4_takeNumber_13 rfl (lv_at hl 0 rfl) ?_
    refine q_getJ E hC0 g0 fa_RX4_99 dX4_takeNumber_14 (fun v24 ev24 => ?_)
    have hvq : (sJ H0 h0 (X.1.2 4 11)).toInt = v24.toInt := by rw [← ev24]
    refine lv_iload_n hx hb dX4_takeNumber_17 rfl (lv_at hl 1 rfl) ?_
    refine lv_iload_n hx hb dX4_takeNumber_18 rfl (lv_at hl 2 rfl) ?_
    refine q_goIp (q_runSN (As := [.long v24, .int p1, .int p2]) (rest := []) E hS0 (m_X11_isWithin l X Γ H0 hC0 v24 (a0 := v24.toInt) rfl p1 (a1 := a1) e1 p2 (a2 := a2) e2) cw_X11_isWithin cl_RX4_111 rfl hl.1 rfl (Nat.zero_le _) (by decide) dX4_takeNumber_19) hS0 (fun v25 locs25 hr25 hS25 => ?_)
    rcases hr25 with ⟨rfl, f25a0, f25a1⟩ | ⟨rfl, f25b⟩
    · refine q_if_ne hx hb (a := 1) (by decide) (tgt := 35) dX4_takeNumber_22 rfl (fun c26 => ?_) (fun c26 => absurd c26 (by omega))
      refine lv_aload_n hx hb dX4_takeNumber_35 rfl (lv_at hl 0 rfl) ?_
      refine lv_aload_n hx hb dX4_takeNumber_36 rfl (lv_at hl 0 rfl) ?_
      refine q_getJ E hC0 g0 fa_RX4_99 dX4_takeNumber_37 (fun v27 ev27 => ?_)
      have qv27 := ev24.symm.trans ev27; subst qv27
      have r1 := i_rng p1; have r2 := i_rng p2; rw [e1] at r1; rw [e2] at r2
      refine lv_l2i hx hb dX4_takeNumber_40 rfl (lv_topi (fun v28 ev28 => ?_))
      have ev28i : v28.toInt = v24.toInt := l_toi ev28 rfl (by omega) (by omega)
      refine q_put E hC0 hS25 g0 fp_RX4_119 tv_F rfl rfl dX4_takeNumber_41 (fun H29 locs29 hC29 hS29 U29 => ?_)
      have hKp29 := Kp.upO E g0 fp_RX4_119 rfl U29 hKp0
      have e30 := up_I U29
      have m31 : (sI H29 h0 (X.1.2 4 13)).toInt = v24.toInt := (congrArg Int32.toInt e30).trans ev28i
      have m32 : (sI H29 h0 (X.1.2 4 9)).toInt = (sI H0 h0 (X.1.2 4 9)).toInt := congrArg Int32.toInt (up_nI U29 (ne_f E 4 9 13 rfl (by decide) (by decide) (by decide)))
      have m33 : (sI H29 h0 (X.1.2 4 8)).toInt = (sI H0 h0 (X.1.2 4 8)).toInt := congrArg Int32.toInt (up_nI U29 (ne_f E 4 8 13 rfl (by decide) (by decide) (by decide)))
      refine lv_aload_n hx hb dX4_takeNumber_44 rfl (lv_at hl 0 rfl) ?_
      refine lv_aload_n hx hb dX4_takeNumber_45 rfl (lv_at hl 0 rfl) ?_
      refine q_getI E hC29 g0 fa_RX4_96 dX4_takeNumber_46 (fun v34 ev34 _ _ => ?_)
      refine q_put E hC29 hS29 g0 fp_RX4_122 tv_F rfl rfl dX4_takeNumber_49 (fun H35 locs35 hC35 hS35 U35 => ?_)
      have hKp35 := Kp.upO E g0 fp_RX4_122 rfl U35 hKp29
      have e36 := up_I U35
      have m37 : (sI H35 h0 (X.1.2 4 9)).toInt = (sI H29 h0 (X.1.2 4 9)).toInt := congrArg Int32.toInt (up_nI U35 (ne_f E 4 9 14 rfl (by decide) (by decide) (by decide)))
      have m38 : (sI H35 h0 (X.1.2 4 13)).toInt = (sI H29 h0 (X.1.2 4 13)).toInt := congrArg Int32.toInt (up_nI U35 (ne_f E 4 13 14 rfl (by decide) (by decide) (by decide)))
      have m39 : (sI H35 h0 (X.1.2 4 8)).toInt = (sI H29 h0 (X.1.2 4 8)).toInt := congrArg Int32.toInt (up_nI U35 (ne_f E 4 8 14 rfl (by decide) (by decide) (by decide)))
      refine lv_aload_n hx hb dX4_takeNumber_52 rfl (lv_at hl 0 rfl) ?_
      refine q_goV (q_runV (As := []) (rest := []) E hC35 hS35 (m_X4_advance l X Γ H35 hC35 h0 g0) cw_X4_advance cl_RX4_75 g0 ⟨rfl, rfl⟩ rfl hl.1 rfl (Nat.zero_le _) (by decide) dX4_takeNumber_53) hS35 (fun H40 locs40 hr40 hC40 hS40 => ?_)
      obtain ⟨hp40, hr40⟩ := hr40
      have hKp40 := hKp35.tr (hp40.mono rfl)
      have m41 : (sI H40 h0 (X.1.2 4 13)).toInt = (sI H35 h0 (X.1.2 4 13)).toInt := congrArg Int32.toInt (kp_I hp40 g0 (k := 13) rfl (by decide) rfl)
      have f40_0 := hr40
      have hav := f40_0
      refine lv_iconst (v := 1) hx hb dX4_takeNumber_56 rfl ?_
      have e42 := (up_nI U29 (ne_f E 4 9 13 rfl (by decide) (by decide) (by decide))).trans ev21
      have e43 := (up_nI U35 (ne_f E 4 9 14 rfl (by decide) (by decide) (by decide))).trans e42
      have e44 := (up_nI U35 (ne_f E 4 13 14 rfl (by decide) (by decide) (by decide))).trans e30
      have e45 := (kp_I hp40 g0 (k := 13) rfl (by decide) rfl).trans e44
      have m46 : (sI H40 h0 (X.1.2 4 13)).toInt = v24.toInt := (congrArg Int32.toInt e45).trans ev28i
      exact ret 1 H40 locs40 _ _ dX4_takeNumber_57 (Or.inr rfl) ⟨hKp40, ⟨Or.inr rfl, fun kd vl N i cu => Or.inl (by have h1 := cu.kk; have h2 := cu.vv (Or.inr (by omega)); exact ⟨rfl, ⟨by omega, by omega, by omega⟩, by omega, cu.next (by omega) hKp40 rfl (fun j h3 h4 => hav j (by omega) h4)⟩)⟩⟩ hC40 hS40
    · refine q_if_ne hx hb (a := 0) (by decide) (tgt := 35) dX4_takeNumber_22 rfl (fun c47 => absurd c47 (by omega)) (fun c47 => ?_)
      refine lv_aload_n hx hb dX4_takeNumber_25 rfl (lv_at hl 0 rfl) ?_
      refine lv_iconst (v := 4) hx hb dX4_takeNumber_26 rfl ?_
      refine lv_aload_n hx hb dX4_takeNumber_27 rfl (lv_at hl 0 rfl) ?_
      refine q_getI E hC0 g0 fa_RX4_96 dX4_takeNumber_28 (fun v48 ev48 _ _ => ?_)
      refine q_goI (q_runV (As := [.int 4, .int v48]) (rest := []) E hC0 hS25 (m_X4_fail l X Γ H0 hC0 h0 g0 4 (a1 := 4) (by decide) v48 (a2 := v48.toInt) rfl) cw_X4_fail cl_RX4_115 g0 ⟨rfl, rfl⟩ rfl hl.1 rfl (Nat.zero_le _) (by decide) dX4_takeNumber_31) hS25 (fun v49 H49 locs49 hr49 hC49 hS49 => ?_)
      obtain ⟨hp49, hr49⟩ := hr49
      have hKp49 := hKp0.tr (hp49.mono rfl)
      have m50 : (sI H49 h0 (X.1.2 4 9)).toInt = (sI H0 h0 (X.1.2 4 9)).toInt := congrArg Int32.toInt (kp_I hp49 g0 (k := 9) rfl (by decide) rfl)
      have m51 : (sI H49 h0 (X.1.2 4 13)).toInt = (sI H0 h0 (X.1.2 4 13)).toInt := congrArg Int32.toInt (kp_I hp49 g0 (k := 13) rfl (by decide) rfl)
      have m52 : (sI H49 h0 (X.1.2 4 8)).toInt = (sI H0 h0 (X.1.2 4 8)).toInt := congrArg Int32.toInt (kp_I hp49 g0 (k := 8) rfl (by decide) rfl)
      rcases hr49 with ⟨rfl, f49a⟩ | ⟨rfl, -⟩
      · exact absurd f49a (by decide)
      · have e53 := (kp_I hp49 g0 (k := 9) rfl (by decide) rfl).trans ev21
        have m54 : (sI H49 h0 (X.1.2 4 9)).toInt = v21.toInt := (congrArg Int32.toInt e53).trans rfl
        exact ret 0 H49 locs49 _ _ dX4_takeNumber_34 (Or.inl rfl) ⟨hKp49, ⟨Or.inl rfl, fun kd vl N i cu => Or.inr ⟨rfl, fun q => by obtain ⟨q1, q2, q3⟩ := q; have h1 := cu.kk; have h2 := cu.vv (Or.inr q1); omega⟩⟩⟩ hC49 hS49
  · refine lv_aload_n hx hb dX4_takeNumber_8 rfl (lv_at hl 0 rfl) ?_
    refine q_goI (q_runV (As := []) (rest := []) E hC0 hS0 (m_X4_misfit l X Γ H0 hC0 h0 g0) cw_X4_misfit cl_RX4_107 g0 ⟨rfl, rfl⟩ rfl hl.1 rfl (Nat.zero_le _) (by decide) dX4_takeNumber_9) hS0 (fun v55 H55 locs55 hr55 hC55 hS55 => ?_)
    obtain ⟨hp55, hr55⟩ := hr55
    have hKp55 := hKp0.tr (hp55.mono rfl)
    have m56 : (sI H55 h0 (X.1.2 4 9)).toInt = (sI H0 h0 (X.1.2 4 9)).toInt := congrArg Int32.toInt (kp_I hp55 g0 (k := 9) rfl (by decide) rfl)
    have m57 : (sI H55 h0 (X.1.2 4 13)).toInt = (sI H0 h0 (X.1.2 4 13)).toInt := congrArg Int32.toInt (kp_I hp55 g0 (k := 13) rfl (by decide) rfl)
    have m58 : (sI H55 h0 (X.1.2 4 8)).toInt = (sI H0 h0 (X.1.2 4 8)).toInt := congrArg Int32.toInt (kp_I hp55 g0 (k := 8) rfl (by decide) rfl)
    rcases hr55 with ⟨rfl, f55a⟩ | ⟨rfl, -⟩
    · exact absurd f55a (by decide)
    · have e59 := (kp_I hp55 g0 (k := 9) rfl (by decide) rfl).trans ev21
      have m60 : (sI H55 h0 (X.1.2 4 9)).toInt = v21.toInt := (congrArg Int32.toInt e59).trans rfl
      exact ret 0 H55 locs55 _ _ dX4_takeNumber_12 (Or.inl rfl) ⟨hKp55, ⟨Or.inl rfl, fun kd vl N i cu => Or.inr ⟨rfl, fun q => by obtain ⟨q1, q2, q3⟩ := q; have h1 := cu.kk; have h2 := cu.vv (Or.inr q1); omega⟩⟩⟩ hC55 hS55
set_option maxRecDepth 100000 in
set_option maxHeartbeats 4000000 in
theorem m_X4_takeSign (l : Launch) (X : xW) (Γ : Nat → Option Nat) (H0 : Heap) (hC0 : Conf X Γ H0) (h0 : Nat) (g0 : Γ h0 = some 2) (p1 : Int32) {a1 : Int} (e1 : p1.toInt = a1) : Ctr l X Γ yX4_takeSign cX4_takeSign 2 (some .boolean) 2 [.ref h0, .int p1] H0 (QI X Γ (fun v H1 => Kp X Γ [0, 2, 3, 4, 5, 18, 21, 23, 25, 27, 29, 31, 33, 34, 37, 39, 40, 41] H0 H1 ∧ ((v = 0 ∨ v = 1) ∧ (∀ (kd vl : Nat → Int) (N i : Nat), CU X Γ H0 h0 kd vl N i → a1 ≠ 0 → (v = 1 ∧ kd i = a1 ∧ CU X Γ H1 h0 kd vl N (i + 1)) ∨ (v = 0 ∧ kd i ≠ a1))))) := by
  refine q_enterZ (own := "SnowForts$Reader") (by decide) rfl (Nat.le_of_ble_eq_true rfl) ?_
  intro p e s m args below meth c ls Qz E hl ret hS0
  have hx := E.1; have hb := E.2.1
  have hKp0 : Kp X Γ [0, 2, 3, 4, 5, 18, 21, 23, 25, 27, 29, 31, 33, 34, 37, 39, 40, 41] H0 H0 := Kp.rf
  have hl : lv_has ls 2 [(0, .ref h0), (1, .int p1)] := hl
  refine lv_aload_n hx hb dX4_takeSign_0 rfl (lv_at hl 0 rfl) ?_
  refine q_getI E hC0 g0 fa_RX4_93 dX4_takeSign_1 (fun v21 ev21 _ _ => ?_)
  have m22 : (sI H0 h0 (X.1.2 4 9)).toInt = v21.toInt := (congrArg Int32.toInt ev21).trans rfl
  refine lv_iload_n hx hb dX4_takeSign_4 rfl (lv_at hl 1 rfl) ?_
  have c23 := i_rng v21; rw [show v21.toInt = v21.toInt from rfl] at c23
  have c24 := i_rng p1; rw [show p1.toInt = a1 from e1] at c24
  refine q_icmp_eq hx hb (a := v21.toInt) (b := a1) rfl e1 (tgt := 13) dX4_takeSign_5 rfl (fun c25 => ?_) (fun c25 => ?_)
  · refine lv_aload_n hx hb dX4_takeSign_13 rfl (lv_at hl 0 rfl) ?_
    refine q_goV (q_runV (As := []) (rest := []) E hC0 hS0 (m_X4_advance l X Γ H0 hC0 h0 g0) cw_X4_advance cl_RX4_75 g0 ⟨rfl, rfl⟩ rfl hl.1 rfl (Nat.zero_le _) (by decide) dX4_takeSign_14) hS0 (fun H26 locs26 hr26 hC26 hS26 => ?_)
    obtain ⟨hp26, hr26⟩ := hr26
    have hKp26 := hKp0.tr (hp26.mono rfl)
    have f26_0 := hr26
    have hav := f26_0
    refine lv_iconst (v := 1) hx hb dX4_takeSign_17 rfl ?_
    exact ret 1 H26 locs26 _ _ dX4_takeSign_18 (Or.inr rfl) ⟨hKp26, ⟨Or.inr rfl, fun kd vl N i cu h1 => Or.inl ⟨rfl, by have := cu.kk; omega, cu.next (by have := cu.kk; omega) hKp26 rfl hav⟩⟩⟩ hC26 hS26
  · refine lv_aload_n hx hb dX4_takeSign_8 rfl (lv_at hl 0 rfl) ?_
    refine q_goI (q_runV (As := []) (rest := []) E hC0 hS0 (m_X4_misfit l X Γ H0 hC0 h0 g0) cw_X4_misfit cl_RX4_107 g0 ⟨rfl, rfl⟩ rfl hl.1 rfl (Nat.zero_le _) (by decide) dX4_takeSign_9) hS0 (fun v27 H27 locs27 hr27 hC27 hS27 => ?_)
    obtain ⟨hp27, hr27⟩ := hr27
    have hKp27 := hKp0.tr (hp27.mono rfl)
    have m28 : (sI H27 h0 (X.1.2 4 9)).toInt = (sI H0 h0 (X.1.2 4 9)).toInt := congrArg Int32.toInt (kp_I hp27 g0 (k := 9) rfl (by decide) rfl)
    rcases hr27 with ⟨rfl, f27a⟩ | ⟨rfl, -⟩
    · exact absurd f27a (by decide)
    · have e29 := (kp_I hp27 g0 (k := 9) rfl (by decide) rfl).trans ev21
      have m30 : (sI H27 h0 (X.1.2 4 9)).toInt = v21.toInt := (congrArg Int32.toInt e29).trans rfl
      exact ret 0 H27 locs27 _ _ dX4_takeSign_12 (Or.inl rfl) ⟨hKp27, ⟨Or.inl rfl, fun kd vl N i cu h1 => Or.inr ⟨rfl, by have := cu.kk; omega⟩⟩⟩ hC27 hS27
