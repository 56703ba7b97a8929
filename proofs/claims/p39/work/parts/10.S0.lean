set_option maxRecDepth 100000 in
set_option maxHeartbeats 4000000 in
theorem m_X11_status (l : Launch) (X : xW) (Γ : Nat → Option Nat) (H0 : Heap) (hC0 : Conf X Γ H0) (h0 : Nat) (g0 : Γ h0 = some 0) : Ctr l X Γ yX11_status cX11_status 1 (some .int) 0 [.ref h0] H0 (QI X Γ (fun v H1 => H1 = H0 ∧ (True))) := by
  refine q_enterI (own := "SnowForts") (by decide) rfl (Nat.le_of_ble_eq_true rfl) ?_
  intro p e s m args below meth c ls Qz E hl ret hS0
  have hx := E.1; have hb := E.2.1
  have hl : lv_has ls 1 [(0, .ref h0)] := hl
  refine lv_aload_n hx hb dX11_status_0 rfl (lv_at hl 0 rfl) ?_
  refine q_getI E hC0 g0 fa_RX11_102 dX11_status_1 (fun v21 ev21 _ _ => ?_)
  exact ret v21 H0 [] _ _ dX11_status_4 ⟨rfl, trivial⟩ hC0 hS0
set_option maxRecDepth 100000 in
set_option maxHeartbeats 4000000 in
theorem m_X11_top (l : Launch) (X : xW) (Γ : Nat → Option Nat) (H0 : Heap) (hC0 : Conf X Γ H0) (h0 : Nat) (g0 : Γ h0 = some 0) : Ctr l X Γ yX11_top cX11_top 1 (some .long) 0 [.ref h0] H0 (QJ X Γ (fun v H1 => H1 = H0 ∧ (True))) := by
  refine q_enterJ (own := "SnowForts") (by decide) rfl (Nat.le_of_ble_eq_true rfl) ?_
  intro p e s m args below meth c ls Qz E hl ret hS0
  have hx := E.1; have hb := E.2.1
  have hl : lv_has ls 1 [(0, .ref h0)] := hl
  refine lv_aload_n hx hb dX11_top_0 rfl (lv_at hl 0 rfl) ?_
  refine q_getR E hC0 g0 fa_RX11_84 dX11_top_1 (fun q21 eq21 gq21 => ?_)
  refine q_getJ E hC0 gq21 fa_RX11_106 dX11_top_4 (fun v22 ev22 => ?_)
  exact ret v22 H0 [] _ _ dX11_top_7 ⟨rfl, trivial⟩ hC0 hS0
set_option maxRecDepth 100000 in
set_option maxHeartbeats 4000000 in
theorem m_X11_bottom (l : Launch) (X : xW) (Γ : Nat → Option Nat) (H0 : Heap) (hC0 : Conf X Γ H0) (h0 : Nat) (g0 : Γ h0 = some 0) : Ctr l X Γ yX11_bottom cX11_bottom 1 (some .long) 0 [.ref h0] H0 (QJ X Γ (fun v H1 => H1 = H0 ∧ (True))) := by
  refine q_enterJ (own := "SnowForts") (by decide) rfl (Nat.le_of_ble_eq_true rfl) ?_
  intro p e s m args below meth c ls Qz E hl ret hS0
  have hx := E.1; have hb := E.2.1
  have hl : lv_has ls 1 [(0, .ref h0)] := hl
  refine lv_aload_n hx hb dX11_bottom_0 rfl (lv_at hl 0 rfl) ?_
  refine q_getR E hC0 g0 fa_RX11_84 dX11_bottom_1 (fun q21 eq21 gq21 => ?_)
  refine q_getJ E hC0 gq21 fa_RX11_110 dX11_bottom_4 (fun v22 ev22 => ?_)
  exact ret v22 H0 [] _ _ dX11_bottom_7 ⟨rfl, trivial⟩ hC0 hS0
set_option maxRecDepth 100000 in
set_option maxHeartbeats 4000000 in
theorem m_X11_isWithin (l : Launch) (X : xW) (Γ : Nat → Option Nat) (H0 : Heap) (hC0 : Conf X Γ H0) (p0 : Int64) {a0 : Int} (e0 : p0.toInt = a0) (p1 : Int32) {a1 : Int} (e1 : p1.toInt = a1) (p2 : Int32) {a2 : Int} (e2 : p2.toInt = a2) : Ctr l X Γ yX11_isWithin cX11_isWithin 4 (some .boolean) 0 [.long p0, .int p1, .int p2] H0 (QI X Γ (fun v H1 => H1 = H0 ∧ ((v = 1 ∧ (a1 ≤ a0 ∧ a0 ≤ a2)) ∨ (v = 0 ∧ (a0 < a1 ∨ a2 < a0))))) := by
  refine q_enterZ (own := "SnowForts") (by decide) rfl (Nat.le_of_ble_eq_true rfl) ?_
  intro p e s m args below meth c ls Qz E hl ret hS0
  have hx := E.1; have hb := E.2.1
  have hl : lv_has ls 4 [(0, .long p0), (2, .int p1), (3, .int p2)] := hl
  refine lv_lload_n hx hb dX11_isWithin_0 rfl (lv_at hl 0 rfl) ?_
  refine lv_iload_n hx hb dX11_isWithin_1 rfl (lv_at hl 1 rfl) ?_
  refine lv_i2l (v := p1.toInt64) hx hb dX11_isWithin_2 rfl (lv_topl (fun v21 ev21 => ?_))
  have ev21i : v21.toInt = a1 := l_ofi ev21.symm e1
  refine q_lcmp_lt hx hb (a := a0) (b := a1) e0 ev21i (tgt := 18) dX11_isWithin_3 dX11_isWithin_4 rfl (fun c22 => ?_) (fun c22 => ?_)
  · refine lv_iconst (v := 0) hx hb dX11_isWithin_18 rfl ?_
    exact ret 0 H0 [] _ _ dX11_isWithin_19 (Or.inl rfl) ⟨rfl, Or.inr ⟨rfl, by omega⟩⟩ hC0 hS0
  · refine lv_lload_n hx hb dX11_isWithin_7 rfl (lv_at hl 0 rfl) ?_
    refine lv_iload_n hx hb dX11_isWithin_8 rfl (lv_at hl 2 rfl) ?_
    refine lv_i2l (v := p2.toInt64) hx hb dX11_isWithin_9 rfl (lv_topl (fun v23 ev23 => ?_))
    have ev23i : v23.toInt = a2 := l_ofi ev23.symm e2
    refine q_lcmp_gt hx hb (a := a0) (b := a2) e0 ev23i (tgt := 18) dX11_isWithin_10 dX11_isWithin_11 rfl (fun c24 => ?_) (fun c24 => ?_)
    · refine lv_iconst (v := 0) hx hb dX11_isWithin_18 rfl ?_
      exact ret 0 H0 [] _ _ dX11_isWithin_19 (Or.inl rfl) ⟨rfl, Or.inr ⟨rfl, by omega⟩⟩ hC0 hS0
    · refine lv_iconst (v := 1) hx hb dX11_isWithin_14 rfl ?_
      refine lv_goto (tgt := 19) hx hb dX11_isWithin_15 rfl ?_
      exact ret 1 H0 [] _ _ dX11_isWithin_19 (Or.inr rfl) ⟨rfl, Or.inl ⟨rfl, by omega, by omega⟩⟩ hC0 hS0
set_option maxRecDepth 100000 in
set_option maxHeartbeats 4000000 in
theorem m_X11_isTray (l : Launch) (X : xW) (Γ : Nat → Option Nat) (H0 : Heap) (hC0 : Conf X Γ H0) (p0 : Int32) {a0 : Int} (e0 : p0.toInt = a0) : Ctr l X Γ yX11_isTray cX11_isTray 1 (some .boolean) 1 [.int p0] H0 (QI X Γ (fun v H1 => H1 = H0 ∧ ((v = 1 ∧ (0 ≤ a0 ∧ a0 ≤ 3)) ∨ (v = 0 ∧ (a0 < 0 ∨ 3 < a0))))) := by
  refine q_enterZ (own := "SnowForts") (by decide) rfl (Nat.le_of_ble_eq_true rfl) ?_
  intro p e s m args below meth c ls Qz E hl ret hS0
  have hx := E.1; have hb := E.2.1
  have hl : lv_has ls 1 [(0, .int p0)] := hl
  refine lv_iload_n hx hb dX11_isTray_0 rfl (lv_at hl 0 rfl) ?_
  refine lv_i2l (v := p0.toInt64) hx hb dX11_isTray_1 rfl (lv_topl (fun v21 ev21 => ?_))
  have ev21i : v21.toInt = a0 := l_ofi ev21.symm e0
  refine lv_iconst (v := 0) hx hb dX11_isTray_2 rfl ?_
  refine lv_iconst (v := 3) hx hb dX11_isTray_3 rfl ?_
  refine q_goIp (q_runS (As := [.long v21, .int 0, .int 3]) (rest := []) E hS0 (m_X11_isWithin l X Γ H0 hC0 v21 (a0 := a0) ev21i 0 (a1 := 0) (by decide) 3 (a2 := 3) (by decide)) cw_X11_isWithin cl_RX11_113 rfl hl.1 rfl (Nat.zero_le _) (by decide) dX11_isTray_4) hS0 (fun v22 locs22 hr22 hS22 => ?_)
  rcases hr22 with ⟨rfl, f22a0, f22a1⟩ | ⟨rfl, f22b⟩
  · exact ret 1 H0 locs22 _ _ dX11_isTray_7 (Or.inr rfl) ⟨rfl, Or.inl ⟨rfl, by omega, by omega⟩⟩ hC0 hS22
  · exact ret 0 H0 locs22 _ _ dX11_isTray_7 (Or.inl rfl) ⟨rfl, Or.inr ⟨rfl, by omega⟩⟩ hC0 hS22
set_option maxRecDepth 100000 in
set_option maxHeartbeats 4000000 in
theorem m_X11_deny (l : Launch) (X : xW) (Γ : Nat → Option Nat) (H0 : Heap) (hC0 : Conf X Γ H0) (h0 : Nat) (g0 : Γ h0 = some 0) (p1 : Int32) {a1 : Int} (e1 : p1.toInt = a1) : Ctr l X Γ yX11_deny cX11_deny 2 (some .boolean) 0 [.ref h0, .int p1] H0 (QI X Γ (fun v H1 => Kp X Γ [0, 2, 3, 4, 5, 18, 21, 23, 25, 27] H0 H1 ∧ ((v = 1 ∧ ((0 : Int) = 1)) ∨ (v = 0 ∧ (True))))) := by
  refine q_enterZ (own := "SnowForts") (by decide) rfl (Nat.le_of_ble_eq_true rfl) ?_
  intro p e s m args below meth c ls Qz E hl ret hS0
  have hx := E.1; have hb := E.2.1
  have hKp0 : Kp X Γ [0, 2, 3, 4, 5, 18, 21, 23, 25, 27] H0 H0 := Kp.rf
  have hl : lv_has ls 2 [(0, .ref h0), (1, .int p1)] := hl
  refine lv_aload_n hx hb dX11_deny_0 rfl (lv_at hl 0 rfl) ?_
  refine lv_iload_n hx hb dX11_deny_1 rfl (lv_at hl 1 rfl) ?_
  refine q_put E hC0 hS0 g0 fp_RX11_102 tv_F rfl rfl dX11_deny_2 (fun H21 locs21 hC21 hS21 U21 => ?_)
  have hKp21 := Kp.upO E g0 fp_RX11_102 rfl U21 hKp0
  have e22 := up_I U21
  refine lv_iconst (v := 0) hx hb dX11_deny_5 rfl ?_
  exact ret 0 H21 locs21 _ _ dX11_deny_6 (Or.inl rfl) ⟨hKp21, Or.inr ⟨rfl, trivial⟩⟩ hC21 hS21
set_option maxRecDepth 100000 in
set_option maxHeartbeats 4000000 in
theorem m_X6_become (l : Launch) (X : xW) (Γ : Nat → Option Nat) (H0 : Heap) (hC0 : Conf X Γ H0) (h0 : Nat) (g0 : Γ h0 = some 1) (p1 : Int32) {a1 : Int} (e1 : p1.toInt = a1) (p2 : Int32) {a2 : Int} (e2 : p2.toInt = a2) (r0 : 0 ≤ a2) (r1 : a2 ≤ 60) : Ctr l X Γ yX6_become cX6_become 3 none 1 [.ref h0, .int p1, .int p2] H0 (QV X Γ (fun H1 => Kp X Γ [0, 3, 4, 5, 18, 25, 27] H0 H1 ∧ (((sI H1 h0 (X.1.2 6 2)).toInt = a2) ∧ ((sI H1 h0 (X.1.2 6 1)).toInt = a1) ∧ (OTH X Γ h0 H0 H1) ∧ (∀ q, sR H0 h0 (X.1.2 6 0) = some q → (∀ j : Nat, j < 60 → sJ H1 q j = 0) ∧ ∀ a j : Nat, Γ a = some 24 → a ≠ q → sJ H1 a j = sJ H0 a j)))) := by
  refine q_enterV (own := "SnowForts$Tray") (by decide) rfl (Nat.le_of_ble_eq_true rfl) ?_
  intro p e s m args below meth c ls Qz E hl ret hS0
  have hx := E.1; have hb := E.2.1
  have hKp0 : Kp X Γ [0, 3, 4, 5, 18, 25, 27] H0 H0 := Kp.rf
  have hl : lv_has ls 3 [(0, .ref h0), (1, .int p1), (2, .int p2)] := hl
  have oth : OTH X Γ h0 H0 H0 := OTH.rf
  refine lv_aload_n hx hb dX6_become_0 rfl (lv_at hl 0 rfl) ?_
  refine lv_iload_n hx hb dX6_become_1 rfl (lv_at hl 1 rfl) ?_
  refine q_put E hC0 hS0 g0 fp_RX6_19 tv_F rfl rfl dX6_become_2 (fun H21 locs21 hC21 hS21 U21 => ?_)
  have hKp21 := Kp.upO E g0 fp_RX6_19 rfl U21 hKp0
  have e22 := up_I U21
  have m23 : (sI H21 h0 (X.1.2 6 1)).toInt = a1 := (congrArg Int32.toInt e22).trans e1
  replace oth : OTH X Γ h0 H0 H21 := OTH.ne oth U21 g0
  have m24 : (sI H21 h0 (X.1.2 6 2)).toInt = (sI H0 h0 (X.1.2 6 2)).toInt := congrArg Int32.toInt (up_nI U21 (ne_f E 6 2 1 rfl (by decide) (by decide) (by decide)))
  have uu1 := U21
  refine lv_aload_n hx hb dX6_become_5 rfl (lv_at hl 0 rfl) ?_
  refine lv_iload_n hx hb dX6_become_6 rfl (lv_at hl 2 rfl) ?_
  refine q_put E hC21 hS21 g0 fp_RX6_15 (tv_I e2 (by omega) (by omega)) rfl rfl dX6_become_7 (fun H25 locs25 hC25 hS25 U25 => ?_)
  have hKp25 := Kp.upO E g0 fp_RX6_15 rfl U25 hKp21
  have e26 := up_I U25
  have m27 : (sI H25 h0 (X.1.2 6 2)).toInt = a2 := (congrArg Int32.toInt e26).trans e2
  replace oth : OTH X Γ h0 H0 H25 := OTH.ne oth U25 g0
  have m28 : (sI H25 h0 (X.1.2 6 1)).toInt = (sI H21 h0 (X.1.2 6 1)).toInt := congrArg Int32.toInt (up_nI U25 (ne_f E 6 1 2 rfl (by decide) (by decide) (by decide)))
  have uu2 := U25
  refine lv_aload_n hx hb dX6_become_10 rfl (lv_at hl 0 rfl) ?_
  refine q_getR E hC25 g0 fa_RX6_9 dX6_become_11 (fun q29 eq29 gq29 => ?_)
  have eqn0 : sR H0 h0 (X.1.2 6 0) = some q29 := (((up_nR uu2 (ne_f E 6 0 2 rfl (by decide) (by decide) (by decide))).trans (up_nR uu1 (ne_f E 6 0 1 rfl (by decide) (by decide) (by decide)))).symm).trans eq29
  refine lv_lconst (v := 0) hx hb dX6_become_14 rfl ?_
  refine q_goV (q_runS (As := [.ref q29, .long 0]) (rest := []) E hS25 (m_fillJ l X Γ H25 hC25 q29 gq29 (by decide) rfl rfl (fun _ => rfl) (by decide) 0) cw_J7_fill_d0a16 cl_RX6_22 rfl hl.1 rfl (Nat.zero_le _) (by decide) dX6_become_15) hS25 (fun H30 locs30 U30 hC30 hS30 => ?_)
  obtain ⟨U30, F30⟩ := U30
  have hKp30 := Kp.upC gq29 rfl (by decide) rfl U30 hKp25
  replace oth : OTH X Γ h0 H0 H30 := OTH.cp oth U30 gq29 (by decide)
  have mm1 : (sI H30 h0 (X.1.2 6 2)).toInt = a2 := (congrArg Int32.toInt (cp_I (j := (X.1.2 6 2)) U30 (nek g0 gq29 (by decide)))).trans (by omega)
  have mm2 : (sI H30 h0 (X.1.2 6 1)).toInt = a1 := (congrArg Int32.toInt (cp_I (j := (X.1.2 6 1)) U30 (nek g0 gq29 (by decide)))).trans (by omega)
  have hnb : ∀ q, sR H0 h0 (X.1.2 6 0) = some q → (∀ j : Nat, j < 60 → sJ H30 q j = 0) ∧ ∀ a j : Nat, Γ a = some 24 → a ≠ q → sJ H30 a j = sJ H0 a j := fun q hq => by cases Option.some.inj (eqn0.symm.trans hq); exact ⟨F30, fun a j ga hne => (cp_J U30 hne).trans ((up_nJ uu2 (fun hh => absurd hh.1 (nek ga g0 (by decide)))).trans (up_nJ uu1 (fun hh => absurd hh.1 (nek ga g0 (by decide)))))⟩
  exact ret H30 locs30 _ _ dX6_become_18 ⟨hKp30, ⟨by omega, by omega, oth, hnb⟩⟩ hC30 hS30
set_option maxRecDepth 100000 in
set_option maxHeartbeats 4000000 in
theorem m_X11_grant (l : Launch) (X : xW) (Γ : Nat → Option Nat) (H0 : Heap) (hC0 : Conf X Γ H0) (h0 : Nat) (g0 : Γ h0 = some 0) : Ctr l X Γ yX11_grant cX11_grant 1 (some .boolean) 0 [.ref h0] H0 (QI X Γ (fun v H1 => Kp X Γ [0, 2, 3, 4, 5, 18, 21, 23, 25, 27] H0 H1 ∧ ((v = 1 ∧ (True)) ∨ (v = 0 ∧ ((0 : Int) = 1))))) := by
  refine q_enterZ (own := "SnowForts") (by decide) rfl (Nat.le_of_ble_eq_true rfl) ?_
  intro p e s m args below meth c ls Qz E hl ret hS0
  have hx := E.1; have hb := E.2.1
  have hKp0 : Kp X Γ [0, 2, 3, 4, 5, 18, 21, 23, 25, 27] H0 H0 := Kp.rf
  have hl : lv_has ls 1 [(0, .ref h0)] := hl
  refine lv_aload_n hx hb dX11_grant_0 rfl (lv_at hl 0 rfl) ?_
  refine lv_iconst (v := 0) hx hb dX11_grant_1 rfl ?_
  refine q_put E hC0 hS0 g0 fp_RX11_102 tv_F rfl rfl dX11_grant_2 (fun H21 locs21 hC21 hS21 U21 => ?_)
  have hKp21 := Kp.upO E g0 fp_RX11_102 rfl U21 hKp0
  have e22 := up_I U21
  refine lv_iconst (v := 1) hx hb dX11_grant_5 rfl ?_
  exact ret 1 H21 locs21 _ _ dX11_grant_6 (Or.inr rfl) ⟨hKp21, Or.inl ⟨rfl, trivial⟩⟩ hC21 hS21
set_option maxRecDepth 100000 in
set_option maxHeartbeats 4000000 in
theorem m_X11_tray (l : Launch) (X : xW) (Γ : Nat → Option Nat) (H0 : Heap) (hC0 : Conf X Γ H0) (h0 : Nat) (g0 : Γ h0 = some 0) (p1 : Int32) {a1 : Int} (e1 : p1.toInt = a1) (p2 : Int32) {a2 : Int} (e2 : p2.toInt = a2) (p3 : Int32) {a3 : Int} (e3 : p3.toInt = a3) (ta : Nat) (td nd : Nat → Nat) (sh : SHP X Γ H0 h0 ta td nd) : Ctr l X Γ yX11_tray cX11_tray 4 (some .boolean) 2 [.ref h0, .int p1, .int p2, .int p3] H0 (QI X Γ (fun v H1 => Kp X Γ [0, 3, 4, 5, 18, 25, 27] H0 H1 ∧ (((0 ≤ a1 ∧ a1 ≤ 3 ∧ 0 ≤ a2 ∧ a2 ≤ 3 ∧ 0 ≤ a3 ∧ a3 ≤ 60 ∧ v.toInt = 1 ∧ TSt X td H0 H1 a1 a3 a2 ∧ NZr (nC nd H0) (nC nd H1) a1 a3) ∨ ((a1 < 0 ∨ 3 < a1 ∨ a2 < 0 ∨ 3 < a2 ∨ a3 < 0 ∨ 60 < a3) ∧ v.toInt = 0 ∧ TSm X td H0 H1 ∧ NSm (nC nd H0) (nC nd H1)))))) := by
  refine q_enterZ (own := "SnowForts") (by decide) rfl (Nat.le_of_ble_eq_true rfl) ?_
  intro p e s m args below meth c ls Qz E hl ret hS0
  have hx := E.1; have hb := E.2.1
  have hKp0 : Kp X Γ [0, 3, 4, 5, 18, 25, 27] H0 H0 := Kp.rf
  have hl : lv_has ls 4 [(0, .ref h0), (1, .int p1), (2, .int p2), (3, .int p3)] := hl
  have tsm : TSm X td H0 H0 := TSm.rf
  have ncs : NSm (nC nd H0) (nC nd H0) := NSm.rf
  refine lv_iload_n hx hb dX11_tray_0 rfl (lv_at hl 1 rfl) ?_
  refine q_goIp (q_runS (As := [.int p1]) (rest := []) E hS0 (m_X11_isTray l X Γ H0 hC0 p1 (a0 := a1) e1) cw_X11_isTray cl_RX11_117 rfl hl.1 rfl (Nat.zero_le _) (by decide) dX11_tray_1) hS0 (fun v21 locs21 hr21 hS21 => ?_)
  rcases hr21 with ⟨rfl, f21a0, f21a1⟩ | ⟨rfl, f21b⟩
  · refine q_if_eq hx hb (a := 1) (by decide) (tgt := 17) dX11_tray_4 rfl (fun c22 => absurd c22 (by omega)) (fun c22 => ?_)
    refine lv_iload_n hx hb dX11_tray_7 rfl (lv_at hl 2 rfl) ?_
    refine lv_i2l (v := p2.toInt64) hx hb dX11_tray_8 rfl (lv_topl (fun v23 ev23 => ?_))
    have ev23i : v23.toInt = a2 := l_ofi ev23.symm e2
    refine lv_iconst (v := 0) hx hb dX11_tray_9 rfl ?_
    refine lv_iconst (v := 3) hx hb dX11_tray_10 rfl ?_
    refine q_goIp (q_runS (As := [.long v23, .int 0, .int 3]) (rest := []) E hS21 (m_X11_isWithin l X Γ H0 hC0 v23 (a0 := a2) ev23i 0 (a1 := 0) (by decide) 3 (a2 := 3) (by decide)) cw_X11_isWithin cl_RX11_113 rfl hl.1 rfl (Nat.zero_le _) (by decide) dX11_tray_11) hS21 (fun v24 locs24 hr24 hS24 => ?_)
    rcases hr24 with ⟨rfl, f24a0, f24a1⟩ | ⟨rfl, f24b⟩
    · refine q_if_ne hx hb (a := 1) (by decide) (tgt := 23) dX11_tray_14 rfl (fun c25 => ?_) (fun c25 => absurd c25 (by omega))
      refine lv_iload_n hx hb dX11_tray_23 rfl (lv_at hl 3 rfl) ?_
      refine lv_bipush (v := 60) hx hb dX11_tray_24 rfl ?_
      refine q_icmp_le hx hb (a := a3) (b := 60) e3 (by decide) (tgt := 35) dX11_tray_26 rfl (fun c26 => ?_) (fun c26 => ?_)
      · refine lv_iload_n hx hb dX11_tray_35 rfl (lv_at hl 3 rfl) ?_
        refine q_if_ge hx hb (a := a3) e3 (tgt := 46) dX11_tray_36 rfl (fun c27 => ?_) (fun c27 => ?_)
        · refine lv_aload_n hx hb dX11_tray_46 rfl (lv_at hl 0 rfl) ?_
          refine q_getS E hC0 g0 fa_RX11_10 sh.2.1 dX11_tray_47 (fun _ => ?_)
          refine lv_iload_n hx hb dX11_tray_50 rfl (lv_at hl 1 rfl) ?_
          refine q_aaldS E hC0 sh.1 rfl rfl (fun _ => rfl) (C := "SnowForts$Tray") rfl (z := a1) e1 (by omega) (by omega) ((sh.2.2.1 _ (by omega)).1) dX11_tray_51 (fun g28 => ?_)
          refine lv_iload_n hx hb dX11_tray_52 rfl (lv_at hl 2 rfl) ?_
          refine lv_iload_n hx hb dX11_tray_53 rfl (lv_at hl 3 rfl) ?_
          refine q_goV (q_runV (As := [.int p2, .int p3]) (rest := []) E hC0 hS24 (m_X6_become l X Γ H0 hC0 (td (a1 : Int).toNat) g28 p2 (a1 := a2) e2 p3 (a2 := a3) e3 (by omega) (by omega)) cw_X6_become cl_RX11_131 g28 ⟨rfl, rfl⟩ rfl hl.1 rfl (Nat.zero_le _) (by decide) dX11_tray_54) hS24 (fun H29 locs29 hr29 hC29 hS29 => ?_)
          obtain ⟨hp29, hr29⟩ := hr29
          have hKp29 := hKp0.tr (hp29.mono rfl)
          obtain ⟨f29_0, f29_1, f29_2, f29_3⟩ := hr29
          have tst : TSt X td H0 H29 a1 a3 a2 := TSt.mk sh (z := (a1 : Int).toNat) (by omega) (by omega) f29_0 f29_1 f29_2
          have nzr : NZr (nC nd H0) (nC nd H29) a1 a3 := nC_zr sh (z := (a1 : Int).toNat) (by omega) (by omega) (f29_3 _ ((sh.2.2.2.2.1 _ (by omega)).1)).1 (f29_3 _ ((sh.2.2.2.2.1 _ (by omega)).1)).2
          refine lv_aload_n hx hb dX11_tray_57 rfl (lv_at hl 0 rfl) ?_
          refine q_goI (q_runV (As := []) (rest := []) E hC29 hS29 (m_X11_grant l X Γ H29 hC29 h0 g0) cw_X11_grant cl_RX11_135 g0 ⟨rfl, rfl⟩ rfl hl.1 rfl (Nat.zero_le _) (by decide) dX11_tray_58) hS29 (fun v30 H30 locs30 hr30 hC30 hS30 => ?_)
          obtain ⟨hp30, hr30⟩ := hr30
          have hKp30 := hKp29.tr (hp30.mono rfl)
          replace tst : TSt X td H0 H30 a1 a3 a2 := TSt.kp tst hp30 sh rfl
          replace nzr : NZr (nC nd H0) (nC nd H30) a1 a3 := NZr.sm nzr (nC_kp NSm.rf hp30 sh rfl)
          rcases hr30 with ⟨rfl, -⟩ | ⟨rfl, f30b⟩
          · have hpost : (0 ≤ a1 ∧ a1 ≤ 3 ∧ 0 ≤ a2 ∧ a2 ≤ 3 ∧ 0 ≤ a3 ∧ a3 ≤ 60 ∧ (1 : Int32).toInt = 1 ∧ TSt X td H0 H30 a1 a3 a2 ∧ NZr (nC nd H0) (nC nd H30) a1 a3) ∨ ((a1 < 0 ∨ 3 < a1 ∨ a2 < 0 ∨ 3 < a2 ∨ a3 < 0 ∨ 60 < a3) ∧ (1 : Int32).toInt = 0 ∧ TSm X td H0 H30 ∧ NSm (nC nd H0) (nC nd H30)) := Or.inl ⟨by omega, by omega, by omega, by omega, by omega, by omega, by decide, tst, nzr⟩
            have c31 : (1 : Int32).toInt = 1 := (by decide)
            exact ret 1 H30 locs30 _ _ dX11_tray_61 (Or.inr rfl) ⟨hKp30, hpost⟩ hC30 hS30
          · exact absurd f30b (by decide)
        · refine lv_aload_n hx hb dX11_tray_39 rfl (lv_at hl 0 rfl) ?_
          refine lv_bipush (v := 6) hx hb dX11_tray_40 rfl ?_
          refine q_goI (q_runV (As := [.int 6]) (rest := []) E hC0 hS24 (m_X11_deny l X Γ H0 hC0 h0 g0 6 (a1 := 6) (by decide)) cw_X11_deny cl_RX11_128 g0 ⟨rfl, rfl⟩ rfl hl.1 rfl (Nat.zero_le _) (by decide) dX11_tray_42) hS24 (fun v32 H32 locs32 hr32 hC32 hS32 => ?_)
          obtain ⟨hp32, hr32⟩ := hr32
          have hKp32 := hKp0.tr (hp32.mono rfl)
          replace tsm : TSm X td H0 H32 := TSm.kp tsm hp32 sh rfl
          replace ncs : NSm (nC nd H0) (nC nd H32) := nC_kp ncs hp32 sh rfl
          rcases hr32 with ⟨rfl, f32a⟩ | ⟨rfl, -⟩
          · exact absurd f32a (by decide)
          · have hpost : (0 ≤ a1 ∧ a1 ≤ 3 ∧ 0 ≤ a2 ∧ a2 ≤ 3 ∧ 0 ≤ a3 ∧ a3 ≤ 60 ∧ (0 : Int32).toInt = 1 ∧ TSt X td H0 H32 a1 a3 a2 ∧ NZr (nC nd H0) (nC nd H32) a1 a3) ∨ ((a1 < 0 ∨ 3 < a1 ∨ a2 < 0 ∨ 3 < a2 ∨ a3 < 0 ∨ 60 < a3) ∧ (0 : Int32).toInt = 0 ∧ TSm X td H0 H32 ∧ NSm (nC nd H0) (nC nd H32)) := Or.inr ⟨by omega, by decide, tsm, ncs⟩
            have c33 : (0 : Int32).toInt = 0 := (by decide)
            exact ret 0 H32 locs32 _ _ dX11_tray_45 (Or.inl rfl) ⟨hKp32, hpost⟩ hC32 hS32
      · refine lv_aload_n hx hb dX11_tray_29 rfl (lv_at hl 0 rfl) ?_
        refine lv_iconst (v := 5) hx hb dX11_tray_30 rfl ?_
        refine q_goI (q_runV (As := [.int 5]) (rest := []) E hC0 hS24 (m_X11_deny l X Γ H0 hC0 h0 g0 5 (a1 := 5) (by decide)) cw_X11_deny cl_RX11_128 g0 ⟨rfl, rfl⟩ rfl hl.1 rfl (Nat.zero_le _) (by decide) dX11_tray_31) hS24 (fun v34 H34 locs34 hr34 hC34 hS34 => ?_)
        obtain ⟨hp34, hr34⟩ := hr34
        have hKp34 := hKp0.tr (hp34.mono rfl)
        replace tsm : TSm X td H0 H34 := TSm.kp tsm hp34 sh rfl
        replace ncs : NSm (nC nd H0) (nC nd H34) := nC_kp ncs hp34 sh rfl
        rcases hr34 with ⟨rfl, f34a⟩ | ⟨rfl, -⟩
        · exact absurd f34a (by decide)
        · have hpost : (0 ≤ a1 ∧ a1 ≤ 3 ∧ 0 ≤ a2 ∧ a2 ≤ 3 ∧ 0 ≤ a3 ∧ a3 ≤ 60 ∧ (0 : Int32).toInt = 1 ∧ TSt X td H0 H34 a1 a3 a2 ∧ NZr (nC nd H0) (nC nd H34) a1 a3) ∨ ((a1 < 0 ∨ 3 < a1 ∨ a2 < 0 ∨ 3 < a2 ∨ a3 < 0 ∨ 60 < a3) ∧ (0 : Int32).toInt = 0 ∧ TSm X td H0 H34 ∧ NSm (nC nd H0) (nC nd H34)) := Or.inr ⟨by omega, by decide, tsm, ncs⟩
          have c35 : (0 : Int32).toInt = 0 := (by decide)
          exact ret 0 H34 locs34 _ _ dX11_tray_34 (Or.inl rfl) ⟨hKp34, hpost⟩ hC34 hS34
    · refine q_if_ne hx hb (a := 0) (by decide) (tgt := 23) dX11_tray_14 rfl (fun c36 => absurd c36 (by omega)) (fun c36 => ?_)
      refine lv_aload_n hx hb dX11_tray_17 rfl (lv_at hl 0 rfl) ?_
      refine lv_iconst (v := 1) hx hb dX11_tray_18 rfl ?_
      refine q_goI (q_runV (As := [.int 1]) (rest := []) E hC0 hS24 (m_X11_deny l X Γ H0 hC0 h0 g0 1 (a1 := 1) (by decide)) cw_X11_deny cl_RX11_128 g0 ⟨rfl, rfl⟩ rfl hl.1 rfl (Nat.zero_le _) (by decide) dX11_tray_19) hS24 (fun v37 H37 locs37 hr37 hC37 hS37 => ?_)
      obtain ⟨hp37, hr37⟩ := hr37
      have hKp37 := hKp0.tr (hp37.mono rfl)
      replace tsm : TSm X td H0 H37 := TSm.kp tsm hp37 sh rfl
      replace ncs : NSm (nC nd H0) (nC nd H37) := nC_kp ncs hp37 sh rfl
      rcases hr37 with ⟨rfl, f37a⟩ | ⟨rfl, -⟩
      · exact absurd f37a (by decide)
      · have hpost : (0 ≤ a1 ∧ a1 ≤ 3 ∧ 0 ≤ a2 ∧ a2 ≤ 3 ∧ 0 ≤ a3 ∧ a3 ≤ 60 ∧ (0 : Int32).toInt = 1 ∧ TSt X td H0 H37 a1 a3 a2 ∧ NZr (nC nd H0) (nC nd H37) a1 a3) ∨ ((a1 < 0 ∨ 3 < a1 ∨ a2 < 0 ∨ 3 < a2 ∨ a3 < 0 ∨ 60 < a3) ∧ (0 : Int32).toInt = 0 ∧ TSm X td H0 H37 ∧ NSm (nC nd H0) (nC nd H37)) := Or.inr ⟨by omega, by decide, tsm, ncs⟩
        have c38 : (0 : Int32).toInt = 0 := (by decide)
        exact ret 0 H37 locs37 _ _ dX11_tray_22 (Or.inl rfl) ⟨hKp37, hpost⟩ hC37 hS37
  · refine q_if_eq hx hb (a := 0) (by decide) (tgt := 17) dX11_tray_4 rfl (fun c39 => ?_) (fun c39 => absurd c39 (by omega))
    refine lv_aload_n hx hb dX11_tray_17 rfl (lv_at hl 0 rfl) ?_
    refine lv_iconst (v := 1) hx hb dX11_tray_18 rfl ?_
    refine q_goI (q_runV (As := [.int 1]) (rest := []) E hC0 hS21 (m_X11_deny l X Γ H0 hC0 h0 g0 1 (a1 := 1) (by decide)) cw_X11_deny cl_RX11_128 g0 ⟨rfl, rfl⟩ rfl hl.1 rfl (Nat.zero_le _) (by decide) dX11_tray_19) hS21 (fun v40 H40 locs40 hr40 hC40 hS40 => ?_)
    obtain ⟨hp40, hr40⟩ := hr40
    have hKp40 := hKp0.tr (hp40.mono rfl)
    replace tsm : TSm X td H0 H40 := TSm.kp tsm hp40 sh rfl
    replace ncs : NSm (nC nd H0) (nC nd H40) := nC_kp ncs hp40 sh rfl
    rcases hr40 with ⟨rfl, f40a⟩ | ⟨rfl, -⟩
    · exact absurd f40a (by decide)
    · have hpost : (0 ≤ a1 ∧ a1 ≤ 3 ∧ 0 ≤ a2 ∧ a2 ≤ 3 ∧ 0 ≤ a3 ∧ a3 ≤ 60 ∧ (0 : Int32).toInt = 1 ∧ TSt X td H0 H40 a1 a3 a2 ∧ NZr (nC nd H0) (nC nd H40) a1 a3) ∨ ((a1 < 0 ∨ 3 < a1 ∨ a2 < 0 ∨ 3 < a2 ∨ a3 < 0 ∨ 60 < a3) ∧ (0 : Int32).toInt = 0 ∧ TSm X td H0 H40 ∧ NSm (nC nd H0) (nC nd H40)) := Or.inr ⟨by omega, by decide, tsm, ncs⟩
      have c41 : (0 : Int32).toInt = 0 := (by decide)
      exact ret 0 H40 locs40 _ _ dX11_tray_22 (Or.inl rfl) ⟨hKp40, hpost⟩ hC40 hS40
set_option maxRecDepth 100000 in
set_option maxHeartbeats 4000000 in
theorem m_X6_isMissing (l : Launch) (X : xW) (Γ : Nat → Option Nat) (H0 : Heap) (hC0 : Conf X Γ H0) (h0 : Nat) (g0 : Γ h0 = some 1) : Ctr l X Γ yX6_isMissing cX6_isMissing 1 (some .boolean) 0 [.ref h0] H0 (QI X Γ (fun v H1 => H1 = H0 ∧ ((v = 1 ∧ ((sI H0 h0 (X.1.2 6 2)).toInt < 0)) ∨ (v = 0 ∧ (0 ≤ (sI H0 h0 (X.1.2 6 2)).toInt))))) := by
  refine q_enterZ (own := "SnowForts$Tray") (by decide) rfl (Nat.le_of_ble_eq_true rfl) ?_
  intro p e s m args below meth c ls Qz E hl ret hS0
  have hx := E.1; have hb := E.2.1
  have hl : lv_has ls 1 [(0, .ref h0)] := hl
  have hz1 := f_bd hC0 g0 (ci := 6) (k := 2) rfl rfl
  refine lv_aload_n hx hb dX6_isMissing_0 rfl (lv_at hl 0 rfl) ?_
  refine q_getI E hC0 g0 fa_RX6_15 dX6_isMissing_1 (fun v21 ev21 lv21 uv21 => ?_)
  have m22 : (sI H0 h0 (X.1.2 6 2)).toInt = v21.toInt := (congrArg Int32.toInt ev21).trans rfl
  refine q_if_ge hx hb (a := v21.toInt) rfl (tgt := 11) dX6_isMissing_4 rfl (fun c23 => ?_) (fun c23 => ?_)
  · refine lv_iconst (v := 0) hx hb dX6_isMissing_11 rfl ?_
    exact ret 0 H0 [] _ _ dX6_isMissing_12 (Or.inl rfl) ⟨rfl, Or.inr ⟨rfl, by omega⟩⟩ hC0 hS0
  · refine lv_iconst (v := 1) hx hb dX6_isMissing_7 rfl ?_
    refine lv_goto (tgt := 12) hx hb dX6_isMissing_8 rfl ?_
    exact ret 1 H0 [] _ _ dX6_isMissing_12 (Or.inr rfl) ⟨rfl, Or.inl ⟨rfl, by omega⟩⟩ hC0 hS0
set_option maxRecDepth 100000 in
set_option maxHeartbeats 4000000 in
theorem m_X6_hasPlace (l : Launch) (X : xW) (Γ : Nat → Option Nat) (H0 : Heap) (hC0 : Conf X Γ H0) (h0 : Nat) (g0 : Γ h0 = some 1) (p1 : Int32) {a1 : Int} (e1 : p1.toInt = a1) : Ctr l X Γ yX6_hasPlace cX6_hasPlace 2 (some .boolean) 0 [.ref h0, .int p1] H0 (QI X Γ (fun v H1 => H1 = H0 ∧ ((v = 1 ∧ (0 ≤ a1 ∧ a1 ≤ 59 ∧ a1 < (sI H0 h0 (X.1.2 6 2)).toInt)) ∨ (v = 0 ∧ (a1 < 0 ∨ (sI H0 h0 (X.1.2 6 2)).toInt ≤ a1))))) := by
  refine q_enterZ (own := "SnowForts$Tray") (by decide) rfl (Nat.le_of_ble_eq_true rfl) ?_
  intro p e s m args below meth c ls Qz E hl ret hS0
  have hx := E.1; have hb := E.2.1
  have hl : lv_has ls 2 [(0, .ref h0), (1, .int p1)] := hl
  have hz1 := f_bd hC0 g0 (ci := 6) (k := 2) rfl rfl
  refine lv_iload_n hx hb dX6_hasPlace_0 rfl (lv_at hl 1 rfl) ?_
  refine q_if_lt hx hb (a := a1) e1 (tgt := 22) dX6_hasPlace_1 rfl (fun c21 => ?_) (fun c21 => ?_)
  · refine lv_iconst (v := 0) hx hb dX6_hasPlace_22 rfl ?_
    exact ret 0 H0 [] _ _ dX6_hasPlace_23 (Or.inl rfl) ⟨rfl, Or.inr ⟨rfl, by omega⟩⟩ hC0 hS0
  · refine lv_iload_n hx hb dX6_hasPlace_4 rfl (lv_at hl 1 rfl) ?_
    refine lv_aload_n hx hb dX6_hasPlace_5 rfl (lv_at hl 0 rfl) ?_
    refine q_getI E hC0 g0 fa_RX6_15 dX6_hasPlace_6 (fun v22 ev22 lv22 uv22 => ?_)
    have m23 : (sI H0 h0 (X.1.2 6 2)).toInt = v22.toInt := (congrArg Int32.toInt ev22).trans rfl
    refine q_icmp_ge hx hb (a := a1) (b := v22.toInt) e1 rfl (tgt := 22) dX6_hasPlace_9 rfl (fun c24 => ?_) (fun c24 => ?_)
    · refine lv_iconst (v := 0) hx hb dX6_hasPlace_22 rfl ?_
      exact ret 0 H0 [] _ _ dX6_hasPlace_23 (Or.inl rfl) ⟨rfl, Or.inr ⟨rfl, by omega⟩⟩ hC0 hS0
    · refine lv_iload_n hx hb dX6_hasPlace_12 rfl (lv_at hl 1 rfl) ?_
      refine lv_bipush (v := 60) hx hb dX6_hasPlace_13 rfl ?_
      refine q_icmp_ge hx hb (a := a1) (b := 60) e1 (by decide) (tgt := 22) dX6_hasPlace_15 rfl (fun c25 => absurd c25 (by omega)) (fun c25 => ?_)
      refine lv_iconst (v := 1) hx hb dX6_hasPlace_18 rfl ?_
      refine lv_goto (tgt := 23) hx hb dX6_hasPlace_19 rfl ?_
      exact ret 1 H0 [] _ _ dX6_hasPlace_23 (Or.inr rfl) ⟨rfl, Or.inl ⟨rfl, by omega, by omega, by omega⟩⟩ hC0 hS0
set_option maxRecDepth 100000 in
set_option maxHeartbeats 4000000 in
theorem m_X11_whyNotPlace (l : Launch) (X : xW) (Γ : Nat → Option Nat) (H0 : Heap) (hC0 : Conf X Γ H0) (h0 : Nat) (g0 : Γ h0 = some 0) (p1 : Int32) {a1 : Int} (e1 : p1.toInt = a1) (p2 : Int32) {a2 : Int} (e2 : p2.toInt = a2) (ta : Nat) (td nd : Nat → Nat) (sh : SHP X Γ H0 h0 ta td nd) : Ctr l X Γ yX11_whyNotPlace cX11_whyNotPlace 3 (some .int) 2 [.ref h0, .int p1, .int p2] H0 (QI X Γ (fun v H1 => H1 = H0 ∧ (((v.toInt = 1 ∧ (a1 < 0 ∨ 3 < a1)) ∨ (v.toInt = 3 ∧ 0 ≤ a1 ∧ a1 ≤ 3 ∧ (sI H0 (td (a1 : Int).toNat) (X.1.2 6 2)).toInt < 0) ∨ (v.toInt = 4 ∧ 0 ≤ a1 ∧ a1 ≤ 3 ∧ 0 ≤ (sI H0 (td (a1 : Int).toNat) (X.1.2 6 2)).toInt ∧ (a2 < 0 ∨ (sI H0 (td (a1 : Int).toNat) (X.1.2 6 2)).toInt ≤ a2)) ∨ (v.toInt = 0 ∧ 0 ≤ a1 ∧ a1 ≤ 3 ∧ 0 ≤ a2 ∧ a2 < (sI H0 (td (a1 : Int).toNat) (X.1.2 6 2)).toInt))))) := by
  refine q_enterI (own := "SnowForts") (by decide) rfl (Nat.le_of_ble_eq_true rfl) ?_
  intro p e s m args below meth c ls Qz E hl ret hS0
  have hx := E.1; have hb := E.2.1
  have hl : lv_has ls 3 [(0, .ref h0), (1, .int p1), (2, .int p2)] := hl
  refine lv_iload_n hx hb dX11_whyNotPlace_0 rfl (lv_at hl 1 rfl) ?_
  refine q_goIp (q_runS (As := [.int p1]) (rest := []) E hS0 (m_X11_isTray l X Γ H0 hC0 p1 (a0 := a1) e1) cw_X11_isTray cl_RX11_117 rfl hl.1 rfl (Nat.zero_le _) (by decide) dX11_whyNotPlace_1) hS0 (fun v21 locs21 hr21 hS21 => ?_)
  rcases hr21 with ⟨rfl, f21a0, f21a1⟩ | ⟨rfl, f21b⟩
  · refine q_if_ne hx hb (a := 1) (by decide) (tgt := 9) dX11_whyNotPlace_4 rfl (fun c22 => ?_) (fun c22 => absurd c22 (by omega))
    refine lv_aload_n hx hb dX11_whyNotPlace_9 rfl (lv_at hl 0 rfl) ?_
    refine q_getS E hC0 g0 fa_RX11_10 sh.2.1 dX11_whyNotPlace_10 (fun _ => ?_)
    refine lv_iload_n hx hb dX11_whyNotPlace_13 rfl (lv_at hl 1 rfl) ?_
    refine q_aaldS E hC0 sh.1 rfl rfl (fun _ => rfl) (C := "SnowForts$Tray") rfl (z := a1) e1 (by omega) (by omega) ((sh.2.2.1 _ (by omega)).1) dX11_whyNotPlace_14 (fun g23 => ?_)
    refine q_goIp (q_runV (As := []) (rest := []) E hC0 hS21 (m_X6_isMissing l X Γ H0 hC0 (td (a1 : Int).toNat) g23) cw_X6_isMissing cl_RX11_121 g23 ⟨rfl, rfl⟩ rfl hl.1 rfl (Nat.zero_le _) (by decide) dX11_whyNotPlace_15) hS21 (fun v24 locs24 hr24 hS24 => ?_)
    rcases hr24 with ⟨rfl, f24a⟩ | ⟨rfl, f24b⟩
    · refine q_if_eq hx hb (a := 1) (by decide) (tgt := 23) dX11_whyNotPlace_18 rfl (fun c25 => absurd c25 (by omega)) (fun c25 => ?_)
      refine lv_iconst (v := 3) hx hb dX11_whyNotPlace_21 rfl ?_
      have c26 : (3 : Int32).toInt = 3 := (by decide)
      exact ret 3 H0 locs24 _ _ dX11_whyNotPlace_22 ⟨rfl, by omega⟩ hC0 hS24
    · refine q_if_eq hx hb (a := 0) (by decide) (tgt := 23) dX11_whyNotPlace_18 rfl (fun c27 => ?_) (fun c27 => absurd c27 (by omega))
      refine lv_aload_n hx hb dX11_whyNotPlace_23 rfl (lv_at hl 0 rfl) ?_
      refine q_getS E hC0 g0 fa_RX11_10 sh.2.1 dX11_whyNotPlace_24 (fun _ => ?_)
      refine lv_iload_n hx hb dX11_whyNotPlace_27 rfl (lv_at hl 1 rfl) ?_
      refine q_aaldS E hC0 sh.1 rfl rfl (fun _ => rfl) (C := "SnowForts$Tray") rfl (z := a1) e1 (by omega) (by omega) ((sh.2.2.1 _ (by omega)).1) dX11_whyNotPlace_28 (fun g28 => ?_)
      refine lv_iload_n hx hb dX11_whyNotPlace_29 rfl (lv_at hl 2 rfl) ?_
      refine q_goIp (q_runV (As := [.int p2]) (rest := []) E hC0 hS24 (m_X6_hasPlace l X Γ H0 hC0 (td (a1 : Int).toNat) g28 p2 (a1 := a2) e2) cw_X6_hasPlace cl_RX11_125 g28 ⟨rfl, rfl⟩ rfl hl.1 rfl (Nat.zero_le _) (by decide) dX11_whyNotPlace_30) hS24 (fun v29 locs29 hr29 hS29 => ?_)
      rcases hr29 with ⟨rfl, f29a0, f29a1, f29a2⟩ | ⟨rfl, f29b⟩
      · refine q_if_eq hx hb (a := 1) (by decide) (tgt := 40) dX11_whyNotPlace_33 rfl (fun c30 => absurd c30 (by omega)) (fun c30 => ?_)
        refine lv_iconst (v := 0) hx hb dX11_whyNotPlace_36 rfl ?_
        refine lv_goto (tgt := 41) hx hb dX11_whyNotPlace_37 rfl ?_
        have c31 : (0 : Int32).toInt = 0 := (by decide)
        exact ret 0 H0 locs29 _ _ dX11_whyNotPlace_41 ⟨rfl, by omega⟩ hC0 hS29
      · refine q_if_eq hx hb (a := 0) (by decide) (tgt := 40) dX11_whyNotPlace_33 rfl (fun c32 => ?_) (fun c32 => absurd c32 (by omega))
        refine lv_iconst (v := 4) hx hb dX11_whyNotPlace_40 rfl ?_
        have c33 : (4 : Int32).toInt = 4 := (by decide)
        exact ret 4 H0 locs29 _ _ dX11_whyNotPlace_41 ⟨rfl, by omega⟩ hC0 hS29
  · refine q_if_ne hx hb (a := 0) (by decide) (tgt := 9) dX11_whyNotPlace_4 rfl (fun c34 => absurd c34 (by omega)) (fun c34 => ?_)
    refine lv_iconst (v := 1) hx hb dX11_whyNotPlace_7 rfl ?_
    have c35 : (1 : Int32).toInt = 1 := (by decide)
    exact ret 1 H0 locs21 _ _ dX11_whyNotPlace_8 ⟨rfl, by omega⟩ hC0 hS21
set_option maxRecDepth 100000 in
set_option maxHeartbeats 4000000 in
theorem m_X6_cut (l : Launch) (X : xW) (Γ : Nat → Option Nat) (H0 : Heap) (hC0 : Conf X Γ H0) (h0 : Nat) (g0 : Γ h0 = some 1) (p1 : Int64) {a1 : Int} (e1 : p1.toInt = a1) : Ctr l X Γ yX6_cut cX6_cut 3 (some .long) 0 [.ref h0, .long p1] H0 (QJ X Γ (fun v H1 => H1 = H0 ∧ ((v = cutJ (sI H0 h0 (X.1.2 6 1)).toInt p1)))) := by
  refine q_enterJ (own := "SnowForts$Tray") (by decide) rfl (Nat.le_of_ble_eq_true rfl) ?_
  intro p e s m args below meth c ls Qz E hl ret hS0
  have hx := E.1; have hb := E.2.1
  have hl : lv_has ls 3 [(0, .ref h0), (1, .long p1)] := hl
  refine lv_aload_n hx hb dX6_cut_0 rfl (lv_at hl 0 rfl) ?_
  refine q_getI E hC0 g0 fa_RX6_19 dX6_cut_1 (fun v21 ev21 _ _ => ?_)
  have m22 : (sI H0 h0 (X.1.2 6 1)).toInt = v21.toInt := (congrArg Int32.toInt ev21).trans rfl
  by_cases c23_0 : v21.toInt = 0
  · have c23_x := (show v21.toInt = v21.toInt from rfl).trans c23_0
    refine lv_tableIn hx hb dX6_cut_4 (by rw [c23_x]; decide) (by rw [c23_x]; decide) (off := 28) (by rw [c23_x]; rfl) (tgt := 32) rfl ?_
    refine lv_lload_n hx hb dX6_cut_32 rfl (lv_at hl 1 rfl) ?_
    refine lv_l2i hx hb dX6_cut_33 rfl (lv_topi (fun v24 ev24 => ?_))
    refine lv_i2b hx hb dX6_cut_34 rfl (lv_topi (fun v25 ev25 => ?_))
    refine lv_i2l (v := v25.toInt64) hx hb dX6_cut_35 rfl (lv_topl (fun v26 ev26 => ?_))
    have ev26i : v26.toInt = v25.toInt := l_ofi ev26.symm rfl
    have hcut : v26 = cutJ (sI H0 h0 (X.1.2 6 1)).toInt p1 := by unfold cutJ; (repeat' split) <;> first | omega | (subst_vars; rfl)
    exact ret v26 H0 [] _ _ dX6_cut_36 ⟨rfl, hcut⟩ hC0 hS0
  by_cases c23_1 : v21.toInt = 1
  · have c23_x := (show v21.toInt = v21.toInt from rfl).trans c23_1
    refine lv_tableIn hx hb dX6_cut_4 (by rw [c23_x]; decide) (by rw [c23_x]; decide) (off := 33) (by rw [c23_x]; rfl) (tgt := 37) rfl ?_
    refine lv_lload_n hx hb dX6_cut_37 rfl (lv_at hl 1 rfl) ?_
    refine lv_l2i hx hb dX6_cut_38 rfl (lv_topi (fun v27 ev27 => ?_))
    refine lv_i2s hx hb dX6_cut_39 rfl (lv_topi (fun v28 ev28 => ?_))
    refine lv_i2l (v := v28.toInt64) hx hb dX6_cut_40 rfl (lv_topl (fun v29 ev29 => ?_))
    have ev29i : v29.toInt = v28.toInt := l_ofi ev29.symm rfl
    have hcut : v29 = cutJ (sI H0 h0 (X.1.2 6 1)).toInt p1 := by unfold cutJ; (repeat' split) <;> first | omega | (subst_vars; rfl)
    exact ret v29 H0 [] _ _ dX6_cut_41 ⟨rfl, hcut⟩ hC0 hS0
  by_cases c23_2 : v21.toInt = 2
  · have c23_x := (show v21.toInt = v21.toInt from rfl).trans c23_2
    refine lv_tableIn hx hb dX6_cut_4 (by rw [c23_x]; decide) (by rw [c23_x]; decide) (off := 38) (by rw [c23_x]; rfl) (tgt := 42) rfl ?_
    refine lv_lload_n hx hb dX6_cut_42 rfl (lv_at hl 1 rfl) ?_
    refine lv_l2i hx hb dX6_cut_43 rfl (lv_topi (fun v30 ev30 => ?_))
    refine lv_i2l (v := v30.toInt64) hx hb dX6_cut_44 rfl (lv_topl (fun v31 ev31 => ?_))
    have ev31i : v31.toInt = v30.toInt := l_ofi ev31.symm rfl
    have hcut : v31 = cutJ (sI H0 h0 (X.1.2 6 1)).toInt p1 := by unfold cutJ; (repeat' split) <;> first | omega | (subst_vars; rfl)
    exact ret v31 H0 [] _ _ dX6_cut_45 ⟨rfl, hcut⟩ hC0 hS0
  refine lv_tableOut hx hb dX6_cut_4 (by rw [show v21.toInt = v21.toInt from rfl]; omega) (tgt := 46) rfl ?_
  refine lv_lload_n hx hb dX6_cut_46 rfl (lv_at hl 1 rfl) ?_
  have hcut : p1 = cutJ (sI H0 h0 (X.1.2 6 1)).toInt p1 := by unfold cutJ; (repeat' split) <;> first | omega | (subst_vars; rfl)
  exact ret p1 H0 [] _ _ dX6_cut_47 ⟨rfl, hcut⟩ hC0 hS0
set_option maxRecDepth 100000 in
set_option maxHeartbeats 4000000 in
theorem m_X6_put (l : Launch) (X : xW) (Γ : Nat → Option Nat) (H0 : Heap) (hC0 : Conf X Γ H0) (h0 : Nat) (g0 : Γ h0 = some 1) (p1 : Int32) {a1 : Int} (e1 : p1.toInt = a1) (p2 : Int64) {a2 : Int} (e2 : p2.toInt = a2) : Ctr l X Γ yX6_put cX6_put 4 none 1 [.ref h0, .int p1, .long p2] H0 (QV X Γ (fun H1 => Kp X Γ [0, 3, 4, 5, 18, 21, 25, 27] H0 H1 ∧ ((0 ≤ a1 → a1 < (sI H0 h0 (X.1.2 6 2)).toInt → ∀ q, sR H0 h0 (X.1.2 6 0) = some q → NUp H0 H1 q (a1 : Int).toNat (cutJ (sI H0 h0 (X.1.2 6 1)).toInt p2))))) := by
  refine q_enterV (own := "SnowForts$Tray") (by decide) rfl (Nat.le_of_ble_eq_true rfl) ?_
  intro p e s m args below meth c ls Qz E hl ret hS0
  have hx := E.1; have hb := E.2.1
  have hKp0 : Kp X Γ [0, 3, 4, 5, 18, 21, 25, 27] H0 H0 := Kp.rf
  have hl : lv_has ls 4 [(0, .ref h0), (1, .int p1), (2, .long p2)] := hl
  refine lv_aload_n hx hb dX6_put_0 rfl (lv_at hl 0 rfl) ?_
  refine lv_iload_n hx hb dX6_put_1 rfl (lv_at hl 1 rfl) ?_
  refine q_goIp (q_runV (As := [.int p1]) (rest := []) E hC0 hS0 (m_X6_hasPlace l X Γ H0 hC0 h0 g0 p1 (a1 := a1) e1) cw_X6_hasPlace cl_RX6_28 g0 ⟨rfl, rfl⟩ rfl hl.1 rfl (Nat.zero_le _) (by decide) dX6_put_2) hS0 (fun v21 locs21 hr21 hS21 => ?_)
  rcases hr21 with ⟨rfl, f21a0, f21a1, f21a2⟩ | ⟨rfl, f21b⟩
  · refine q_if_eq hx hb (a := 1) (by decide) (tgt := 19) dX6_put_5 rfl (fun c22 => absurd c22 (by omega)) (fun c22 => ?_)
    refine lv_aload_n hx hb dX6_put_8 rfl (lv_at hl 0 rfl) ?_
    refine q_getR E hC0 g0 fa_RX6_9 dX6_put_9 (fun q23 eq23 gq23 => ?_)
    have eqn := eq23
    refine lv_iload_n hx hb dX6_put_12 rfl (lv_at hl 1 rfl) ?_
    refine lv_aload_n hx hb dX6_put_13 rfl (lv_at hl 0 rfl) ?_
    refine lv_lload_n hx hb dX6_put_14 rfl (lv_at hl 2 rfl) ?_
    refine q_goJp (q_runV (As := [.long p2]) (rest := [.int p1, .ref q23]) E hC0 hS21 (m_X6_cut l X Γ H0 hC0 h0 g0 p2 (a1 := a2) e2) cw_X6_cut cl_RX6_32 g0 ⟨rfl, rfl⟩ rfl hl.1 rfl (show _ ≤ _ from by simp [Value.category]) (by decide) dX6_put_15) hS21 (fun v24 locs24 hr24 hS24 => ?_)
    have f24_0 := hr24
    have hcv := f24_0
    refine q_last2 E hC0 hS24 gq23 (by decide) rfl rfl (fun _ => rfl) (a := a1) e1 (by omega) (by omega) dX6_put_18 (fun H25 locs25 hC25 hS25 U25 => ?_)
    have hKp25 := Kp.upA gq23 rfl (by decide) rfl U25 hKp0
    have hnp0 : 0 ≤ a1 → a1 < (sI H0 h0 (X.1.2 6 2)).toInt → ∀ q, sR H0 h0 (X.1.2 6 0) = some q → NUp H0 H25 q (a1 : Int).toNat (cutJ (sI H0 h0 (X.1.2 6 1)).toInt p2) := fun _ _ q hq => by cases Option.some.inj (eqn.symm.trans hq); rw [← hcv]; exact NUp.mk U25
    have hnp : 0 ≤ a1 → a1 < (sI H0 h0 (X.1.2 6 2)).toInt → ∀ q, sR H0 h0 (X.1.2 6 0) = some q → NUp H0 H25 q (a1 : Int).toNat (cutJ (sI H0 h0 (X.1.2 6 1)).toInt p2) := by first | exact hnp0 | exact fun h1 h2 => absurd h2 (by omega)
    exact ret H25 locs25 _ _ dX6_put_19 ⟨hKp25, hnp⟩ hC25 hS25
  · refine q_if_eq hx hb (a := 0) (by decide) (tgt := 19) dX6_put_5 rfl (fun c26 => ?_) (fun c26 => absurd c26 (by omega))
    have hnp : 0 ≤ a1 → a1 < (sI H0 h0 (X.1.2 6 2)).toInt → ∀ q, sR H0 h0 (X.1.2 6 0) = some q → NUp H0 H0 q (a1 : Int).toNat (cutJ (sI H0 h0 (X.1.2 6 1)).toInt p2) := by first | exact hnp0 | exact fun h1 h2 => absurd h2 (by omega)
    exact ret H0 locs21 _ _ dX6_put_19 ⟨hKp0, hnp⟩ hC0 hS21
set_option maxRecDepth 100000 in
set_option maxHeartbeats 4000000 in
theorem m_X11_write (l : Launch) (X : xW) (Γ : Nat → Option Nat) (H0 : Heap) (hC0 : Conf X Γ H0) (h0 : Nat) (g0 : Γ h0 = some 0) (p1 : Int32) {a1 : Int} (e1 : p1.toInt = a1) (p2 : Int32) {a2 : Int} (e2 : p2.toInt = a2) (p3 : Int64) {a3 : Int} (e3 : p3.toInt = a3) (ta : Nat) (td nd : Nat → Nat) (sh : SHP X Γ H0 h0 ta td nd) : Ctr l X Γ yX11_write cX11_write 6 (some .boolean) 3 [.ref h0, .int p1, .int p2, .long p3] H0 (QI X Γ (fun v H1 => Kp X Γ [0, 3, 4, 5, 18, 21, 25, 27] H0 H1 ∧ (((0 ≤ a1 ∧ a1 ≤ 3 ∧ 0 ≤ a2 ∧ a2 < (sI H0 (td (a1 : Int).toNat) (X.1.2 6 2)).toInt ∧ v.toInt = 1 ∧ NWr (nC nd H0) (nC nd H1) a1 a2 (cutJ (sI H0 (td (a1 : Int).toNat) (X.1.2 6 1)).toInt p3)) ∨ ((a1 < 0 ∨ 3 < a1 ∨ a2 < 0 ∨ (sI H0 (td (a1 : Int).toNat) (X.1.2 6 2)).toInt ≤ a2) ∧ v.toInt = 0 ∧ NSm (nC nd H0) (nC nd H1)))))) := by
  refine q_enterZ (own := "SnowForts") (by decide) rfl (Nat.le_of_ble_eq_true rfl) ?_
  intro p e s m args below meth c ls Qz E hl ret hS0
  have hx := E.1; have hb := E.2.1
  have hKp0 : Kp X Γ [0, 3, 4, 5, 18, 21, 25, 27] H0 H0 := Kp.rf
  have hl : lv_has ls 6 [(0, .ref h0), (1, .int p1), (2, .int p2), (3, .long p3)] := hl
  have ncs : NSm (nC nd H0) (nC nd H0) := NSm.rf
  refine lv_aload_n hx hb dX11_write_0 rfl (lv_at hl 0 rfl) ?_
  refine lv_iload_n hx hb dX11_write_1 rfl (lv_at hl 1 rfl) ?_
  refine lv_iload_n hx hb dX11_write_2 rfl (lv_at hl 2 rfl) ?_
  refine q_goIp (q_runV (As := [.int p1, .int p2]) (rest := []) E hC0 hS0 (m_X11_whyNotPlace l X Γ H0 hC0 h0 g0 p1 (a1 := a1) e1 p2 (a2 := a2) e2 ta td nd sh) cw_X11_whyNotPlace cl_RX11_138 g0 ⟨rfl, rfl⟩ rfl hl.1 rfl (Nat.zero_le _) (by decide) dX11_write_3) hS0 (fun v21 locs21 hr21 hS21 => ?_)
  have f21_0 := hr21
  refine lv_istore hx hb dX11_write_6 hl (by decide) rfl (fun ls hl => ?_)
  replace hl : lv_has ls 6 [(5, .int v21), (0, .ref h0), (1, .int p1), (2, .int p2), (3, .long p3)] := hl
  refine lv_iload hx hb dX11_write_8 (lv_at hl 0 rfl) ?_
  refine q_if_ne hx hb (a := v21.toInt) rfl (tgt := 20) dX11_write_10 rfl (fun c22 => ?_) (fun c22 => ?_)
  · refine lv_aload_n hx hb dX11_write_20 rfl (lv_at hl 1 rfl) ?_
    refine lv_iload hx hb dX11_write_21 (lv_at hl 0 rfl) ?_
    refine q_goI (q_runV (As := [.int v21]) (rest := []) E hC0 hS21 (m_X11_deny l X Γ H0 hC0 h0 g0 v21 (a1 := v21.toInt) rfl) cw_X11_deny cl_RX11_128 g0 ⟨rfl, rfl⟩ rfl hl.1 rfl (Nat.zero_le _) (by decide) dX11_write_23) hS21 (fun v23 H23 locs23 hr23 hC23 hS23 => ?_)
    obtain ⟨hp23, hr23⟩ := hr23
    have hKp23 := hKp0.tr (hp23.mono rfl)
    replace ncs : NSm (nC nd H0) (nC nd H23) := nC_kp ncs hp23 sh rfl
    rcases hr23 with ⟨rfl, f23a⟩ | ⟨rfl, -⟩
    · exact absurd f23a (by decide)
    · have hpost : (0 ≤ a1 ∧ a1 ≤ 3 ∧ 0 ≤ a2 ∧ a2 < (sI H0 (td (a1 : Int).toNat) (X.1.2 6 2)).toInt ∧ (0 : Int32).toInt = 1 ∧ NWr (nC nd H0) (nC nd H23) a1 a2 (cutJ (sI H0 (td (a1 : Int).toNat) (X.1.2 6 1)).toInt p3)) ∨ ((a1 < 0 ∨ 3 < a1 ∨ a2 < 0 ∨ (sI H0 (td (a1 : Int).toNat) (X.1.2 6 2)).toInt ≤ a2) ∧ (0 : Int32).toInt = 0 ∧ NSm (nC nd H0) (nC nd H23)) := Or.inr ⟨by omega, by decide, ncs⟩
      have c24 : (0 : Int32).toInt = 0 := (by decide)
      exact ret 0 H23 locs23 _ _ dX11_write_26 (Or.inl rfl) ⟨hKp23, hpost⟩ hC23 hS23
  · refine lv_iload_n hx hb dX11_write_13 rfl (lv_at hl 2 rfl) ?_
    refine q_goIp (q_runS (As := [.int p1]) (rest := []) E hS21 (m_X11_isTray l X Γ H0 hC0 p1 (a0 := a1) e1) cw_X11_isTray cl_RX11_117 rfl hl.1 rfl (Nat.zero_le _) (by decide) dX11_write_14) hS21 (fun v25 locs25 hr25 hS25 => ?_)
    rcases hr25 with ⟨rfl, f25a0, f25a1⟩ | ⟨rfl, f25b⟩
    · refine q_if_ne hx hb (a := 1) (by decide) (tgt := 27) dX11_write_17 rfl (fun c26 => ?_) (fun c26 => absurd c26 (by omega))
      refine lv_aload_n hx hb dX11_write_27 rfl (lv_at hl 1 rfl) ?_
      refine q_getS E hC0 g0 fa_RX11_10 sh.2.1 dX11_write_28 (fun _ => ?_)
      refine lv_iload_n hx hb dX11_write_31 rfl (lv_at hl 2 rfl) ?_
      refine q_aaldS E hC0 sh.1 rfl rfl (fun _ => rfl) (C := "SnowForts$Tray") rfl (z := a1) e1 (by omega) (by omega) ((sh.2.2.1 _ (by omega)).1) dX11_write_32 (fun g27 => ?_)
      refine lv_iload_n hx hb dX11_write_33 rfl (lv_at hl 3 rfl) ?_
      refine lv_lload_n hx hb dX11_write_34 rfl (lv_at hl 4 rfl) ?_
      refine q_goV (q_runV (As := [.int p2, .long p3]) (rest := []) E hC0 hS25 (m_X6_put l X Γ H0 hC0 (td (a1 : Int).toNat) g27 p2 (a1 := a2) e2 p3 (a2 := a3) e3) cw_X6_put cl_RX11_142 g27 ⟨rfl, rfl⟩ rfl hl.1 rfl (Nat.zero_le _) (by decide) dX11_write_35) hS25 (fun H28 locs28 hr28 hC28 hS28 => ?_)
      obtain ⟨hp28, hr28⟩ := hr28
      have hKp28 := hKp0.tr (hp28.mono rfl)
      have f28_0 := hr28
      have nwr : NWr (nC nd H0) (nC nd H28) a1 a2 (cutJ (sI H0 (td (a1 : Int).toNat) (X.1.2 6 1)).toInt p3) := NUp.wr sh (z := (a1 : Int).toNat) (k := (a2 : Int).toNat) (by omega) (by omega) (by omega) (f28_0 (by omega) (by omega) _ ((sh.2.2.2.2.1 _ (by omega)).1))
      refine lv_aload_n hx hb dX11_write_38 rfl (lv_at hl 1 rfl) ?_
      refine q_goI (q_runV (As := []) (rest := []) E hC28 hS28 (m_X11_grant l X Γ H28 hC28 h0 g0) cw_X11_grant cl_RX11_135 g0 ⟨rfl, rfl⟩ rfl hl.1 rfl (Nat.zero_le _) (by decide) dX11_write_39) hS28 (fun v29 H29 locs29 hr29 hC29 hS29 => ?_)
      obtain ⟨hp29, hr29⟩ := hr29
      have hKp29 := hKp28.tr (hp29.mono rfl)
      replace nwr : NWr (nC nd H0) (nC nd H29) a1 a2 (cutJ (sI H0 (td (a1 : Int).toNat) (X.1.2 6 1)).toInt p3) := NWr.sm nwr (nC_kp NSm.rf hp29 sh rfl)
      rcases hr29 with ⟨rfl, -⟩ | ⟨rfl, f29b⟩
      · have hpost : (0 ≤ a1 ∧ a1 ≤ 3 ∧ 0 ≤ a2 ∧ a2 < (sI H0 (td (a1 : Int).toNat) (X.1.2 6 2)).toInt ∧ (1 : Int32).toInt = 1 ∧ NWr (nC nd H0) (nC nd H29) a1 a2 (cutJ (sI H0 (td (a1 : Int).toNat) (X.1.2 6 1)).toInt p3)) ∨ ((a1 < 0 ∨ 3 < a1 ∨ a2 < 0 ∨ (sI H0 (td (a1 : Int).toNat) (X.1.2 6 2)).toInt ≤ a2) ∧ (1 : Int32).toInt = 0 ∧ NSm (nC nd H0) (nC nd H29)) := Or.inl ⟨by omega, by omega, by omega, by omega, by decide, nwr⟩
        have c30 : (1 : Int32).toInt = 1 := (by decide)
        exact ret 1 H29 locs29 _ _ dX11_write_42 (Or.inr rfl) ⟨hKp29, hpost⟩ hC29 hS29
      · exact absurd f29b (by decide)
    · refine q_if_ne hx hb (a := 0) (by decide) (tgt := 27) dX11_write_17 rfl (fun c31 => absurd c31 (by omega)) (fun c31 => ?_)
      refine lv_aload_n hx hb dX11_write_20 rfl (lv_at hl 1 rfl) ?_
      refine lv_iload hx hb dX11_write_21 (lv_at hl 0 rfl) ?_
      refine q_goI (q_runV (As := [.int v21]) (rest := []) E hC0 hS25 (m_X11_deny l X Γ H0 hC0 h0 g0 v21 (a1 := v21.toInt) rfl) cw_X11_deny cl_RX11_128 g0 ⟨rfl, rfl⟩ rfl hl.1 rfl (Nat.zero_le _) (by decide) dX11_write_23) hS25 (fun v32 H32 locs32 hr32 hC32 hS32 => ?_)
      obtain ⟨hp32, hr32⟩ := hr32
      have hKp32 := hKp0.tr (hp32.mono rfl)
      replace ncs : NSm (nC nd H0) (nC nd H32) := nC_kp ncs hp32 sh rfl
      rcases hr32 with ⟨rfl, f32a⟩ | ⟨rfl, -⟩
      · exact absurd f32a (by decide)
      · have hpost : (0 ≤ a1 ∧ a1 ≤ 3 ∧ 0 ≤ a2 ∧ a2 < (sI H0 (td (a1 : Int).toNat) (X.1.2 6 2)).toInt ∧ (0 : Int32).toInt = 1 ∧ NWr (nC nd H0) (nC nd H32) a1 a2 (cutJ (sI H0 (td (a1 : Int).toNat) (X.1.2 6 1)).toInt p3)) ∨ ((a1 < 0 ∨ 3 < a1 ∨ a2 < 0 ∨ (sI H0 (td (a1 : Int).toNat) (X.1.2 6 2)).toInt ≤ a2) ∧ (0 : Int32).toInt = 0 ∧ NSm (nC nd H0) (nC nd H32)) := Or.inr ⟨by omega, by decide, ncs⟩
        have c33 : (0 : Int32).toInt = 0 := (by decide)
        exact ret 0 H32 locs32 _ _ dX11_write_26 (Or.inl rfl) ⟨hKp32, hpost⟩ hC32 hS32
set_option maxRecDepth 100000 in
set_option maxHeartbeats 4000000 in
theorem m_X11_refuse (l : Launch) (X : xW) (Γ : Nat → Option Nat) (H0 : Heap) (hC0 : Conf X Γ H0) (h0 : Nat) (g0 : Γ h0 = some 0) (p1 : Int32) {a1 : Int} (e1 : p1.toInt = a1) : Ctr l X Γ yX11_refuse cX11_refuse 2 (some .int) 0 [.ref h0, .int p1] H0 (QI X Γ (fun v H1 => Kp X Γ [0, 2, 3, 4, 5, 18, 21, 23, 25, 27] H0 H1 ∧ ((v.toInt = -1)))) := by
  refine q_enterI (own := "SnowForts") (by decide) rfl (Nat.le_of_ble_eq_true rfl) ?_
  intro p e s m args below meth c ls Qz E hl ret hS0
  have hx := E.1; have hb := E.2.1
  have hKp0 : Kp X Γ [0, 2, 3, 4, 5, 18, 21, 23, 25, 27] H0 H0 := Kp.rf
  have hl : lv_has ls 2 [(0, .ref h0), (1, .int p1)] := hl
  refine lv_aload_n hx hb dX11_refuse_0 rfl (lv_at hl 0 rfl) ?_
  refine lv_iload_n hx hb dX11_refuse_1 rfl (lv_at hl 1 rfl) ?_
  refine q_put E hC0 hS0 g0 fp_RX11_102 tv_F rfl rfl dX11_refuse_2 (fun H21 locs21 hC21 hS21 U21 => ?_)
  have hKp21 := Kp.upO E g0 fp_RX11_102 rfl U21 hKp0
  have e22 := up_I U21
  refine lv_iconst (v := (-1)) hx hb dX11_refuse_5 rfl ?_
  have c23 : ((-1) : Int32).toInt = (-1) := (by decide)
  exact ret (-1) H21 locs21 _ _ dX11_refuse_6 ⟨hKp21, by omega⟩ hC21 hS21
set_option maxRecDepth 100000 in
set_option maxHeartbeats 4000000 in
theorem m_X6_numberAt (l : Launch) (X : xW) (Γ : Nat → Option Nat) (H0 : Heap) (hC0 : Conf X Γ H0) (h0 : Nat) (g0 : Γ h0 = some 1) (p1 : Int32) {a1 : Int} (e1 : p1.toInt = a1) : Ctr l X Γ yX6_numberAt cX6_numberAt 2 (some .long) 1 [.ref h0, .int p1] H0 (QJ X Γ (fun v H1 => H1 = H0 ∧ ((∀ q, sR H0 h0 (X.1.2 6 0) = some q → 0 ≤ a1 → a1 < (sI H0 h0 (X.1.2 6 2)).toInt → v = sJ H0 q (a1 : Int).toNat)))) := by
  refine q_enterJ (own := "SnowForts$Tray") (by decide) rfl (Nat.le_of_ble_eq_true rfl) ?_
  intro p e s m args below meth c ls Qz E hl ret hS0
  have hx := E.1; have hb := E.2.1
  have hl : lv_has ls 2 [(0, .ref h0), (1, .int p1)] := hl
  refine lv_aload_n hx hb dX6_numberAt_0 rfl (lv_at hl 0 rfl) ?_
  refine lv_iload_n hx hb dX6_numberAt_1 rfl (lv_at hl 1 rfl) ?_
  refine q_goIp (q_runV (As := [.int p1]) (rest := []) E hC0 hS0 (m_X6_hasPlace l X Γ H0 hC0 h0 g0 p1 (a1 := a1) e1) cw_X6_hasPlace cl_RX6_28 g0 ⟨rfl, rfl⟩ rfl hl.1 rfl (Nat.zero_le _) (by decide) dX6_numberAt_2) hS0 (fun v21 locs21 hr21 hS21 => ?_)
  rcases hr21 with ⟨rfl, f21a0, f21a1, f21a2⟩ | ⟨rfl, f21b⟩
  · refine q_if_eq hx hb (a := 1) (by decide) (tgt := 17) dX6_numberAt_5 rfl (fun c22 => absurd c22 (by omega)) (fun c22 => ?_)
    refine lv_aload_n hx hb dX6_numberAt_8 rfl (lv_at hl 0 rfl) ?_
    refine q_getR E hC0 g0 fa_RX6_9 dX6_numberAt_9 (fun q23 eq23 gq23 => ?_)
    have eqn := eq23
    refine lv_iload_n hx hb dX6_numberAt_12 rfl (lv_at hl 1 rfl) ?_
    refine q_lald2 E hC0 gq23 rfl rfl (fun _ => rfl) (a := a1) e1 (by omega) (by omega) dX6_numberAt_13 (fun v24 ev24 => ?_)
    have hna : ∀ q, sR H0 h0 (X.1.2 6 0) = some q → 0 ≤ a1 → a1 < (sI H0 h0 (X.1.2 6 2)).toInt → (v24 : Int64) = sJ H0 q (a1 : Int).toNat := fun q hq _ _ => by cases Option.some.inj (eqn.symm.trans hq); exact ev24.symm
    refine lv_goto (tgt := 20) hx hb dX6_numberAt_14 rfl ?_
    exact ret v24 H0 locs21 _ _ dX6_numberAt_20 ⟨rfl, hna⟩ hC0 hS21
  · refine q_if_eq hx hb (a := 0) (by decide) (tgt := 17) dX6_numberAt_5 rfl (fun c25 => ?_) (fun c25 => absurd c25 (by omega))
    have hna : ∀ q, sR H0 h0 (X.1.2 6 0) = some q → 0 ≤ a1 → a1 < (sI H0 h0 (X.1.2 6 2)).toInt → (-1 : Int64) = sJ H0 q (a1 : Int).toNat := fun q hq h1 h2 => absurd h1 (by omega)
    refine lv_ldc2 (v := (-1)) hx hb E.2.2.2.1 (E.2.2.2.2.1 _ w_534) dX6_numberAt_17 ?_
    exact ret (-1) H0 locs21 _ _ dX6_numberAt_20 ⟨rfl, hna⟩ hC0 hS21
set_option maxRecDepth 100000 in
set_option maxHeartbeats 4000000 in
theorem m_X11_read (l : Launch) (X : xW) (Γ : Nat → Option Nat) (H0 : Heap) (hC0 : Conf X Γ H0) (h0 : Nat) (g0 : Γ h0 = some 0) (p1 : Int32) {a1 : Int} (e1 : p1.toInt = a1) (p2 : Int32) {a2 : Int} (e2 : p2.toInt = a2) (ta : Nat) (td nd : Nat → Nat) (sh : SHP X Γ H0 h0 ta td nd) : Ctr l X Γ yX11_read cX11_read 4 (some .long) 3 [.ref h0, .int p1, .int p2] H0 (QJ X Γ (fun v H1 => Kp X Γ [0, 2, 3, 4, 5, 18, 21, 23, 25, 27] H0 H1 ∧ (((0 ≤ a1 ∧ a1 ≤ 3 ∧ 0 ≤ a2 ∧ a2 < (sI H0 (td (a1 : Int).toNat) (X.1.2 6 2)).toInt ∧ v = nC nd H0 (a1 : Int).toNat (a2 : Int).toNat) ∨ ((a1 < 0 ∨ 3 < a1 ∨ a2 < 0 ∨ (sI H0 (td (a1 : Int).toNat) (X.1.2 6 2)).toInt ≤ a2) ∧ v.toInt = -1))))) := by
  refine q_enterJ (own := "SnowForts") (by decide) rfl (Nat.le_of_ble_eq_true rfl) ?_
  intro p e s m args below meth c ls Qz E hl ret hS0
  have hx := E.1; have hb := E.2.1
  have hKp0 : Kp X Γ [0, 2, 3, 4, 5, 18, 21, 23, 25, 27] H0 H0 := Kp.rf
  have hl : lv_has ls 4 [(0, .ref h0), (1, .int p1), (2, .int p2)] := hl
  have ncs : NSm (nC nd H0) (nC nd H0) := NSm.rf
  have tsm : TSm X td H0 H0 := TSm.rf
  refine lv_aload_n hx hb dX11_read_0 rfl (lv_at hl 0 rfl) ?_
  refine lv_iload_n hx hb dX11_read_1 rfl (lv_at hl 1 rfl) ?_
  refine lv_iload_n hx hb dX11_read_2 rfl (lv_at hl 2 rfl) ?_
  refine q_goIp (q_runV (As := [.int p1, .int p2]) (rest := []) E hC0 hS0 (m_X11_whyNotPlace l X Γ H0 hC0 h0 g0 p1 (a1 := a1) e1 p2 (a2 := a2) e2 ta td nd sh) cw_X11_whyNotPlace cl_RX11_138 g0 ⟨rfl, rfl⟩ rfl hl.1 rfl (Nat.zero_le _) (by decide) dX11_read_3) hS0 (fun v21 locs21 hr21 hS21 => ?_)
  have f21_0 := hr21
  refine lv_istore_n hx hb dX11_read_6 rfl hl (by decide) rfl (fun ls hl => ?_)
  replace hl : lv_has ls 4 [(3, .int v21), (0, .ref h0), (1, .int p1), (2, .int p2)] := hl
  refine lv_iload_n hx hb dX11_read_7 rfl (lv_at hl 0 rfl) ?_
  refine q_if_ne hx hb (a := v21.toInt) rfl (tgt := 18) dX11_read_8 rfl (fun c22 => ?_) (fun c22 => ?_)
  · refine lv_aload_n hx hb dX11_read_18 rfl (lv_at hl 1 rfl) ?_
    refine lv_iload_n hx hb dX11_read_19 rfl (lv_at hl 0 rfl) ?_
    refine q_goI (q_runV (As := [.int v21]) (rest := []) E hC0 hS21 (m_X11_refuse l X Γ H0 hC0 h0 g0 v21 (a1 := v21.toInt) rfl) cw_X11_refuse cl_RX11_146 g0 ⟨rfl, rfl⟩ rfl hl.1 rfl (Nat.zero_le _) (by decide) dX11_read_20) hS21 (fun v23 H23 locs23 hr23 hC23 hS23 => ?_)
    obtain ⟨hp23, hr23⟩ := hr23
    have hKp23 := hKp0.tr (hp23.mono rfl)
    replace ncs : NSm (nC nd H0) (nC nd H23) := nC_kp ncs hp23 sh rfl
    replace tsm : TSm X td H0 H23 := TSm.kp tsm hp23 sh rfl
    have f23_0 := hr23
    refine lv_i2l (v := v23.toInt64) hx hb dX11_read_23 rfl (lv_topl (fun v24 ev24 => ?_))
    have ev24i : v24.toInt = v23.toInt := l_ofi ev24.symm rfl
    have hpost : (0 ≤ a1 ∧ a1 ≤ 3 ∧ 0 ≤ a2 ∧ a2 < (sI H0 (td (a1 : Int).toNat) (X.1.2 6 2)).toInt ∧ (v24 : Int64) = nC nd H0 (a1 : Int).toNat (a2 : Int).toNat) ∨ ((a1 < 0 ∨ 3 < a1 ∨ a2 < 0 ∨ (sI H0 (td (a1 : Int).toNat) (X.1.2 6 2)).toInt ≤ a2) ∧ (v24 : Int64).toInt = -1) := Or.inr ⟨by omega, by omega⟩
    exact ret v24 H23 locs23 _ _ dX11_read_24 ⟨hKp23, hpost⟩ hC23 hS23
  · refine lv_iload_n hx hb dX11_read_11 rfl (lv_at hl 2 rfl) ?_
    refine q_goIp (q_runS (As := [.int p1]) (rest := []) E hS21 (m_X11_isTray l X Γ H0 hC0 p1 (a0 := a1) e1) cw_X11_isTray cl_RX11_117 rfl hl.1 rfl (Nat.zero_le _) (by decide) dX11_read_12) hS21 (fun v25 locs25 hr25 hS25 => ?_)
    rcases hr25 with ⟨rfl, f25a0, f25a1⟩ | ⟨rfl, f25b⟩
    · refine q_if_ne hx hb (a := 1) (by decide) (tgt := 25) dX11_read_15 rfl (fun c26 => ?_) (fun c26 => absurd c26 (by omega))
      refine lv_aload_n hx hb dX11_read_25 rfl (lv_at hl 1 rfl) ?_
      refine lv_iconst (v := 0) hx hb dX11_read_26 rfl ?_
      refine q_put E hC0 hS25 g0 fp_RX11_102 tv_F rfl rfl dX11_read_27 (fun H27 locs27 hC27 hS27 U27 => ?_)
      have hKp27 := Kp.upO E g0 fp_RX11_102 rfl U27 hKp0
      have e28 := up_I U27
      replace ncs : NSm (nC nd H0) (nC nd H27) := nC_ne ncs U27 (sh.neN g0 (by decide))
      replace tsm : TSm X td H0 H27 := TSm.ne tsm U27 (sh.ne g0 (by decide))
      refine lv_aload_n hx hb dX11_read_30 rfl (lv_at hl 1 rfl) ?_
      refine q_getS E hC27 g0 fa_RX11_10 (sh.kp g0 hKp27 rfl).2.1 dX11_read_31 (fun _ => ?_)
      refine lv_iload_n hx hb dX11_read_34 rfl (lv_at hl 2 rfl) ?_
      refine q_aaldS E hC27 sh.1 rfl rfl (fun _ => rfl) (C := "SnowForts$Tray") rfl (z := a1) e1 (by omega) (by omega) (((sh.kp g0 hKp27 rfl).2.2.1 _ (by omega)).1) dX11_read_35 (fun g29 => ?_)
      refine lv_iload_n hx hb dX11_read_36 rfl (lv_at hl 3 rfl) ?_
      refine q_goJp (q_runV (As := [.int p2]) (rest := []) E hC27 hS27 (m_X6_numberAt l X Γ H27 hC27 (td (a1 : Int).toNat) g29 p2 (a1 := a2) e2) cw_X6_numberAt cl_RX11_150 g29 ⟨rfl, rfl⟩ rfl hl.1 rfl (Nat.zero_le _) (by decide) dX11_read_37) hS27 (fun v30 locs30 hr30 hS30 => ?_)
      have f30_0 := hr30
      have hrd := f30_0
      have ht := tsm (a1 : Int).toNat
      have hb6 := f_bd hC0 ((sh.2.2.1 (a1 : Int).toNat (by omega)).2) (ci := 6) (k := 2) rfl rfl
      have hpost : (0 ≤ a1 ∧ a1 ≤ 3 ∧ 0 ≤ a2 ∧ a2 < (sI H0 (td (a1 : Int).toNat) (X.1.2 6 2)).toInt ∧ (v30 : Int64) = nC nd H0 (a1 : Int).toNat (a2 : Int).toNat) ∨ ((a1 < 0 ∨ 3 < a1 ∨ a2 < 0 ∨ (sI H0 (td (a1 : Int).toNat) (X.1.2 6 2)).toInt ≤ a2) ∧ (v30 : Int64).toInt = -1) := Or.inl ⟨by omega, by omega, by omega, by omega, (hrd _ (((sh.kp g0 hKp27 rfl).2.2.2.2.1 _ (by omega)).1) (by omega) (by omega)).trans (ncs (a1 : Int).toNat (a2 : Int).toNat (by omega) (by omega))⟩
      exact ret v30 H27 locs30 _ _ dX11_read_40 ⟨hKp27, hpost⟩ hC27 hS30
    · refine q_if_ne hx hb (a := 0) (by decide) (tgt := 25) dX11_read_15 rfl (fun c31 => absurd c31 (by omega)) (fun c31 => ?_)
      refine lv_aload_n hx hb dX11_read_18 rfl (lv_at hl 1 rfl) ?_
      refine lv_iload_n hx hb dX11_read_19 rfl (lv_at hl 0 rfl) ?_
      refine q_goI (q_runV (As := [.int v21]) (rest := []) E hC0 hS25 (m_X11_refuse l X Γ H0 hC0 h0 g0 v21 (a1 := v21.toInt) rfl) cw_X11_refuse cl_RX11_146 g0 ⟨rfl, rfl⟩ rfl hl.1 rfl (Nat.zero_le _) (by decide) dX11_read_20) hS25 (fun v32 H32 locs32 hr32 hC32 hS32 => ?_)
      obtain ⟨hp32, hr32⟩ := hr32
      have hKp32 := hKp0.tr (hp32.mono rfl)
      replace ncs : NSm (nC nd H0) (nC nd H32) := nC_kp ncs hp32 sh rfl
      replace tsm : TSm X td H0 H32 := TSm.kp tsm hp32 sh rfl
      have f32_0 := hr32
      refine lv_i2l (v := v32.toInt64) hx hb dX11_read_23 rfl (lv_topl (fun v33 ev33 => ?_))
      have ev33i : v33.toInt = v32.toInt := l_ofi ev33.symm rfl
      have hpost : (0 ≤ a1 ∧ a1 ≤ 3 ∧ 0 ≤ a2 ∧ a2 < (sI H0 (td (a1 : Int).toNat) (X.1.2 6 2)).toInt ∧ (v33 : Int64) = nC nd H0 (a1 : Int).toNat (a2 : Int).toNat) ∨ ((a1 < 0 ∨ 3 < a1 ∨ a2 < 0 ∨ (sI H0 (td (a1 : Int).toNat) (X.1.2 6 2)).toInt ≤ a2) ∧ (v33 : Int64).toInt = -1) := Or.inr ⟨by omega, by omega⟩
      exact ret v33 H32 locs32 _ _ dX11_read_24 ⟨hKp32, hpost⟩ hC32 hS32
set_option maxRecDepth 100000 in
set_option maxHeartbeats 4000000 in
theorem m_X6_hasRow (l : Launch) (X : xW) (Γ : Nat → Option Nat) (H0 : Heap) (hC0 : Conf X Γ H0) (h0 : Nat) (g0 : Γ h0 = some 1) (p1 : Int32) {a1 : Int} (e1 : p1.toInt = a1) (p2 : Int32) {a2 : Int} (e2 : p2.toInt = a2) : Ctr l X Γ yX6_hasRow cX6_hasRow 3 (some .boolean) 0 [.ref h0, .int p1, .int p2] H0 (QI X Γ (fun v H1 => H1 = H0 ∧ ((v = 1 ∧ (0 ≤ a1 ∧ a1 + a2 ≤ 60 ∧ a1 ≤ (sI H0 h0 (X.1.2 6 2)).toInt ∧ a1 + a2 ≤ (sI H0 h0 (X.1.2 6 2)).toInt)) ∨ (v = 0 ∧ (a1 < 0 ∨ (sI H0 h0 (X.1.2 6 2)).toInt < a1 ∨ (sI H0 h0 (X.1.2 6 2)).toInt < a1 + a2))))) := by
  refine q_enterZ (own := "SnowForts$Tray") (by decide) rfl (Nat.le_of_ble_eq_true rfl) ?_
  intro p e s m args below meth c ls Qz E hl ret hS0
  have hx := E.1; have hb := E.2.1
  have hl : lv_has ls 3 [(0, .ref h0), (1, .int p1), (2, .int p2)] := hl
  have hz1 := f_bd hC0 g0 (ci := 6) (k := 2) rfl rfl
  refine lv_iload_n hx hb dX6_hasRow_0 rfl (lv_at hl 1 rfl) ?_
  refine q_if_lt hx hb (a := a1) e1 (tgt := 26) dX6_hasRow_1 rfl (fun c21 => ?_) (fun c21 => ?_)
  · refine lv_iconst (v := 0) hx hb dX6_hasRow_26 rfl ?_
    exact ret 0 H0 [] _ _ dX6_hasRow_27 (Or.inl rfl) ⟨rfl, Or.inr ⟨rfl, by omega⟩⟩ hC0 hS0
  · refine lv_iload_n hx hb dX6_hasRow_4 rfl (lv_at hl 1 rfl) ?_
    refine lv_aload_n hx hb dX6_hasRow_5 rfl (lv_at hl 0 rfl) ?_
    refine q_getI E hC0 g0 fa_RX6_15 dX6_hasRow_6 (fun v22 ev22 lv22 uv22 => ?_)
    have m23 : (sI H0 h0 (X.1.2 6 2)).toInt = v22.toInt := (congrArg Int32.toInt ev22).trans rfl
    refine q_icmp_gt hx hb (a := a1) (b := v22.toInt) e1 rfl (tgt := 26) dX6_hasRow_9 rfl (fun c24 => ?_) (fun c24 => ?_)
    · refine lv_iconst (v := 0) hx hb dX6_hasRow_26 rfl ?_
      exact ret 0 H0 [] _ _ dX6_hasRow_27 (Or.inl rfl) ⟨rfl, Or.inr ⟨rfl, by omega⟩⟩ hC0 hS0
    · refine lv_iload_n hx hb dX6_hasRow_12 rfl (lv_at hl 2 rfl) ?_
      refine lv_aload_n hx hb dX6_hasRow_13 rfl (lv_at hl 0 rfl) ?_
      refine q_getI E hC0 g0 fa_RX6_15 dX6_hasRow_14 (fun v25 ev25 lv25 uv25 => ?_)
      have qv25 := ev22.symm.trans ev25; subst qv25
      refine lv_iload_n hx hb dX6_hasRow_17 rfl (lv_at hl 1 rfl) ?_
      refine lv_isub hx hb dX6_hasRow_18 (lv_topi (fun v26 ev26 => ?_))
      have ev26i : v26.toInt = (v22.toInt - a1) := i_sub ev26 rfl e1 (by omega) (by omega)
      have c27 := i_rng p2; rw [show p2.toInt = a2 from e2] at c27
      refine q_icmp_gt hx hb (a := a2) (b := (v22.toInt - a1)) e2 ev26i (tgt := 26) dX6_hasRow_19 rfl (fun c28 => ?_) (fun c28 => ?_)
      · refine lv_iconst (v := 0) hx hb dX6_hasRow_26 rfl ?_
        exact ret 0 H0 [] _ _ dX6_hasRow_27 (Or.inl rfl) ⟨rfl, Or.inr ⟨rfl, by omega⟩⟩ hC0 hS0
      · refine lv_iconst (v := 1) hx hb dX6_hasRow_22 rfl ?_
        refine lv_goto (tgt := 27) hx hb dX6_hasRow_23 rfl ?_
        exact ret 1 H0 [] _ _ dX6_hasRow_27 (Or.inr rfl) ⟨rfl, Or.inl ⟨rfl, by omega, by omega, by omega, by omega⟩⟩ hC0 hS0
set_option maxRecDepth 100000 in
set_option maxHeartbeats 4000000 in
theorem m_X11_pour (l : Launch) (X : xW) (Γ : Nat → Option Nat) (H0 : Heap) (hC0 : Conf X Γ H0) (h0 : Nat) (g0 : Γ h0 = some 0) (p1 : Int32) {a1 : Int} (e1 : p1.toInt = a1) (p2 : Int32) {a2 : Int} (e2 : p2.toInt = a2) (p3 : Int32) {a3 : Int} (e3 : p3.toInt = a3) (p4 : Int32) {a4 : Int} (e4 : p4.toInt = a4) (p5 : Int32) {a5 : Int} (e5 : p5.toInt = a5) (ta : Nat) (td nd : Nat → Nat) (sh : SHP X Γ H0 h0 ta td nd) : Ctr l X Γ yX11_pour cX11_pour 8 (some .boolean) 2 [.ref h0, .int p1, .int p2, .int p3, .int p4, .int p5] H0 (QI X Γ (fun v H1 => Kp X Γ [0, 3, 4, 5, 18, 21, 25, 27] H0 H1 ∧ (((0 ≤ a1 ∧ a1 ≤ 3 ∧ 0 ≤ a3 ∧ a3 ≤ 3 ∧ 0 ≤ (sI H0 (td (a1 : Int).toNat) (X.1.2 6 2)).toInt ∧ 0 ≤ (sI H0 (td (a3 : Int).toNat) (X.1.2 6 2)).toInt ∧ (sI H0 (td (a1 : Int).toNat) (X.1.2 6 1)).toInt = (sI H0 (td (a3 : Int).toNat) (X.1.2 6 1)).toInt ∧ 0 ≤ a5 ∧ 0 ≤ a2 ∧ a2 + a5 ≤ (sI H0 (td (a1 : Int).toNat) (X.1.2 6 2)).toInt ∧ 0 ≤ a4 ∧ a4 + a5 ≤ (sI H0 (td (a3 : Int).toNat) (X.1.2 6 2)).toInt ∧ v.toInt = 1 ∧ NPr (nC nd H0) (nC nd H1) a1 a2 a3 a4 0 a5) ∨ ((a1 < 0 ∨ 3 < a1 ∨ a3 < 0 ∨ 3 < a3 ∨ (sI H0 (td (a1 : Int).toNat) (X.1.2 6 2)).toInt < 0 ∨ (sI H0 (td (a3 : Int).toNat) (X.1.2 6 2)).toInt < 0 ∨ (sI H0 (td (a1 : Int).toNat) (X.1.2 6 1)).toInt ≠ (sI H0 (td (a3 : Int).toNat) (X.1.2 6 1)).toInt ∨ a5 < 0 ∨ a2 < 0 ∨ (sI H0 (td (a1 : Int).toNat) (X.1.2 6 2)).toInt < a2 + a5 ∨ a4 < 0 ∨ (sI H0 (td (a3 : Int).toNat) (X.1.2 6 2)).toInt < a4 + a5) ∧ v.toInt = 0 ∧ NSm (nC nd H0) (nC nd H1)))))) := by
  refine q_enterZ (own := "SnowForts") (by decide) rfl (Nat.le_of_ble_eq_true rfl) ?_
  intro p e s m args below meth c ls Qz E hl ret hS0
  have hx := E.1; have hb := E.2.1
  have hKp0 : Kp X Γ [0, 3, 4, 5, 18, 21, 25, 27] H0 H0 := Kp.rf
  have hl : lv_has ls 8 [(0, .ref h0), (1, .int p1), (2, .int p2), (3, .int p3), (4, .int p4), (5, .int p5)] := hl
  have ncs : NSm (nC nd H0) (nC nd H0) := NSm.rf
  refine lv_iload_n hx hb dX11_pour_0 rfl (lv_at hl 1 rfl) ?_
  refine q_goIp (q_runS (As := [.int p1]) (rest := []) E hS0 (m_X11_isTray l X Γ H0 hC0 p1 (a0 := a1) e1) cw_X11_isTray cl_RX11_117 rfl hl.1 rfl (Nat.zero_le _) (by decide) dX11_pour_1) hS0 (fun v21 locs21 hr21 hS21 => ?_)
  rcases hr21 with ⟨rfl, f21a0, f21a1⟩ | ⟨rfl, f21b⟩
  · refine q_if_eq hx hb (a := 1) (by decide) (tgt := 14) dX11_pour_4 rfl (fun c22 => absurd c22 (by omega)) (fun c22 => ?_)
    refine lv_iload_n hx hb dX11_pour_7 rfl (lv_at hl 3 rfl) ?_
    refine q_goIp (q_runS (As := [.int p3]) (rest := []) E hS21 (m_X11_isTray l X Γ H0 hC0 p3 (a0 := a3) e3) cw_X11_isTray cl_RX11_117 rfl hl.1 rfl (Nat.zero_le _) (by decide) dX11_pour_8) hS21 (fun v23 locs23 hr23 hS23 => ?_)
    rcases hr23 with ⟨rfl, f23a0, f23a1⟩ | ⟨rfl, f23b⟩
    · refine q_if_ne hx hb (a := 1) (by decide) (tgt := 20) dX11_pour_11 rfl (fun c24 => ?_) (fun c24 => absurd c24 (by omega))
      refine lv_aload_n hx hb dX11_pour_20 rfl (lv_at hl 0 rfl) ?_
      refine q_getS E hC0 g0 fa_RX11_10 sh.2.1 dX11_pour_21 (fun _ => ?_)
      refine lv_iload_n hx hb dX11_pour_24 rfl (lv_at hl 1 rfl) ?_
      refine q_aaldS E hC0 sh.1 rfl rfl (fun _ => rfl) (C := "SnowForts$Tray") rfl (z := a1) e1 (by omega) (by omega) ((sh.2.2.1 _ (by omega)).1) dX11_pour_25 (fun g25 => ?_)
      refine lv_astore hx hb dX11_pour_26 hl (by decide) rfl (fun ls hl => ?_)
      replace hl : lv_has ls 8 [(6, .ref (td (a1 : Int).toNat)), (0, .ref h0), (1, .int p1), (2, .int p2), (3, .int p3), (4, .int p4), (5, .int p5)] := hl
      refine lv_aload_n hx hb dX11_pour_28 rfl (lv_at hl 1 rfl) ?_
      refine q_getS E hC0 g0 fa_RX11_10 sh.2.1 dX11_pour_29 (fun _ => ?_)
      refine lv_iload_n hx hb dX11_pour_32 rfl (lv_at hl 4 rfl) ?_
      refine q_aaldS E hC0 sh.1 rfl rfl (fun _ => rfl) (C := "SnowForts$Tray") rfl (z := a3) e3 (by omega) (by omega) ((sh.2.2.1 _ (by omega)).1) dX11_pour_33 (fun g26 => ?_)
      refine lv_astore hx hb dX11_pour_34 hl (by decide) rfl (fun ls hl => ?_)
      replace hl : lv_has ls 8 [(7, .ref (td (a3 : Int).toNat)), (6, .ref (td (a1 : Int).toNat)), (0, .ref h0), (1, .int p1), (2, .int p2), (3, .int p3), (4, .int p4), (5, .int p5)] := hl
      refine lv_aload hx hb dX11_pour_36 (lv_at hl 1 rfl) ?_
      refine q_goIp (q_runV (As := []) (rest := []) E hC0 hS23 (m_X6_isMissing l X Γ H0 hC0 (td (a1 : Int).toNat) g25) cw_X6_isMissing cl_RX11_121 g25 ⟨rfl, rfl⟩ rfl hl.1 rfl (Nat.zero_le _) (by decide) dX11_pour_38) hS23 (fun v27 locs27 hr27 hS27 => ?_)
      rcases hr27 with ⟨rfl, f27a⟩ | ⟨rfl, f27b⟩
      · refine q_if_ne hx hb (a := 1) (by decide) (tgt := 52) dX11_pour_41 rfl (fun c28 => ?_) (fun c28 => absurd c28 (by omega))
        refine lv_aload_n hx hb dX11_pour_52 rfl (lv_at hl 2 rfl) ?_
        refine lv_iconst (v := 3) hx hb dX11_pour_53 rfl ?_
        refine q_goI (q_runV (As := [.int 3]) (rest := []) E hC0 hS27 (m_X11_deny l X Γ H0 hC0 h0 g0 3 (a1 := 3) (by decide)) cw_X11_deny cl_RX11_128 g0 ⟨rfl, rfl⟩ rfl hl.1 rfl (Nat.zero_le _) (by decide) dX11_pour_54) hS27 (fun v29 H29 locs29 hr29 hC29 hS29 => ?_)
        obtain ⟨hp29, hr29⟩ := hr29
        have hKp29 := hKp0.tr (hp29.mono rfl)
        replace ncs : NSm (nC nd H0) (nC nd H29) := nC_kp ncs hp29 sh rfl
        rcases hr29 with ⟨rfl, f29a⟩ | ⟨rfl, -⟩
        · exact absurd f29a (by decide)
        · have hpost : (0 ≤ a1 ∧ a1 ≤ 3 ∧ 0 ≤ a3 ∧ a3 ≤ 3 ∧ 0 ≤ (sI H0 (td (a1 : Int).toNat) (X.1.2 6 2)).toInt ∧ 0 ≤ (sI H0 (td (a3 : Int).toNat) (X.1.2 6 2)).toInt ∧ (sI H0 (td (a1 : Int).toNat) (X.1.2 6 1)).toInt = (sI H0 (td (a3 : Int).toNat) (X.1.2 6 1)).toInt ∧ 0 ≤ a5 ∧ 0 ≤ a2 ∧ a2 + a5 ≤ (sI H0 (td (a1 : Int).toNat) (X.1.2 6 2)).toInt ∧ 0 ≤ a4 ∧ a4 + a5 ≤ (sI H0 (td (a3 : Int).toNat) (X.1.2 6 2)).toInt ∧ (0 : Int32).toInt = 1 ∧ NPr (nC nd H0) (nC nd H29) a1 a2 a3 a4 0 a5) ∨ ((a1 < 0 ∨ 3 < a1 ∨ a3 < 0 ∨ 3 < a3 ∨ (sI H0 (td (a1 : Int).toNat) (X.1.2 6 2)).toInt < 0 ∨ (sI H0 (td (a3 : Int).toNat) (X.1.2 6 2)).toInt < 0 ∨ (sI H0 (td (a1 : Int).toNat) (X.1.2 6 1)).toInt ≠ (sI H0 (td (a3 : Int).toNat) (X.1.2 6 1)).toInt ∨ a5 < 0 ∨ a2 < 0 ∨ (sI H0 (td (a1 : Int).toNat) (X.1.2 6 2)).toInt < a2 + a5 ∨ a4 < 0 ∨ (sI H0 (td (a3 : Int).toNat) (X.1.2 6 2)).toInt < a4 + a5) ∧ (0 : Int32).toInt = 0 ∧ NSm (nC nd H0) (nC nd H29)) := Or.inr ⟨by omega, by decide, ncs⟩
          have c30 : (0 : Int32).toInt = 0 := (by decide)
          exact ret 0 H29 locs29 _ _ dX11_pour_57 (Or.inl rfl) ⟨hKp29, hpost⟩ hC29 hS29
      · refine q_if_ne hx hb (a := 0) (by decide) (tgt := 52) dX11_pour_41 rfl (fun c31 => absurd c31 (by omega)) (fun c31 => ?_)
        refine lv_aload hx hb dX11_pour_44 (lv_at hl 0 rfl) ?_
        refine q_goIp (q_runV (As := []) (rest := []) E hC0 hS27 (m_X6_isMissing l X Γ H0 hC0 (td (a3 : Int).toNat) g26) cw_X6_isMissing cl_RX11_121 g26 ⟨rfl, rfl⟩ rfl hl.1 rfl (Nat.zero_le _) (by decide) dX11_pour_46) hS27 (fun v32 locs32 hr32 hS32 => ?_)
        rcases hr32 with ⟨rfl, f32a⟩ | ⟨rfl, f32b⟩
        · refine q_if_eq hx hb (a := 1) (by decide) (tgt := 58) dX11_pour_49 rfl (fun c33 => absurd c33 (by omega)) (fun c33 => ?_)
          refine lv_aload_n hx hb dX11_pour_52 rfl (lv_at hl 2 rfl) ?_
          refine lv_iconst (v := 3) hx hb dX11_pour_53 rfl ?_
          refine q_goI (q_runV (As := [.int 3]) (rest := []) E hC0 hS32 (m_X11_deny l X Γ H0 hC0 h0 g0 3 (a1 := 3) (by decide)) cw_X11_deny cl_RX11_128 g0 ⟨rfl, rfl⟩ rfl hl.1 rfl (Nat.zero_le _) (by decide) dX11_pour_54) hS32 (fun v34 H34 locs34 hr34 hC34 hS34 => ?_)
          obtain ⟨hp34, hr34⟩ := hr34
          have hKp34 := hKp0.tr (hp34.mono rfl)
          replace ncs : NSm (nC nd H0) (nC nd H34) := nC_kp ncs hp34 sh rfl
          rcases hr34 with ⟨rfl, f34a⟩ | ⟨rfl, -⟩
          · exact absurd f34a (by decide)
          · have hpost : (0 ≤ a1 ∧ a1 ≤ 3 ∧ 0 ≤ a3 ∧ a3 ≤ 3 ∧ 0 ≤ (sI H0 (td (a1 : Int).toNat) (X.1.2 6 2)).toInt ∧ 0 ≤ (sI H0 (td (a3 : Int).toNat) (X.1.2 6 2)).toInt ∧ (sI H0 (td (a1 : Int).toNat) (X.1.2 6 1)).toInt = (sI H0 (td (a3 : Int).toNat) (X.1.2 6 1)).toInt ∧ 0 ≤ a5 ∧ 0 ≤ a2 ∧ a2 + a5 ≤ (sI H0 (td (a1 : Int).toNat) (X.1.2 6 2)).toInt ∧ 0 ≤ a4 ∧ a4 + a5 ≤ (sI H0 (td (a3 : Int).toNat) (X.1.2 6 2)).toInt ∧ (0 : Int32).toInt = 1 ∧ NPr (nC nd H0) (nC nd H34) a1 a2 a3 a4 0 a5) ∨ ((a1 < 0 ∨ 3 < a1 ∨ a3 < 0 ∨ 3 < a3 ∨ (sI H0 (td (a1 : Int).toNat) (X.1.2 6 2)).toInt < 0 ∨ (sI H0 (td (a3 : Int).toNat) (X.1.2 6 2)).toInt < 0 ∨ (sI H0 (td (a1 : Int).toNat) (X.1.2 6 1)).toInt ≠ (sI H0 (td (a3 : Int).toNat) (X.1.2 6 1)).toInt ∨ a5 < 0 ∨ a2 < 0 ∨ (sI H0 (td (a1 : Int).toNat) (X.1.2 6 2)).toInt < a2 + a5 ∨ a4 < 0 ∨ (sI H0 (td (a3 : Int).toNat) (X.1.2 6 2)).toInt < a4 + a5) ∧ (0 : Int32).toInt = 0 ∧ NSm (nC nd H0) (nC nd H34)) := Or.inr ⟨by omega, by decide, ncs⟩
            have c35 : (0 : Int32).toInt = 0 := (by decide)
            exact ret 0 H34 locs34 _ _ dX11_pour_57 (Or.inl rfl) ⟨hKp34, hpost⟩ hC34 hS34
        · refine q_if_eq hx hb (a := 0) (by decide) (tgt := 58) dX11_pour_49 rfl (fun c36 => ?_) (fun c36 => absurd c36 (by omega))
          refine lv_aload hx hb dX11_pour_58 (lv_at hl 1 rfl) ?_
          refine q_getI E hC0 g25 fa_RX11_154 dX11_pour_60 (fun v37 ev37 _ _ => ?_)
          have m38 : (sI H0 (td (a1 : Int).toNat) (X.1.2 6 1)).toInt = v37.toInt := congrArg Int32.toInt ev37
          refine lv_aload hx hb dX11_pour_63 (lv_at hl 0 rfl) ?_
          refine q_getI E hC0 g26 fa_RX11_154 dX11_pour_65 (fun v39 ev39 _ _ => ?_)
          have m40 : (sI H0 (td (a3 : Int).toNat) (X.1.2 6 1)).toInt = v39.toInt := congrArg Int32.toInt ev39
          have c41 := i_rng v37; rw [show v37.toInt = v37.toInt from rfl] at c41
          have c42 := i_rng v39; rw [show v39.toInt = v39.toInt from rfl] at c42
          refine q_icmp_eq hx hb (a := v37.toInt) (b := v39.toInt) rfl rfl (tgt := 78) dX11_pour_68 rfl (fun c43 => ?_) (fun c43 => ?_)
          · refine lv_iload hx hb dX11_pour_78 (lv_at hl 7 rfl) ?_
            refine q_if_ge hx hb (a := a5) e5 (tgt := 90) dX11_pour_80 rfl (fun c44 => ?_) (fun c44 => ?_)
            · refine lv_aload hx hb dX11_pour_90 (lv_at hl 1 rfl) ?_
              refine lv_iload_n hx hb dX11_pour_92 rfl (lv_at hl 4 rfl) ?_
              refine lv_iload hx hb dX11_pour_93 (lv_at hl 7 rfl) ?_
              refine q_goIp (q_runV (As := [.int p2, .int p5]) (rest := []) E hC0 hS32 (m_X6_hasRow l X Γ H0 hC0 (td (a1 : Int).toNat) g25 p2 (a1 := a2) e2 p5 (a2 := a5) e5) cw_X6_hasRow cl_RX11_157 g25 ⟨rfl, rfl⟩ rfl hl.1 rfl (Nat.zero_le _) (by decide) dX11_pour_95) hS32 (fun v45 locs45 hr45 hS45 => ?_)
              rcases hr45 with ⟨rfl, f45a0, f45a1, f45a2, f45a3⟩ | ⟨rfl, f45b⟩
              · refine q_if_eq hx hb (a := 1) (by decide) (tgt := 113) dX11_pour_98 rfl (fun c46 => absurd c46 (by omega)) (fun c46 => ?_)
                refine lv_aload hx hb dX11_pour_101 (lv_at hl 0 rfl) ?_
                refine lv_iload hx hb dX11_pour_103 (lv_at hl 6 rfl) ?_
                refine lv_iload hx hb dX11_pour_105 (lv_at hl 7 rfl) ?_
                refine q_goIp (q_runV (As := [.int p4, .int p5]) (rest := []) E hC0 hS45 (m_X6_hasRow l X Γ H0 hC0 (td (a3 : Int).toNat) g26 p4 (a1 := a4) e4 p5 (a2 := a5) e5) cw_X6_hasRow cl_RX11_157 g26 ⟨rfl, rfl⟩ rfl hl.1 rfl (Nat.zero_le _) (by decide) dX11_pour_107) hS45 (fun v47 locs47 hr47 hS47 => ?_)
                rcases hr47 with ⟨rfl, f47a0, f47a1, f47a2, f47a3⟩ | ⟨rfl, f47b⟩
                · refine q_if_ne hx hb (a := 1) (by decide) (tgt := 119) dX11_pour_110 rfl (fun c48 => ?_) (fun c48 => absurd c48 (by omega))
                  refine lv_aload hx hb dX11_pour_119 (lv_at hl 1 rfl) ?_
                  refine q_getS E hC0 g25 fa_RX11_161 ((sh.2.2.2.2.1 _ (by omega)).1) dX11_pour_121 (fun g49 => ?_)
                  refine lv_iload_n hx hb dX11_pour_124 rfl (lv_at hl 4 rfl) ?_
                  refine lv_aload hx hb dX11_pour_125 (lv_at hl 0 rfl) ?_
                  refine q_getS E hC0 g26 fa_RX11_161 ((sh.2.2.2.2.1 _ (by omega)).1) dX11_pour_127 (fun g50 => ?_)
                  refine lv_iload hx hb dX11_pour_130 (lv_at hl 6 rfl) ?_
                  refine lv_iload hx hb dX11_pour_132 (lv_at hl 7 rfl) ?_
                  refine q_copyJ E hl.1 w_543 arrw hC0 hS47 g49 g50 (by decide) rfl rfl rfl rfl (fun _ => rfl) (fun _ => rfl) (a := a2) (b := a4) (d := a5) e2 e4 e5 (by omega) (by omega) (by omega) (by omega) (by omega) (by decide) (Nat.zero_le _) dX11_pour_134 (fun H51 locs51 hC51 hS51 U51 => ?_)
                  obtain ⟨U51, C51⟩ := U51
                  have hKp51 := Kp.upC g50 rfl (by decide) rfl U51 hKp0
                  have npr : NPr (nC nd H0) (nC nd H51) a1 a2 a3 a4 0 a5 := nC_pr sh (z := (a1 : Int).toNat) (y := (a3 : Int).toNat) (by omega) (by omega) (by omega) (by omega) (by omega) U51 C51
                  refine lv_aload_n hx hb dX11_pour_137 rfl (lv_at hl 2 rfl) ?_
                  refine q_goI (q_runV (As := []) (rest := []) E hC51 hS51 (m_X11_grant l X Γ H51 hC51 h0 g0) cw_X11_grant cl_RX11_135 g0 ⟨rfl, rfl⟩ rfl hl.1 rfl (Nat.zero_le _) (by decide) dX11_pour_138) hS51 (fun v52 H52 locs52 hr52 hC52 hS52 => ?_)
                  obtain ⟨hp52, hr52⟩ := hr52
                  have hKp52 := hKp51.tr (hp52.mono rfl)
                  replace npr : NPr (nC nd H0) (nC nd H52) a1 a2 a3 a4 0 a5 := NPr.sm npr (nC_kp NSm.rf hp52 sh rfl)
                  rcases hr52 with ⟨rfl, -⟩ | ⟨rfl, f52b⟩
                  · have hpost : (0 ≤ a1 ∧ a1 ≤ 3 ∧ 0 ≤ a3 ∧ a3 ≤ 3 ∧ 0 ≤ (sI H0 (td (a1 : Int).toNat) (X.1.2 6 2)).toInt ∧ 0 ≤ (sI H0 (td (a3 : Int).toNat) (X.1.2 6 2)).toInt ∧ (sI H0 (td (a1 : Int).toNat) (X.1.2 6 1)).toInt = (sI H0 (td (a3 : Int).toNat) (X.1.2 6 1)).toInt ∧ 0 ≤ a5 ∧ 0 ≤ a2 ∧ a2 + a5 ≤ (sI H0 (td (a1 : Int).toNat) (X.1.2 6 2)).toInt ∧ 0 ≤ a4 ∧ a4 + a5 ≤ (sI H0 (td (a3 : Int).toNat) (X.1.2 6 2)).toInt ∧ (1 : Int32).toInt = 1 ∧ NPr (nC nd H0) (nC nd H52) a1 a2 a3 a4 0 a5) ∨ ((a1 < 0 ∨ 3 < a1 ∨ a3 < 0 ∨ 3 < a3 ∨ (sI H0 (td (a1 : Int).toNat) (X.1.2 6 2)).toInt < 0 ∨ (sI H0 (td (a3 : Int).toNat) (X.1.2 6 2)).toInt < 0 ∨ (sI H0 (td (a1 : Int).toNat) (X.1.2 6 1)).toInt ≠ (sI H0 (td (a3 : Int).toNat) (X.1.2 6 1)).toInt ∨ a5 < 0 ∨ a2 < 0 ∨ (sI H0 (td (a1 : Int).toNat) (X.1.2 6 2)).toInt < a2 + a5 ∨ a4 < 0 ∨ (sI H0 (td (a3 : Int).toNat) (X.1.2 6 2)).toInt < a4 + a5) ∧ (1 : Int32).toInt = 0 ∧ NSm (nC nd H0) (nC nd H52)) := Or.inl ⟨by omega, by omega, by omega, by omega, by omega, by omega, by omega, by omega, by omega, by omega, by omega, by omega, by decide, npr⟩
                    have c53 : (1 : Int32).toInt = 1 := (by decide)
                    exact ret 1 H52 locs52 _ _ dX11_pour_141 (Or.inr rfl) ⟨hKp52, hpost⟩ hC52 hS52
                  · exact absurd f52b (by decide)
                · refine q_if_ne hx hb (a := 0) (by decide) (tgt := 119) dX11_pour_110 rfl (fun c54 => absurd c54 (by omega)) (fun c54 => ?_)
                  refine lv_aload_n hx hb dX11_pour_113 rfl (lv_at hl 2 rfl) ?_
                  refine lv_iconst (v := 4) hx hb dX11_pour_114 rfl ?_
                  refine q_goI (q_runV (As := [.int 4]) (rest := []) E hC0 hS47 (m_X11_deny l X Γ H0 hC0 h0 g0 4 (a1 := 4) (by decide)) cw_X11_deny cl_RX11_128 g0 ⟨rfl, rfl⟩ rfl hl.1 rfl (Nat.zero_le _) (by decide) dX11_pour_115) hS47 (fun v55 H55 locs55 hr55 hC55 hS55 => ?_)
                  obtain ⟨hp55, hr55⟩ := hr55
                  have hKp55 := hKp0.tr (hp55.mono rfl)
                  replace ncs : NSm (nC nd H0) (nC nd H55) := nC_kp ncs hp55 sh rfl
                  rcases hr55 with ⟨rfl, f55a⟩ | ⟨rfl, -⟩
                  · exact absurd f55a (by decide)
                  · have hpost : (0 ≤ a1 ∧ a1 ≤ 3 ∧ 0 ≤ a3 ∧ a3 ≤ 3 ∧ 0 ≤ (sI H0 (td (a1 : Int).toNat) (X.1.2 6 2)).toInt ∧ 0 ≤ (sI H0 (td (a3 : Int).toNat) (X.1.2 6 2)).toInt ∧ (sI H0 (td (a1 : Int).toNat) (X.1.2 6 1)).toInt = (sI H0 (td (a3 : Int).toNat) (X.1.2 6 1)).toInt ∧ 0 ≤ a5 ∧ 0 ≤ a2 ∧ a2 + a5 ≤ (sI H0 (td (a1 : Int).toNat) (X.1.2 6 2)).toInt ∧ 0 ≤ a4 ∧ a4 + a5 ≤ (sI H0 (td (a3 : Int).toNat) (X.1.2 6 2)).toInt ∧ (0 : Int32).toInt = 1 ∧ NPr (nC nd H0) (nC nd H55) a1 a2 a3 a4 0 a5) ∨ ((a1 < 0 ∨ 3 < a1 ∨ a3 < 0 ∨ 3 < a3 ∨ (sI H0 (td (a1 : Int).toNat) (X.1.2 6 2)).toInt < 0 ∨ (sI H0 (td (a3 : Int).toNat) (X.1.2 6 2)).toInt < 0 ∨ (sI H0 (td (a1 : Int).toNat) (X.1.2 6 1)).toInt ≠ (sI H0 (td (a3 : Int).toNat) (X.1.2 6 1)).toInt ∨ a5 < 0 ∨ a2 < 0 ∨ (sI H0 (td (a1 : Int).toNat) (X.1.2 6 2)).toInt < a2 + a5 ∨ a4 < 0 ∨ (sI H0 (td (a3 : Int).toNat) (X.1.2 6 2)).toInt < a4 + a5) ∧ (0 : Int32).toInt = 0 ∧ NSm (nC nd H0) (nC nd H55)) := Or.inr ⟨by omega, by decide, ncs⟩
                    have c56 : (0 : Int32).toInt = 0 := (by decide)
                    exact ret 0 H55 locs55 _ _ dX11_pour_118 (Or.inl rfl) ⟨hKp55, hpost⟩ hC55 hS55
              · refine q_if_eq hx hb (a := 0) (by decide) (tgt := 113) dX11_pour_98 rfl (fun c57 => ?_) (fun c57 => absurd c57 (by omega))
                refine lv_aload_n hx hb dX11_pour_113 rfl (lv_at hl 2 rfl) ?_
                refine lv_iconst (v := 4) hx hb dX11_pour_114 rfl ?_
                refine q_goI (q_runV (As := [.int 4]) (rest := []) E hC0 hS45 (m_X11_deny l X Γ H0 hC0 h0 g0 4 (a1 := 4) (by decide)) cw_X11_deny cl_RX11_128 g0 ⟨rfl, rfl⟩ rfl hl.1 rfl (Nat.zero_le _) (by decide) dX11_pour_115) hS45 (fun v58 H58 locs58 hr58 hC58 hS58 => ?_)
                obtain ⟨hp58, hr58⟩ := hr58
                have hKp58 := hKp0.tr (hp58.mono rfl)
                replace ncs : NSm (nC nd H0) (nC nd H58) := nC_kp ncs hp58 sh rfl
                rcases hr58 with ⟨rfl, f58a⟩ | ⟨rfl, -⟩
                · exact absurd f58a (by decide)
                · have hpost : (0 ≤ a1 ∧ a1 ≤ 3 ∧ 0 ≤ a3 ∧ a3 ≤ 3 ∧ 0 ≤ (sI H0 (td (a1 : Int).toNat) (X.1.2 6 2)).toInt ∧ 0 ≤ (sI H0 (td (a3 : Int).toNat) (X.1.2 6 2)).toInt ∧ (sI H0 (td (a1 : Int).toNat) (X.1.2 6 1)).toInt = (sI H0 (td (a3 : Int).toNat) (X.1.2 6 1)).toInt ∧ 0 ≤ a5 ∧ 0 ≤ a2 ∧ a2 + a5 ≤ (sI H0 (td (a1 : Int).toNat) (X.1.2 6 2)).toInt ∧ 0 ≤ a4 ∧ a4 + a5 ≤ (sI H0 (td (a3 : Int).toNat) (X.1.2 6 2)).toInt ∧ (0 : Int32).toInt = 1 ∧ NPr (nC nd H0) (nC nd H58) a1 a2 a3 a4 0 a5) ∨ ((a1 < 0 ∨ 3 < a1 ∨ a3 < 0 ∨ 3 < a3 ∨ (sI H0 (td (a1 : Int).toNat) (X.1.2 6 2)).toInt < 0 ∨ (sI H0 (td (a3 : Int).toNat) (X.1.2 6 2)).toInt < 0 ∨ (sI H0 (td (a1 : Int).toNat) (X.1.2 6 1)).toInt ≠ (sI H0 (td (a3 : Int).toNat) (X.1.2 6 1)).toInt ∨ a5 < 0 ∨ a2 < 0 ∨ (sI H0 (td (a1 : Int).toNat) (X.1.2 6 2)).toInt < a2 + a5 ∨ a4 < 0 ∨ (sI H0 (td (a3 : Int).toNat) (X.1.2 6 2)).toInt < a4 + a5) ∧ (0 : Int32).toInt = 0 ∧ NSm (nC nd H0) (nC nd H58)) := Or.inr ⟨by omega, by decide, ncs⟩
                  have c59 : (0 : Int32).toInt = 0 := (by decide)
                  exact ret 0 H58 locs58 _ _ dX11_pour_118 (Or.inl rfl) ⟨hKp58, hpost⟩ hC58 hS58
            · refine lv_aload_n hx hb dX11_pour_83 rfl (lv_at hl 2 rfl) ?_
              refine lv_bipush (v := 6) hx hb dX11_pour_84 rfl ?_
              refine q_goI (q_runV (As := [.int 6]) (rest := []) E hC0 hS32 (m_X11_deny l X Γ H0 hC0 h0 g0 6 (a1 := 6) (by decide)) cw_X11_deny cl_RX11_128 g0 ⟨rfl, rfl⟩ rfl hl.1 rfl (Nat.zero_le _) (by decide) dX11_pour_86) hS32 (fun v60 H60 locs60 hr60 hC60 hS60 => ?_)
              obtain ⟨hp60, hr60⟩ := hr60
              have hKp60 := hKp0.tr (hp60.mono rfl)
              replace ncs : NSm (nC nd H0) (nC nd H60) := nC_kp ncs hp60 sh rfl
              rcases hr60 with ⟨rfl, f60a⟩ | ⟨rfl, -⟩
              · exact absurd f60a (by decide)
              · have hpost : (0 ≤ a1 ∧ a1 ≤ 3 ∧ 0 ≤ a3 ∧ a3 ≤ 3 ∧ 0 ≤ (sI H0 (td (a1 : Int).toNat) (X.1.2 6 2)).toInt ∧ 0 ≤ (sI H0 (td (a3 : Int).toNat) (X.1.2 6 2)).toInt ∧ (sI H0 (td (a1 : Int).toNat) (X.1.2 6 1)).toInt = (sI H0 (td (a3 : Int).toNat) (X.1.2 6 1)).toInt ∧ 0 ≤ a5 ∧ 0 ≤ a2 ∧ a2 + a5 ≤ (sI H0 (td (a1 : Int).toNat) (X.1.2 6 2)).toInt ∧ 0 ≤ a4 ∧ a4 + a5 ≤ (sI H0 (td (a3 : Int).toNat) (X.1.2 6 2)).toInt ∧ (0 : Int32).toInt = 1 ∧ NPr (nC nd H0) (nC nd H60) a1 a2 a3 a4 0 a5) ∨ ((a1 < 0 ∨ 3 < a1 ∨ a3 < 0 ∨ 3 < a3 ∨ (sI H0 (td (a1 : Int).toNat) (X.1.2 6 2)).toInt < 0 ∨ (sI H0 (td (a3 : Int).toNat) (X.1.2 6 2)).toInt < 0 ∨ (sI H0 (td (a1 : Int).toNat) (X.1.2 6 1)).toInt ≠ (sI H0 (td (a3 : Int).toNat) (X.1.2 6 1)).toInt ∨ a5 < 0 ∨ a2 < 0 ∨ (sI H0 (td (a1 : Int).toNat) (X.1.2 6 2)).toInt < a2 + a5 ∨ a4 < 0 ∨ (sI H0 (td (a3 : Int).toNat) (X.1.2 6 2)).toInt < a4 + a5) ∧ (0 : Int32).toInt = 0 ∧ NSm (nC nd H0) (nC nd H60)) := Or.inr ⟨by omega, by decide, ncs⟩
                have c61 : (0 : Int32).toInt = 0 := (by decide)
                exact ret 0 H60 locs60 _ _ dX11_pour_89 (Or.inl rfl) ⟨hKp60, hpost⟩ hC60 hS60
          · refine lv_aload_n hx hb dX11_pour_71 rfl (lv_at hl 2 rfl) ?_
            refine lv_bipush (v := 11) hx hb dX11_pour_72 rfl ?_
            refine q_goI (q_runV (As := [.int 11]) (rest := []) E hC0 hS32 (m_X11_deny l X Γ H0 hC0 h0 g0 11 (a1 := 11) (by decide)) cw_X11_deny cl_RX11_128 g0 ⟨rfl, rfl⟩ rfl hl.1 rfl (Nat.zero_le _) (by decide) dX11_pour_74) hS32 (fun v62 H62 locs62 hr62 hC62 hS62 => ?_)
            obtain ⟨hp62, hr62⟩ := hr62
            have hKp62 := hKp0.tr (hp62.mono rfl)
            replace ncs : NSm (nC nd H0) (nC nd H62) := nC_kp ncs hp62 sh rfl
            rcases hr62 with ⟨rfl, f62a⟩ | ⟨rfl, -⟩
            · exact absurd f62a (by decide)
            · have hpost : (0 ≤ a1 ∧ a1 ≤ 3 ∧ 0 ≤ a3 ∧ a3 ≤ 3 ∧ 0 ≤ (sI H0 (td (a1 : Int).toNat) (X.1.2 6 2)).toInt ∧ 0 ≤ (sI H0 (td (a3 : Int).toNat) (X.1.2 6 2)).toInt ∧ (sI H0 (td (a1 : Int).toNat) (X.1.2 6 1)).toInt = (sI H0 (td (a3 : Int).toNat) (X.1.2 6 1)).toInt ∧ 0 ≤ a5 ∧ 0 ≤ a2 ∧ a2 + a5 ≤ (sI H0 (td (a1 : Int).toNat) (X.1.2 6 2)).toInt ∧ 0 ≤ a4 ∧ a4 + a5 ≤ (sI H0 (td (a3 : Int).toNat) (X.1.2 6 2)).toInt ∧ (0 : Int32).toInt = 1 ∧ NPr (nC nd H0) (nC nd H62) a1 a2 a3 a4 0 a5) ∨ ((a1 < 0 ∨ 3 < a1 ∨ a3 < 0 ∨ 3 < a3 ∨ (sI H0 (td (a1 : Int).toNat) (X.1.2 6 2)).toInt < 0 ∨ (sI H0 (td (a3 : Int).toNat) (X.1.2 6 2)).toInt < 0 ∨ (sI H0 (td (a1 : Int).toNat) (X.1.2 6 1)).toInt ≠ (sI H0 (td (a3 : Int).toNat) (X.1.2 6 1)).toInt ∨ a5 < 0 ∨ a2 < 0 ∨ (sI H0 (td (a1 : Int).toNat) (X.1.2 6 2)).toInt < a2 + a5 ∨ a4 < 0 ∨ (sI H0 (td (a3 : Int).toNat) (X.1.2 6 2)).toInt < a4 + a5) ∧ (0 : Int32).toInt = 0 ∧ NSm (nC nd H0) (nC nd H62)) := Or.inr ⟨by omega, by decide, ncs⟩
              have c63 : (0 : Int32).toInt = 0 := (by decide)
              exact ret 0 H62 locs62 _ _ dX11_pour_77 (Or.inl rfl) ⟨hKp62, hpost⟩ hC62 hS62
    · refine q_if_ne hx hb (a := 0) (by decide) (tgt := 20) dX11_pour_11 rfl (fun c64 => absurd c64 (by omega)) (fun c64 => ?_)
      refine lv_aload_n hx hb dX11_pour_14 rfl (lv_at hl 0 rfl) ?_
      refine lv_iconst (v := 1) hx hb dX11_pour_15 rfl ?_
      refine q_goI (q_runV (As := [.int 1]) (rest := []) E hC0 hS23 (m_X11_deny l X Γ H0 hC0 h0 g0 1 (a1 := 1) (by decide)) cw_X11_deny cl_RX11_128 g0 ⟨rfl, rfl⟩ rfl hl.1 rfl (Nat.zero_le _) (by decide) dX11_pour_16) hS23 (fun v65 H65 locs65 hr65 hC65 hS65 => ?_)
      obtain ⟨hp65, hr65⟩ := hr65
      have hKp65 := hKp0.tr (hp65.mono rfl)
      replace ncs : NSm (nC nd H0) (nC nd H65) := nC_kp ncs hp65 sh rfl
      rcases hr65 with ⟨rfl, f65a⟩ | ⟨rfl, -⟩
      · exact absurd f65a (by decide)
      · have hpost : (0 ≤ a1 ∧ a1 ≤ 3 ∧ 0 ≤ a3 ∧ a3 ≤ 3 ∧ 0 ≤ (sI H0 (td (a1 : Int).toNat) (X.1.2 6 2)).toInt ∧ 0 ≤ (sI H0 (td (a3 : Int).toNat) (X.1.2 6 2)).toInt ∧ (sI H0 (td (a1 : Int).toNat) (X.1.2 6 1)).toInt = (sI H0 (td (a3 : Int).toNat) (X.1.2 6 1)).toInt ∧ 0 ≤ a5 ∧ 0 ≤ a2 ∧ a2 + a5 ≤ (sI H0 (td (a1 : Int).toNat) (X.1.2 6 2)).toInt ∧ 0 ≤ a4 ∧ a4 + a5 ≤ (sI H0 (td (a3 : Int).toNat) (X.1.2 6 2)).toInt ∧ (0 : Int32).toInt = 1 ∧ NPr (nC nd H0) (nC nd H65) a1 a2 a3 a4 0 a5) ∨ ((a1 < 0 ∨ 3 < a1 ∨ a3 < 0 ∨ 3 < a3 ∨ (sI H0 (td (a1 : Int).toNat) (X.1.2 6 2)).toInt < 0 ∨ (sI H0 (td (a3 : Int).toNat) (X.1.2 6 2)).toInt < 0 ∨ (sI H0 (td (a1 : Int).toNat) (X.1.2 6 1)).toInt ≠ (sI H0 (td (a3 : Int).toNat) (X.1.2 6 1)).toInt ∨ a5 < 0 ∨ a2 < 0 ∨ (sI H0 (td (a1 : Int).toNat) (X.1.2 6 2)).toInt < a2 + a5 ∨ a4 < 0 ∨ (sI H0 (td (a3 : Int).toNat) (X.1.2 6 2)).toInt < a4 + a5) ∧ (0 : Int32).toInt = 0 ∧ NSm (nC nd H0) (nC nd H65)) := Or.inr ⟨by omega, by decide, ncs⟩
        have c66 : (0 : Int32).toInt = 0 := (by decide)
        exact ret 0 H65 locs65 _ _ dX11_pour_19 (Or.inl rfl) ⟨hKp65, hpost⟩ hC65 hS65
  · refine q_if_eq hx hb (a := 0) (by decide) (tgt := 14) dX11_pour_4 rfl (fun c67 => ?_) (fun c67 => absurd c67 (by omega))
    refine lv_aload_n hx hb dX11_pour_14 rfl (lv_at hl 0 rfl) ?_
    refine lv_iconst (v := 1) hx hb dX11_pour_15 rfl ?_
    refine q_goI (q_runV (As := [.int 1]) (rest := []) E hC0 hS21 (m_X11_deny l X Γ H0 hC0 h0 g0 1 (a1 := 1) (by decide)) cw_X11_deny cl_RX11_128 g0 ⟨rfl, rfl⟩ rfl hl.1 rfl (Nat.zero_le _) (by decide) dX11_pour_16) hS21 (fun v68 H68 locs68 hr68 hC68 hS68 => ?_)
    obtain ⟨hp68, hr68⟩ := hr68
    have hKp68 := hKp0.tr (hp68.mono rfl)
    replace ncs : NSm (nC nd H0) (nC nd H68) := nC_kp ncs hp68 sh rfl
    rcases hr68 with ⟨rfl, f68a⟩ | ⟨rfl, -⟩
    · exact absurd f68a (by decide)
    · have hpost : (0 ≤ a1 ∧ a1 ≤ 3 ∧ 0 ≤ a3 ∧ a3 ≤ 3 ∧ 0 ≤ (sI H0 (td (a1 : Int).toNat) (X.1.2 6 2)).toInt ∧ 0 ≤ (sI H0 (td (a3 : Int).toNat) (X.1.2 6 2)).toInt ∧ (sI H0 (td (a1 : Int).toNat) (X.1.2 6 1)).toInt = (sI H0 (td (a3 : Int).toNat) (X.1.2 6 1)).toInt ∧ 0 ≤ a5 ∧ 0 ≤ a2 ∧ a2 + a5 ≤ (sI H0 (td (a1 : Int).toNat) (X.1.2 6 2)).toInt ∧ 0 ≤ a4 ∧ a4 + a5 ≤ (sI H0 (td (a3 : Int).toNat) (X.1.2 6 2)).toInt ∧ (0 : Int32).toInt = 1 ∧ NPr (nC nd H0) (nC nd H68) a1 a2 a3 a4 0 a5) ∨ ((a1 < 0 ∨ 3 < a1 ∨ a3 < 0 ∨ 3 < a3 ∨ (sI H0 (td (a1 : Int).toNat) (X.1.2 6 2)).toInt < 0 ∨ (sI H0 (td (a3 : Int).toNat) (X.1.2 6 2)).toInt < 0 ∨ (sI H0 (td (a1 : Int).toNat) (X.1.2 6 1)).toInt ≠ (sI H0 (td (a3 : Int).toNat) (X.1.2 6 1)).toInt ∨ a5 < 0 ∨ a2 < 0 ∨ (sI H0 (td (a1 : Int).toNat) (X.1.2 6 2)).toInt < a2 + a5 ∨ a4 < 0 ∨ (sI H0 (td (a3 : Int).toNat) (X.1.2 6 2)).toInt < a4 + a5) ∧ (0 : Int32).toInt = 0 ∧ NSm (nC nd H0) (nC nd H68)) := Or.inr ⟨by omega, by decide, ncs⟩
      have c69 : (0 : Int32).toInt = 0 := (by decide)
      exact ret 0 H68 locs68 _ _ dX11_pour_19 (Or.inl rfl) ⟨hKp68, hpost⟩ hC68 hS68
set_option maxRecDepth 100000 in
set_option maxHeartbeats 4000000 in
theorem m_X4_append (l : Launch) (X : xW) (Γ : Nat → Option Nat) (H0 : Heap) (hC0 : Conf X Γ H0) (h0 : Nat) (g0 : Γ h0 = some 2) (p1 : Int32) {a1 : Int} (e1 : p1.toInt = a1) (r0 : (sI H0 h0 (X.1.2 4 1)).toInt ≤ 896) : Ctr l X Γ yX4_append cX4_append 3 none 0 [.ref h0, .int p1] H0 (QV X Γ (fun H1 => Kp X Γ [0, 2, 4, 5, 18, 21, 23, 25, 27] H0 H1 ∧ (((sI H1 h0 (X.1.2 4 1)).toInt = (sI H0 h0 (X.1.2 4 1)).toInt + 4)))) := by
  refine q_enterV (own := "SnowForts$Reader") (by decide) rfl (Nat.le_of_ble_eq_true rfl) ?_
  intro p e s m args below meth c ls Qz E hl ret hS0
  have hx := E.1; have hb := E.2.1
  have hKp0 : Kp X Γ [0, 2, 4, 5, 18, 21, 23, 25, 27] H0 H0 := Kp.rf
  have hl : lv_has ls 3 [(0, .ref h0), (1, .int p1)] := hl
  have hz1 := f_bd hC0 g0 (ci := 4) (k := 1) rfl rfl
  refine lv_bipush (v := 24) hx hb dX4_append_0 rfl ?_
  refine lv_istore_n hx hb dX4_append_2 rfl hl (by decide) rfl (fun ls hl => ?_)
  replace hl : lv_has ls 3 [(2, .int 24), (0, .ref h0), (1, .int p1)] := hl
  have L3 : ∀ (n22 : Nat) (H22 : Heap) (locs22 : List Loc) (v21 : Int32) (z21 : Int) (ls : Array Slot), (z21 + 1).toNat < n22 → v21.toInt = z21 → -8 ≤ z21 → z21 ≤ 24 → 8 * ((sI H22 h0 (X.1.2 4 1)).toInt - (sI H0 h0 (X.1.2 4 1)).toInt) = 24 - z21 → Conf X Γ H22 → va_S (AΓ Γ) H0 H22 locs22 → Kp X Γ [0, 2, 4, 5, 18, 21, 23, 25, 27] H0 H22 → lv_has ls 3 [(2, .int v21), (0, .ref h0), (1, .int p1)] → W p l e (rmL 0) s m args below meth c H22 locs22 0 0 Qz (F0 m 3 ls []) := by
    intro n22
    induction n22 with
    | zero => intro H22 locs22 v21 z21 ls hm22 ev21 iv22_0 iv22_1 iv22_2 hC22 hS22 hKp22 hl; exact absurd hm22 (Nat.not_lt_zero _)
    | succ n22 ih22 =>
      intro H22 locs22 v21 z21 ls hm22 ev21 iv22_0 iv22_1 iv22_2 hC22 hS22 hKp22 hl
      have hz2 := f_bd hC22 g0 (ci := 4) (k := 1) rfl rfl
      refine lv_iload_n hx hb dX4_append_3 rfl (lv_at hl 0 rfl) ?_
      refine q_if_lt hx hb (a := z21) ev21 (tgt := 53) dX4_append_4 rfl (fun c23 => ?_) (fun c23 => ?_)
      · exact ret H22 locs22 _ _ dX4_append_53 ⟨hKp22, by omega⟩ hC22 hS22
      · refine lv_aload_n hx hb dX4_append_7 rfl (lv_at hl 1 rfl) ?_
        refine q_getI E hC22 g0 fa_RX4_39 dX4_append_8 (fun v24 ev24 lv24 uv24 => ?_)
        have m25 : (sI H22 h0 (X.1.2 4 1)).toInt = v24.toInt := (congrArg Int32.toInt ev24).trans rfl
        refine q_if_lt hx hb (a := v24.toInt) rfl (tgt := 47) dX4_append_11 rfl (fun c26 => absurd c26 (by omega)) (fun c26 => ?_)
        refine lv_aload_n hx hb dX4_append_14 rfl (lv_at hl 1 rfl) ?_
        refine q_getI E hC22 g0 fa_RX4_39 dX4_append_15 (fun v27 ev27 lv27 uv27 => ?_)
        have qv27 := ev24.symm.trans ev27; subst qv27
        refine lv_sipush (v := 900) hx hb dX4_append_18 rfl ?_
        refine q_icmp_ge hx hb (a := v24.toInt) (b := 900) rfl (by decide) (tgt := 47) dX4_append_21 rfl (fun c28 => ?_) (fun c28 => ?_)
        · obtain ⟨v29, ev29⟩ : ∃ z, z = v21 + Int32.ofInt (-8) := ⟨_, rfl⟩
          have ev29i : v29.toInt = (z21 + (-8)) := i_add ev29 ev21 (by decide) (by omega) (by omega)
          refine lv_iinc hx hb dX4_append_47 hl (k := 0) rfl ev29.symm (by decide) rfl (fun ls hl => ?_)
          replace hl : lv_has ls 3 [(2, .int v29), (0, .ref h0), (1, .int p1)] := hl
          refine lv_goto (tgt := 3) hx hb dX4_append_50 rfl ?_
          exact ih22 H22 locs22 v29 ((z21 + (-8))) ls (by omega) ev29i (by omega) (by omega) (by omega) hC22 hS22 hKp22 hl
        · refine lv_aload_n hx hb dX4_append_24 rfl (lv_at hl 1 rfl) ?_
          refine q_getR E hC22 g0 fa_RX4_9 dX4_append_25 (fun q30 eq30 gq30 => ?_)
          refine lv_aload_n hx hb dX4_append_28 rfl (lv_at hl 1 rfl) ?_
          refine q_getI E hC22 g0 fa_RX4_39 dX4_append_29 (fun v31 ev31 lv31 uv31 => ?_)
          have qv31 := ev24.symm.trans ev31; subst qv31
          refine lv_iload_n hx hb dX4_append_32 rfl (lv_at hl 2 rfl) ?_
          refine lv_iload_n hx hb dX4_append_33 rfl (lv_at hl 0 rfl) ?_
          refine lv_ishr hx hb dX4_append_34 (lv_topi (fun v32 ev32 => ?_))
          refine lv_i2b hx hb dX4_append_35 rfl (lv_topi (fun v33 ev33 => ?_))
          refine q_bast E hC22 hS22 gq30 (by decide) rfl rfl (fun _ => rfl) (i_in (a := v24.toInt) rfl (by omega) (by omega)) dX4_append_36 (fun H34 locs34 hC34 hS34 U34 => ?_)
          have hKp34 := Kp.upA gq30 rfl (by decide) rfl U34 hKp22
          have m35 : (sI H34 h0 (X.1.2 4 1)).toInt = (sI H22 h0 (X.1.2 4 1)).toInt := congrArg Int32.toInt (up_nI U34 (ne_k g0 gq30 (by decide)))
          refine lv_aload_n hx hb dX4_append_37 rfl (lv_at hl 1 rfl) ?_
          refine lv_dup hx hb dX4_append_38 rfl ?_
          have e37 := (up_nI U34 (ne_k g0 gq30 (by decide))).trans ev24
          refine q_getI E hC34 g0 fa_RX4_39 dX4_append_39 (fun v36 ev36 lv36 uv36 => ?_)
          have qv36 := e37.symm.trans ev36; subst qv36
          have m38 : (sI H34 h0 (X.1.2 4 1)).toInt = v24.toInt := (congrArg Int32.toInt ev36).trans rfl
          refine lv_iconst (v := 1) hx hb dX4_append_42 rfl ?_
          refine lv_iadd hx hb dX4_append_43 (lv_topi (fun v39 ev39 => ?_))
          have ev39i : v39.toInt = (v24.toInt + 1) := i_add ev39 rfl (by decide) (by omega) (by omega)
          refine q_put E hC34 hS34 g0 fp_RX4_39 (tv_I ev39i (by omega) (by omega)) rfl rfl dX4_append_44 (fun H40 locs40 hC40 hS40 U40 => ?_)
          have hKp40 := Kp.upO E g0 fp_RX4_39 rfl U40 hKp34
          have e41 := up_I U40
          have m42 : (sI H40 h0 (X.1.2 4 1)).toInt = (v24.toInt + 1) := (congrArg Int32.toInt e41).trans ev39i
          obtain ⟨v43, ev43⟩ : ∃ z, z = v21 + Int32.ofInt (-8) := ⟨_, rfl⟩
          have ev43i : v43.toInt = (z21 + (-8)) := i_add ev43 ev21 (by decide) (by omega) (by omega)
          refine lv_iinc hx hb dX4_append_47 hl (k := 0) rfl ev43.symm (by decide) rfl (fun ls hl => ?_)
          replace hl : lv_has ls 3 [(2, .int v43), (0, .ref h0), (1, .int p1)] := hl
          refine lv_goto (tgt := 3) hx hb dX4_append_50 rfl ?_
          exact ih22 H40 locs40 v43 ((z21 + (-8))) ls (by omega) ev43i (by omega) (by omega) (by omega) hC40 hS40 hKp40 hl
  exact L3 _ H0 [] 24 24 ls (Nat.lt_succ_self _) (by decide) (by omega) (by omega) (by omega) hC0 hS0 hKp0 hl
set_option maxRecDepth 100000 in
set_option maxHeartbeats 4000000 in
theorem m_X11_feed (l : Launch) (X : xW) (Γ : Nat → Option Nat) (H0 : Heap) (hC0 : Conf X Γ H0) (h0 : Nat) (g0 : Γ h0 = some 0) (p1 : Int32) {a1 : Int} (e1 : p1.toInt = a1) (p2 : Int32) {a2 : Int} (e2 : p2.toInt = a2) (p3 : Int32) {a3 : Int} (e3 : p3.toInt = a3) (p4 : Int32) {a4 : Int} (e4 : p4.toInt = a4) (p5 : Int32) {a5 : Int} (e5 : p5.toInt = a5) (ra : Nat) (gra : Γ ra = some 2) (ur : ∀ a, Γ a = some 2 → a = ra) : Ctr l X Γ yX11_feed cX11_feed 6 (some .int) 1 [.ref h0, .int p1, .int p2, .int p3, .int p4, .int p5] H0 (QI X Γ (fun v H1 => Kp X Γ [0, 2, 4, 5, 18, 21, 23, 25, 27] H0 H1 ∧ (((880 < (sI H0 ra (X.1.2 4 1)).toInt ∧ v.toInt = -1 ∧ (sI H1 ra (X.1.2 4 1)).toInt = (sI H0 ra (X.1.2 4 1)).toInt) ∨ ((sI H0 ra (X.1.2 4 1)).toInt ≤ 880 ∧ v.toInt = (sI H0 ra (X.1.2 4 1)).toInt + 20 ∧ (sI H1 ra (X.1.2 4 1)).toInt = (sI H0 ra (X.1.2 4 1)).toInt + 20))))) := by
  refine q_enterI (own := "SnowForts") (by decide) rfl (Nat.le_of_ble_eq_true rfl) ?_
  intro p e s m args below meth c ls Qz E hl ret hS0
  have hx := E.1; have hb := E.2.1
  have hKp0 : Kp X Γ [0, 2, 4, 5, 18, 21, 23, 25, 27] H0 H0 := Kp.rf
  have hl : lv_has ls 6 [(0, .ref h0), (1, .int p1), (2, .int p2), (3, .int p3), (4, .int p4), (5, .int p5)] := hl
  refine lv_aload_n hx hb dX11_feed_0 rfl (lv_at hl 0 rfl) ?_
  refine q_getU E hC0 g0 fa_RX11_19 ur dX11_feed_1 ?_
  refine q_getI E hC0 gra fa_RX11_171 dX11_feed_4 (fun v21 ev21 lv21 uv21 => ?_)
  have m22 : (sI H0 ra (X.1.2 4 1)).toInt = v21.toInt := congrArg Int32.toInt ev21
  refine lv_sipush (v := 880) hx hb dX11_feed_7 rfl ?_
  refine q_icmp_le hx hb (a := v21.toInt) (b := 880) rfl (by decide) (tgt := 15) dX11_feed_10 rfl (fun c23 => ?_) (fun c23 => ?_)
  · refine lv_aload_n hx hb dX11_feed_15 rfl (lv_at hl 0 rfl) ?_
    refine q_getU E hC0 g0 fa_RX11_19 ur dX11_feed_16 ?_
    refine lv_iload_n hx hb dX11_feed_19 rfl (lv_at hl 1 rfl) ?_
    refine q_goV (q_runV (As := [.int p1]) (rest := []) E hC0 hS0 (m_X4_append l X Γ H0 hC0 ra gra p1 (a1 := a1) e1 (by omega)) cw_X4_append cl_RX11_174 gra ⟨rfl, rfl⟩ rfl hl.1 rfl (Nat.zero_le _) (by decide) dX11_feed_20) hS0 (fun H24 locs24 hr24 hC24 hS24 => ?_)
    obtain ⟨hp24, hr24⟩ := hr24
    have hKp24 := hKp0.tr (hp24.mono rfl)
    have f24_0 := hr24
    refine lv_aload_n hx hb dX11_feed_23 rfl (lv_at hl 0 rfl) ?_
    refine q_getU E hC24 g0 fa_RX11_19 ur dX11_feed_24 ?_
    refine lv_iload_n hx hb dX11_feed_27 rfl (lv_at hl 2 rfl) ?_
    refine q_goV (q_runV (As := [.int p2]) (rest := []) E hC24 hS24 (m_X4_append l X Γ H24 hC24 ra gra p2 (a1 := a2) e2 (by omega)) cw_X4_append cl_RX11_174 gra ⟨rfl, rfl⟩ rfl hl.1 rfl (Nat.zero_le _) (by decide) dX11_feed_28) hS24 (fun H25 locs25 hr25 hC25 hS25 => ?_)
    obtain ⟨hp25, hr25⟩ := hr25
    have hKp25 := hKp24.tr (hp25.mono rfl)
    have f25_0 := hr25
    refine lv_aload_n hx hb dX11_feed_31 rfl (lv_at hl 0 rfl) ?_
    refine q_getU E hC25 g0 fa_RX11_19 ur dX11_feed_32 ?_
    refine lv_iload_n hx hb dX11_feed_35 rfl (lv_at hl 3 rfl) ?_
    refine q_goV (q_runV (As := [.int p3]) (rest := []) E hC25 hS25 (m_X4_append l X Γ H25 hC25 ra gra p3 (a1 := a3) e3 (by omega)) cw_X4_append cl_RX11_174 gra ⟨rfl, rfl⟩ rfl hl.1 rfl (Nat.zero_le _) (by decide) dX11_feed_36) hS25 (fun H26 locs26 hr26 hC26 hS26 => ?_)
    obtain ⟨hp26, hr26⟩ := hr26
    have hKp26 := hKp25.tr (hp26.mono rfl)
    have f26_0 := hr26
    refine lv_aload_n hx hb dX11_feed_39 rfl (lv_at hl 0 rfl) ?_
    refine q_getU E hC26 g0 fa_RX11_19 ur dX11_feed_40 ?_
    refine lv_iload hx hb dX11_feed_43 (lv_at hl 4 rfl) ?_
    refine q_goV (q_runV (As := [.int p4]) (rest := []) E hC26 hS26 (m_X4_append l X Γ H26 hC26 ra gra p4 (a1 := a4) e4 (by omega)) cw_X4_append cl_RX11_174 gra ⟨rfl, rfl⟩ rfl hl.1 rfl (Nat.zero_le _) (by decide) dX11_feed_45) hS26 (fun H27 locs27 hr27 hC27 hS27 => ?_)
    obtain ⟨hp27, hr27⟩ := hr27
    have hKp27 := hKp26.tr (hp27.mono rfl)
    have f27_0 := hr27
    refine lv_aload_n hx hb dX11_feed_48 rfl (lv_at hl 0 rfl) ?_
    refine q_getU E hC27 g0 fa_RX11_19 ur dX11_feed_49 ?_
    refine lv_iload hx hb dX11_feed_52 (lv_at hl 5 rfl) ?_
    refine q_goV (q_runV (As := [.int p5]) (rest := []) E hC27 hS27 (m_X4_append l X Γ H27 hC27 ra gra p5 (a1 := a5) e5 (by omega)) cw_X4_append cl_RX11_174 gra ⟨rfl, rfl⟩ rfl hl.1 rfl (Nat.zero_le _) (by decide) dX11_feed_54) hS27 (fun H28 locs28 hr28 hC28 hS28 => ?_)
    obtain ⟨hp28, hr28⟩ := hr28
    have hKp28 := hKp27.tr (hp28.mono rfl)
    have f28_0 := hr28
    refine lv_aload_n hx hb dX11_feed_57 rfl (lv_at hl 0 rfl) ?_
    refine q_getU E hC28 g0 fa_RX11_19 ur dX11_feed_58 ?_
    refine q_getI E hC28 gra fa_RX11_171 dX11_feed_61 (fun v29 ev29 lv29 uv29 => ?_)
    have m30 : (sI H28 ra (X.1.2 4 1)).toInt = v29.toInt := congrArg Int32.toInt ev29
    have c31 : v29.toInt = v29.toInt := rfl
    exact ret v29 H28 locs28 _ _ dX11_feed_64 ⟨hKp28, by omega⟩ hC28 hS28
  · refine lv_iconst (v := (-1)) hx hb dX11_feed_13 rfl ?_
    have c32 : ((-1) : Int32).toInt = (-1) := (by decide)
    exact ret (-1) H0 [] _ _ dX11_feed_14 ⟨hKp0, by omega⟩ hC0 hS0
set_option maxRecDepth 100000 in
set_option maxHeartbeats 4000000 in
theorem m_X9_clear (l : Launch) (X : xW) (Γ : Nat → Option Nat) (H0 : Heap) (hC0 : Conf X Γ H0) (h0 : Nat) (g0 : Γ h0 = some 5) : Ctr l X Γ yX9_clear cX9_clear 1 none 1 [.ref h0] H0 (QV X Γ (fun H1 => Kp X Γ [0, 2, 3, 4, 5, 18, 21, 23, 25, 27] H0 H1)) := by
  refine q_enterV (own := "SnowForts$Yard") (by decide) rfl (Nat.le_of_ble_eq_true rfl) ?_
  intro p e s m args below meth c ls Qz E hl ret hS0
  have hx := E.1; have hb := E.2.1
  have hKp0 : Kp X Γ [0, 2, 3, 4, 5, 18, 21, 23, 25, 27] H0 H0 := Kp.rf
  have hl : lv_has ls 1 [(0, .ref h0)] := hl
  refine lv_aload_n hx hb dX9_clear_0 rfl (lv_at hl 0 rfl) ?_
  refine lv_iconst (v := 2) hx hb dX9_clear_1 rfl ?_
  refine q_put E hC0 hS0 g0 fp_RX9_9 tv_F rfl rfl dX9_clear_2 (fun H21 locs21 hC21 hS21 U21 => ?_)
  have hKp21 := Kp.upO E g0 fp_RX9_9 rfl U21 hKp0
  have e22 := up_I U21
  refine lv_aload_n hx hb dX9_clear_5 rfl (lv_at hl 0 rfl) ?_
  refine lv_iconst (v := 1) hx hb dX9_clear_6 rfl ?_
  refine q_put E hC21 hS21 g0 fp_RX9_15 tv_F rfl rfl dX9_clear_7 (fun H23 locs23 hC23 hS23 U23 => ?_)
  have hKp23 := Kp.upO E g0 fp_RX9_15 rfl U23 hKp21
  have e24 := up_I U23
  refine lv_aload_n hx hb dX9_clear_10 rfl (lv_at hl 0 rfl) ?_
  refine lv_iconst (v := 0) hx hb dX9_clear_11 rfl ?_
  refine q_put E hC23 hS23 g0 fp_RX9_52 tv_F rfl rfl dX9_clear_12 (fun H25 locs25 hC25 hS25 U25 => ?_)
  have hKp25 := Kp.upO E g0 fp_RX9_52 rfl U25 hKp23
  have e26 := up_I U25
  refine lv_aload_n hx hb dX9_clear_15 rfl (lv_at hl 0 rfl) ?_
  refine lv_iconst (v := 0) hx hb dX9_clear_16 rfl ?_
  refine q_put E hC25 hS25 g0 fp_RX9_55 tv_F rfl rfl dX9_clear_17 (fun H27 locs27 hC27 hS27 U27 => ?_)
  have hKp27 := Kp.upO E g0 fp_RX9_55 rfl U27 hKp25
  have e28 := up_I U27
  refine lv_aload_n hx hb dX9_clear_20 rfl (lv_at hl 0 rfl) ?_
  refine lv_iconst (v := 0) hx hb dX9_clear_21 rfl ?_
  refine q_put E hC27 hS27 g0 fp_RX9_58 tv_F rfl rfl dX9_clear_22 (fun H29 locs29 hC29 hS29 U29 => ?_)
  have hKp29 := Kp.upO E g0 fp_RX9_58 rfl U29 hKp27
  have e30 := up_I U29
  refine lv_aload_n hx hb dX9_clear_25 rfl (lv_at hl 0 rfl) ?_
  refine lv_iconst (v := 0) hx hb dX9_clear_26 rfl ?_
  refine q_put E hC29 hS29 g0 fp_RX9_61 tv_F rfl rfl dX9_clear_27 (fun H31 locs31 hC31 hS31 U31 => ?_)
  have hKp31 := Kp.upO E g0 fp_RX9_61 rfl U31 hKp29
  have e32 := up_I U31
  refine lv_aload_n hx hb dX9_clear_30 rfl (lv_at hl 0 rfl) ?_
  refine lv_iconst (v := 0) hx hb dX9_clear_31 rfl ?_
  refine q_put E hC31 hS31 g0 fp_RX9_64 tv_F rfl rfl dX9_clear_32 (fun H33 locs33 hC33 hS33 U33 => ?_)
  have hKp33 := Kp.upO E g0 fp_RX9_64 rfl U33 hKp31
  have e34 := up_I U33
  refine lv_aload_n hx hb dX9_clear_35 rfl (lv_at hl 0 rfl) ?_
  refine q_getR E hC33 g0 fa_RX9_18 dX9_clear_36 (fun q35 eq35 gq35 => ?_)
  refine lv_iconst (v := 0) hx hb dX9_clear_39 rfl ?_
  refine q_goV (q_runS (As := [.ref q35, .int 0]) (rest := []) E hS33 (m_fillI l X Γ H33 hC33 q35 gq35 (by decide) rfl rfl (fun _ => rfl) (by decide) 0) cw_J7_fill_53178 cl_RX9_67 rfl hl.1 rfl (Nat.zero_le _) (by decide) dX9_clear_40) hS33 (fun H36 locs36 U36 hC36 hS36 => ?_)
  obtain ⟨U36, F36⟩ := U36
  have hKp36 := Kp.upC gq35 rfl (by decide) rfl U36 hKp33
  refine lv_aload_n hx hb dX9_clear_43 rfl (lv_at hl 0 rfl) ?_
  refine q_getR E hC36 g0 fa_RX9_22 dX9_clear_44 (fun q37 eq37 gq37 => ?_)
  refine lv_iconst (v := 0) hx hb dX9_clear_47 rfl ?_
  refine q_goV (q_runS (As := [.ref q37, .int 0]) (rest := []) E hS36 (m_fillI l X Γ H36 hC36 q37 gq37 (by decide) rfl rfl (fun _ => rfl) (by decide) 0) cw_J7_fill_53178 cl_RX9_67 rfl hl.1 rfl (Nat.zero_le _) (by decide) dX9_clear_48) hS36 (fun H38 locs38 U38 hC38 hS38 => ?_)
  obtain ⟨U38, F38⟩ := U38
  have hKp38 := Kp.upC gq37 rfl (by decide) rfl U38 hKp36
  refine lv_aload_n hx hb dX9_clear_51 rfl (lv_at hl 0 rfl) ?_
  refine q_getR E hC38 g0 fa_RX9_25 dX9_clear_52 (fun q39 eq39 gq39 => ?_)
  refine lv_iconst (v := 0) hx hb dX9_clear_55 rfl ?_
  refine q_goV (q_runS (As := [.ref q39, .int 0]) (rest := []) E hS38 (m_fillI l X Γ H38 hC38 q39 gq39 (by decide) rfl rfl (fun _ => rfl) (by decide) 0) cw_J7_fill_53178 cl_RX9_67 rfl hl.1 rfl (Nat.zero_le _) (by decide) dX9_clear_56) hS38 (fun H40 locs40 U40 hC40 hS40 => ?_)
  obtain ⟨U40, F40⟩ := U40
  have hKp40 := Kp.upC gq39 rfl (by decide) rfl U40 hKp38
  refine lv_aload_n hx hb dX9_clear_59 rfl (lv_at hl 0 rfl) ?_
  refine q_getR E hC40 g0 fa_RX9_28 dX9_clear_60 (fun q41 eq41 gq41 => ?_)
  refine lv_iconst (v := (-1)) hx hb dX9_clear_63 rfl ?_
  refine q_goV (q_runS (As := [.ref q41, .int (-1)]) (rest := []) E hS40 (m_fillI l X Γ H40 hC40 q41 gq41 (by decide) rfl rfl (fun _ => rfl) (by decide) (-1)) cw_J7_fill_53178 cl_RX9_67 rfl hl.1 rfl (Nat.zero_le _) (by decide) dX9_clear_64) hS40 (fun H42 locs42 U42 hC42 hS42 => ?_)
  obtain ⟨U42, F42⟩ := U42
  have hKp42 := Kp.upC gq41 rfl (by decide) rfl U42 hKp40
  refine lv_aload_n hx hb dX9_clear_67 rfl (lv_at hl 0 rfl) ?_
  refine q_getR E hC42 g0 fa_RX9_31 dX9_clear_68 (fun q43 eq43 gq43 => ?_)
  refine lv_iconst (v := 0) hx hb dX9_clear_71 rfl ?_
  refine q_goV (q_runS (As := [.ref q43, .int 0]) (rest := []) E hS42 (m_fillI l X Γ H42 hC42 q43 gq43 (by decide) rfl rfl (fun _ => rfl) (by decide) 0) cw_J7_fill_53178 cl_RX9_67 rfl hl.1 rfl (Nat.zero_le _) (by decide) dX9_clear_72) hS42 (fun H44 locs44 U44 hC44 hS44 => ?_)
  obtain ⟨U44, F44⟩ := U44
  have hKp44 := Kp.upC gq43 rfl (by decide) rfl U44 hKp42
  refine lv_aload_n hx hb dX9_clear_75 rfl (lv_at hl 0 rfl) ?_
  refine q_getR E hC44 g0 fa_RX9_34 dX9_clear_76 (fun q45 eq45 gq45 => ?_)
  refine lv_iconst (v := 0) hx hb dX9_clear_79 rfl ?_
  refine q_goV (q_runS (As := [.ref q45, .int 0]) (rest := []) E hS44 (m_fillI l X Γ H44 hC44 q45 gq45 (by decide) rfl rfl (fun _ => rfl) (by decide) 0) cw_J7_fill_53178 cl_RX9_67 rfl hl.1 rfl (Nat.zero_le _) (by decide) dX9_clear_80) hS44 (fun H46 locs46 U46 hC46 hS46 => ?_)
  obtain ⟨U46, F46⟩ := U46
  have hKp46 := Kp.upC gq45 rfl (by decide) rfl U46 hKp44
  refine lv_aload_n hx hb dX9_clear_83 rfl (lv_at hl 0 rfl) ?_
  refine q_getR E hC46 g0 fa_RX9_37 dX9_clear_84 (fun q47 eq47 gq47 => ?_)
  refine lv_iconst (v := 0) hx hb dX9_clear_87 rfl ?_
  refine q_goV (q_runS (As := [.ref q47, .int 0]) (rest := []) E hS46 (m_fillI l X Γ H46 hC46 q47 gq47 (by decide) rfl rfl (fun _ => rfl) (by decide) 0) cw_J7_fill_53178 cl_RX9_67 rfl hl.1 rfl (Nat.zero_le _) (by decide) dX9_clear_88) hS46 (fun H48 locs48 U48 hC48 hS48 => ?_)
  obtain ⟨U48, F48⟩ := U48
  have hKp48 := Kp.upC gq47 rfl (by decide) rfl U48 hKp46
  refine lv_aload_n hx hb dX9_clear_91 rfl (lv_at hl 0 rfl) ?_
  refine q_getR E hC48 g0 fa_RX9_40 dX9_clear_92 (fun q49 eq49 gq49 => ?_)
  refine lv_iconst (v := 0) hx hb dX9_clear_95 rfl ?_
  refine q_goV (q_runS (As := [.ref q49, .int 0]) (rest := []) E hS48 (m_fillI l X Γ H48 hC48 q49 gq49 (by decide) rfl rfl (fun _ => rfl) (by decide) 0) cw_J7_fill_53178 cl_RX9_67 rfl hl.1 rfl (Nat.zero_le _) (by decide) dX9_clear_96) hS48 (fun H50 locs50 U50 hC50 hS50 => ?_)
  obtain ⟨U50, F50⟩ := U50
  have hKp50 := Kp.upC gq49 rfl (by decide) rfl U50 hKp48
  refine lv_aload_n hx hb dX9_clear_99 rfl (lv_at hl 0 rfl) ?_
  refine q_getR E hC50 g0 fa_RX9_43 dX9_clear_100 (fun q51 eq51 gq51 => ?_)
  refine lv_iconst (v := 0) hx hb dX9_clear_103 rfl ?_
  refine q_goV (q_runS (As := [.ref q51, .int 0]) (rest := []) E hS50 (m_fillI l X Γ H50 hC50 q51 gq51 (by decide) rfl rfl (fun _ => rfl) (by decide) 0) cw_J7_fill_53178 cl_RX9_67 rfl hl.1 rfl (Nat.zero_le _) (by decide) dX9_clear_104) hS50 (fun H52 locs52 U52 hC52 hS52 => ?_)
  obtain ⟨U52, F52⟩ := U52
  have hKp52 := Kp.upC gq51 rfl (by decide) rfl U52 hKp50
  refine lv_aload_n hx hb dX9_clear_107 rfl (lv_at hl 0 rfl) ?_
  refine q_getR E hC52 g0 fa_RX9_46 dX9_clear_108 (fun q53 eq53 gq53 => ?_)
  refine lv_iconst (v := 0) hx hb dX9_clear_111 rfl ?_
  refine q_goV (q_runS (As := [.ref q53, .int 0]) (rest := []) E hS52 (m_fillI l X Γ H52 hC52 q53 gq53 (by decide) rfl rfl (fun _ => rfl) (by decide) 0) cw_J7_fill_53178 cl_RX9_67 rfl hl.1 rfl (Nat.zero_le _) (by decide) dX9_clear_112) hS52 (fun H54 locs54 U54 hC54 hS54 => ?_)
  obtain ⟨U54, F54⟩ := U54
  have hKp54 := Kp.upC gq53 rfl (by decide) rfl U54 hKp52
  refine lv_aload_n hx hb dX9_clear_115 rfl (lv_at hl 0 rfl) ?_
  refine q_getR E hC54 g0 fa_RX9_49 dX9_clear_116 (fun q55 eq55 gq55 => ?_)
  refine lv_iconst (v := 0) hx hb dX9_clear_119 rfl ?_
  refine q_goV (q_runS (As := [.ref q55, .int 0]) (rest := []) E hS54 (m_fillI l X Γ H54 hC54 q55 gq55 (by decide) rfl rfl (fun _ => rfl) (by decide) 0) cw_J7_fill_53178 cl_RX9_67 rfl hl.1 rfl (Nat.zero_le _) (by decide) dX9_clear_120) hS54 (fun H56 locs56 U56 hC56 hS56 => ?_)
  obtain ⟨U56, F56⟩ := U56
  have hKp56 := Kp.upC gq55 rfl (by decide) rfl U56 hKp54
  exact ret H56 locs56 _ _ dX9_clear_123 hKp56 hC56 hS56
set_option maxRecDepth 100000 in
set_option maxHeartbeats 4000000 in
theorem m_X4_byteAt (l : Launch) (X : xW) (Γ : Nat → Option Nat) (H0 : Heap) (hC0 : Conf X Γ H0) (h0 : Nat) (g0 : Γ h0 = some 2) (p1 : Int32) {a1 : Int} (e1 : p1.toInt = a1) : Ctr l X Γ yX4_byteAt cX4_byteAt 2 (some .int) 0 [.ref h0, .int p1] H0 (QI X Γ (fun v H1 => H1 = H0 ∧ (True))) := by
  refine q_enterI (own := "SnowForts$Reader") (by decide) rfl (Nat.le_of_ble_eq_true rfl) ?_
  intro p e s m args below meth c ls Qz E hl ret hS0
  have hx := E.1; have hb := E.2.1
  have hl : lv_has ls 2 [(0, .ref h0), (1, .int p1)] := hl
  refine lv_iload_n hx hb dX4_byteAt_0 rfl (lv_at hl 1 rfl) ?_
  refine q_if_lt hx hb (a := a1) e1 (tgt := 28) dX4_byteAt_1 rfl (fun c21 => ?_) (fun c21 => ?_)
  · refine lv_iconst (v := (-1)) hx hb dX4_byteAt_28 rfl ?_
    exact ret (-1) H0 [] _ _ dX4_byteAt_29 ⟨rfl, trivial⟩ hC0 hS0
  · refine lv_iload_n hx hb dX4_byteAt_4 rfl (lv_at hl 1 rfl) ?_
    refine lv_aload_n hx hb dX4_byteAt_5 rfl (lv_at hl 0 rfl) ?_
    refine q_getI E hC0 g0 fa_RX4_48 dX4_byteAt_6 (fun v22 ev22 _ _ => ?_)
    have c23 := i_rng v22; rw [show v22.toInt = v22.toInt from rfl] at c23
    refine q_icmp_ge hx hb (a := a1) (b := v22.toInt) e1 rfl (tgt := 28) dX4_byteAt_9 rfl (fun c24 => ?_) (fun c24 => ?_)
    · refine lv_iconst (v := (-1)) hx hb dX4_byteAt_28 rfl ?_
      exact ret (-1) H0 [] _ _ dX4_byteAt_29 ⟨rfl, trivial⟩ hC0 hS0
    · refine lv_iload_n hx hb dX4_byteAt_12 rfl (lv_at hl 1 rfl) ?_
      refine lv_sipush (v := 900) hx hb dX4_byteAt_13 rfl ?_
      refine q_icmp_ge hx hb (a := a1) (b := 900) e1 (by decide) (tgt := 28) dX4_byteAt_16 rfl (fun c25 => ?_) (fun c25 => ?_)
      · refine lv_iconst (v := (-1)) hx hb dX4_byteAt_28 rfl ?_
        exact ret (-1) H0 [] _ _ dX4_byteAt_29 ⟨rfl, trivial⟩ hC0 hS0
      · refine lv_aload_n hx hb dX4_byteAt_19 rfl (lv_at hl 0 rfl) ?_
        refine q_getR E hC0 g0 fa_RX4_9 dX4_byteAt_20 (fun q26 eq26 gq26 => ?_)
        refine lv_iload_n hx hb dX4_byteAt_23 rfl (lv_at hl 1 rfl) ?_
        refine q_bald E hC0 gq26 rfl rfl (fun _ h => h) (i_in (a := a1) e1 (by omega) (by omega)) dX4_byteAt_24 (fun v27 ev27 _ _ => ?_)
        refine lv_goto (tgt := 29) hx hb dX4_byteAt_25 rfl ?_
        exact ret v27 H0 [] _ _ dX4_byteAt_29 ⟨rfl, trivial⟩ hC0 hS0
set_option maxRecDepth 100000 in
set_option maxHeartbeats 4000000 in
theorem m_X4_passBlanks (l : Launch) (X : xW) (Γ : Nat → Option Nat) (H0 : Heap) (hC0 : Conf X Γ H0) (h0 : Nat) (g0 : Γ h0 = some 2) : Ctr l X Γ yX4_passBlanks cX4_passBlanks 1 none 1 [.ref h0] H0 (QV X Γ (fun H1 => Kp X Γ [0, 2, 3, 4, 5, 18, 21, 23, 25, 27] H0 H1)) := by
  refine q_enterV (own := "SnowForts$Reader") (by decide) rfl (Nat.le_of_ble_eq_true rfl) ?_
  intro p e s m args below meth c ls Qz E hl ret hS0
  have hx := E.1; have hb := E.2.1
  have hKp0 : Kp X Γ [0, 2, 3, 4, 5, 18, 21, 23, 25, 27] H0 H0 := Kp.rf
  have hl : lv_has ls 1 [(0, .ref h0)] := hl
  have L0 : ∀ (n21 : Nat) (H21 : Heap) (locs21 : List Loc) (ls : Array Slot), ((sI H21 h0 (X.1.2 4 6)).toInt - (sI H21 h0 (X.1.2 4 7)).toInt).toNat < n21 → Conf X Γ H21 → va_S (AΓ Γ) H0 H21 locs21 → Kp X Γ [0, 2, 3, 4, 5, 18, 21, 23, 25, 27] H0 H21 → lv_has ls 1 [(0, .ref h0)] → W p l e (rmL 1) s m args below meth c H21 locs21 0 0 Qz (F0 m 0 ls []) := by
    intro n21
    induction n21 with
    | zero => intro H21 locs21 ls hm21 hC21 hS21 hKp21 hl; exact absurd hm21 (Nat.not_lt_zero _)
    | succ n21 ih21 =>
      intro H21 locs21 ls hm21 hC21 hS21 hKp21 hl
      refine lv_aload_n hx hb dX4_passBlanks_0 rfl (lv_at hl 0 rfl) ?_
      refine q_getI E hC21 g0 fa_RX4_51 dX4_passBlanks_1 (fun v22 ev22 _ _ => ?_)
      refine lv_aload_n hx hb dX4_passBlanks_4 rfl (lv_at hl 0 rfl) ?_
      refine q_getI E hC21 g0 fa_RX4_48 dX4_passBlanks_5 (fun v23 ev23 _ _ => ?_)
      have c24 := i_rng v22; rw [show v22.toInt = v22.toInt from rfl] at c24
      have c25 := i_rng v23; rw [show v23.toInt = v23.toInt from rfl] at c25
      refine q_icmp_ge hx hb (a := v22.toInt) (b := v23.toInt) rfl rfl (tgt := 50) dX4_passBlanks_8 rfl (fun c26 => ?_) (fun c26 => ?_)
      · exact ret H21 locs21 _ _ dX4_passBlanks_50 hKp21 hC21 hS21
      · refine lv_aload_n hx hb dX4_passBlanks_11 rfl (lv_at hl 0 rfl) ?_
        refine lv_aload_n hx hb dX4_passBlanks_12 rfl (lv_at hl 0 rfl) ?_
        refine q_getI E hC21 g0 fa_RX4_51 dX4_passBlanks_13 (fun v27 ev27 _ _ => ?_)
        have qv27 := ev22.symm.trans ev27; subst qv27
        refine q_goIp (q_runV (As := [.int v22]) (rest := []) E hC21 hS21 (m_X4_byteAt l X Γ H21 hC21 h0 g0 v22 (a1 := v22.toInt) rfl) cw_X4_byteAt cl_RX4_78 g0 ⟨rfl, rfl⟩ rfl hl.1 rfl (Nat.zero_le _) (by decide) dX4_passBlanks_16) hS21 (fun v28 locs28 hr28 hS28 => ?_)
        refine lv_bipush (v := 10) hx hb dX4_passBlanks_19 rfl ?_
        refine q_icmp_eq hx hb (a := v28.toInt) (b := 10) rfl (by decide) (tgt := 37) dX4_passBlanks_21 rfl (fun c29 => ?_) (fun c29 => ?_)
        · refine lv_aload_n hx hb dX4_passBlanks_37 rfl (lv_at hl 0 rfl) ?_
          refine lv_dup hx hb dX4_passBlanks_38 rfl ?_
          refine q_getI E hC21 g0 fa_RX4_51 dX4_passBlanks_39 (fun v30 ev30 _ _ => ?_)
          have qv30 := ev22.symm.trans ev30; subst qv30
          refine lv_iconst (v := 1) hx hb dX4_passBlanks_42 rfl ?_
          refine lv_iadd hx hb dX4_passBlanks_43 (lv_topi (fun v31 ev31 => ?_))
          have ev31i : v31.toInt = (v22.toInt + 1) := i_add ev31 rfl (by decide) (by omega) (by omega)
          refine q_put E hC21 hS28 g0 fp_RX4_51 tv_F rfl rfl dX4_passBlanks_44 (fun H32 locs32 hC32 hS32 U32 => ?_)
          have hKp32 := Kp.upO E g0 fp_RX4_51 rfl U32 hKp21
          have e33 := up_I U32
          refine lv_goto (tgt := 0) hx hb dX4_passBlanks_47 rfl ?_
          have m1_length : (sI H21 h0 (X.1.2 4 6)).toInt = v23.toInt := (congrArg Int32.toInt ev23).trans rfl
          have e34 := (up_nI U32 (ne_f E 4 6 7 rfl (by decide) (by decide) (by decide))).trans ev23
          have m2_length : (sI H32 h0 (X.1.2 4 6)).toInt = v23.toInt := (congrArg Int32.toInt e34).trans rfl
          have m1_next : (sI H21 h0 (X.1.2 4 7)).toInt = v22.toInt := (congrArg Int32.toInt ev22).trans rfl
          have m2_next : (sI H32 h0 (X.1.2 4 7)).toInt = (v22.toInt + 1) := (congrArg Int32.toInt e33).trans ev31i
          exact ih21 H32 locs32 ls (by omega) hC32 hS32 hKp32 hl
        · refine lv_aload_n hx hb dX4_passBlanks_24 rfl (lv_at hl 0 rfl) ?_
          refine lv_aload_n hx hb dX4_passBlanks_25 rfl (lv_at hl 0 rfl) ?_
          refine q_getI E hC21 g0 fa_RX4_51 dX4_passBlanks_26 (fun v35 ev35 _ _ => ?_)
          have qv35 := ev22.symm.trans ev35; subst qv35
          refine q_goIp (q_runV (As := [.int v22]) (rest := []) E hC21 hS28 (m_X4_byteAt l X Γ H21 hC21 h0 g0 v22 (a1 := v22.toInt) rfl) cw_X4_byteAt cl_RX4_78 g0 ⟨rfl, rfl⟩ rfl hl.1 rfl (Nat.zero_le _) (by decide) dX4_passBlanks_29) hS28 (fun v36 locs36 hr36 hS36 => ?_)
          refine lv_bipush (v := 32) hx hb dX4_passBlanks_32 rfl ?_
          refine q_icmp_ne hx hb (a := v36.toInt) (b := 32) rfl (by decide) (tgt := 50) dX4_passBlanks_34 rfl (fun c37 => ?_) (fun c37 => ?_)
          · exact ret H21 locs36 _ _ dX4_passBlanks_50 hKp21 hC21 hS36
          · refine lv_aload_n hx hb dX4_passBlanks_37 rfl (lv_at hl 0 rfl) ?_
            refine lv_dup hx hb dX4_passBlanks_38 rfl ?_
            refine q_getI E hC21 g0 fa_RX4_51 dX4_passBlanks_39 (fun v38 ev38 _ _ => ?_)
            have qv38 := ev22.symm.trans ev38; subst qv38
            refine lv_iconst (v := 1) hx hb dX4_passBlanks_42 rfl ?_
            refine lv_iadd hx hb dX4_passBlanks_43 (lv_topi (fun v39 ev39 => ?_))
            have ev39i : v39.toInt = (v22.toInt + 1) := i_add ev39 rfl (by decide) (by omega) (by omega)
            refine q_put E hC21 hS36 g0 fp_RX4_51 tv_F rfl rfl dX4_passBlanks_44 (fun H40 locs40 hC40 hS40 U40 => ?_)
            have hKp40 := Kp.upO E g0 fp_RX4_51 rfl U40 hKp21
            have e41 := up_I U40
            refine lv_goto (tgt := 0) hx hb dX4_passBlanks_47 rfl ?_
            have m1_length : (sI H21 h0 (X.1.2 4 6)).toInt = v23.toInt := (congrArg Int32.toInt ev23).trans rfl
            have e42 := (up_nI U40 (ne_f E 4 6 7 rfl (by decide) (by decide) (by decide))).trans ev23
            have m2_length : (sI H40 h0 (X.1.2 4 6)).toInt = v23.toInt := (congrArg Int32.toInt e42).trans rfl
            have m1_next : (sI H21 h0 (X.1.2 4 7)).toInt = v22.toInt := (congrArg Int32.toInt ev22).trans rfl
            have m2_next : (sI H40 h0 (X.1.2 4 7)).toInt = (v22.toInt + 1) := (congrArg Int32.toInt e41).trans ev39i
            exact ih21 H40 locs40 ls (by omega) hC40 hS40 hKp40 hl
  exact L0 _ H0 [] ls (Nat.lt_succ_self _) hC0 hS0 hKp0 hl
set_option maxRecDepth 100000 in
set_option maxHeartbeats 4000000 in
theorem m_X4_isLetter (l : Launch) (X : xW) (Γ : Nat → Option Nat) (H0 : Heap) (hC0 : Conf X Γ H0) (p0 : Int32) {a0 : Int} (e0 : p0.toInt = a0) : Ctr l X Γ yX4_isLetter cX4_isLetter 1 (some .boolean) 0 [.int p0] H0 (QI X Γ (fun v H1 => H1 = H0 ∧ (v = 0 ∨ v = 1))) := by
  refine q_enterZ (own := "SnowForts$Reader") (by decide) rfl (Nat.le_of_ble_eq_true rfl) ?_
  intro p e s m args below meth c ls Qz E hl ret hS0
  have hx := E.1; have hb := E.2.1
  have hl : lv_has ls 1 [(0, .int p0)] := hl
  refine lv_iload_n hx hb dX4_isLetter_0 rfl (lv_at hl 0 rfl) ?_
  refine lv_bipush (v := 97) hx hb dX4_isLetter_1 rfl ?_
  refine q_icmp_lt hx hb (a := a0) (b := 97) e0 (by decide) (tgt := 16) dX4_isLetter_3 rfl (fun c21 => ?_) (fun c21 => ?_)
  · refine lv_iconst (v := 0) hx hb dX4_isLetter_16 rfl ?_
    exact ret 0 H0 [] _ _ dX4_isLetter_17 (Or.inl rfl) ⟨rfl, Or.inl rfl⟩ hC0 hS0
  · refine lv_iload_n hx hb dX4_isLetter_6 rfl (lv_at hl 0 rfl) ?_
    refine lv_bipush (v := 122) hx hb dX4_isLetter_7 rfl ?_
    refine q_icmp_gt hx hb (a := a0) (b := 122) e0 (by decide) (tgt := 16) dX4_isLetter_9 rfl (fun c22 => ?_) (fun c22 => ?_)
    · refine lv_iconst (v := 0) hx hb dX4_isLetter_16 rfl ?_
      exact ret 0 H0 [] _ _ dX4_isLetter_17 (Or.inl rfl) ⟨rfl, Or.inl rfl⟩ hC0 hS0
    · refine lv_iconst (v := 1) hx hb dX4_isLetter_12 rfl ?_
      refine lv_goto (tgt := 17) hx hb dX4_isLetter_13 rfl ?_
      exact ret 1 H0 [] _ _ dX4_isLetter_17 (Or.inr rfl) ⟨rfl, Or.inr rfl⟩ hC0 hS0
set_option maxRecDepth 100000 in
set_option maxHeartbeats 4000000 in
theorem m_X4_isDigit (l : Launch) (X : xW) (Γ : Nat → Option Nat) (H0 : Heap) (hC0 : Conf X Γ H0) (p0 : Int32) {a0 : Int} (e0 : p0.toInt = a0) : Ctr l X Γ yX4_isDigit cX4_isDigit 1 (some .boolean) 0 [.int p0] H0 (QI X Γ (fun v H1 => H1 = H0 ∧ (v = 0 ∨ v = 1))) := by
  refine q_enterZ (own := "SnowForts$Reader") (by decide) rfl (Nat.le_of_ble_eq_true rfl) ?_
  intro p e s m args below meth c ls Qz E hl ret hS0
  have hx := E.1; have hb := E.2.1
  have hl : lv_has ls 1 [(0, .int p0)] := hl
  refine lv_iload_n hx hb dX4_isDigit_0 rfl (lv_at hl 0 rfl) ?_
  refine lv_bipush (v := 48) hx hb dX4_isDigit_1 rfl ?_
  refine q_icmp_lt hx hb (a := a0) (b := 48) e0 (by decide) (tgt := 16) dX4_isDigit_3 rfl (fun c21 => ?_) (fun c21 => ?_)
  · refine lv_iconst (v := 0) hx hb dX4_isDigit_16 rfl ?_
    exact ret 0 H0 [] _ _ dX4_isDigit_17 (Or.inl rfl) ⟨rfl, Or.inl rfl⟩ hC0 hS0
  · refine lv_iload_n hx hb dX4_isDigit_6 rfl (lv_at hl 0 rfl) ?_
    refine lv_bipush (v := 57) hx hb dX4_isDigit_7 rfl ?_
    refine q_icmp_gt hx hb (a := a0) (b := 57) e0 (by decide) (tgt := 16) dX4_isDigit_9 rfl (fun c22 => ?_) (fun c22 => ?_)
    · refine lv_iconst (v := 0) hx hb dX4_isDigit_16 rfl ?_
      exact ret 0 H0 [] _ _ dX4_isDigit_17 (Or.inl rfl) ⟨rfl, Or.inl rfl⟩ hC0 hS0
    · refine lv_iconst (v := 1) hx hb dX4_isDigit_12 rfl ?_
      refine lv_goto (tgt := 17) hx hb dX4_isDigit_13 rfl ?_
      exact ret 1 H0 [] _ _ dX4_isDigit_17 (Or.inr rfl) ⟨rfl, Or.inr rfl⟩ hC0 hS0
set_option maxRecDepth 100000 in
set_option maxHeartbeats 4000000 in
theorem m_X4_kindHere (l : Launch) (X : xW) (Γ : Nat → Option Nat) (H0 : Heap) (hC0 : Conf X Γ H0) (h0 : Nat) (g0 : Γ h0 = some 2) : Ctr l X Γ yX4_kindHere cX4_kindHere 2 (some .int) 1 [.ref h0] H0 (QI X Γ (fun v H1 => H1 = H0 ∧ (True))) := by
  refine q_enterI (own := "SnowForts$Reader") (by decide) rfl (Nat.le_of_ble_eq_true rfl) ?_
  intro p e s m args below meth c ls Qz E hl ret hS0
  have hx := E.1; have hb := E.2.1
  have hl : lv_has ls 2 [(0, .ref h0)] := hl
  refine lv_aload_n hx hb dX4_kindHere_0 rfl (lv_at hl 0 rfl) ?_
  refine q_getI E hC0 g0 fa_RX4_51 dX4_kindHere_1 (fun v21 ev21 _ _ => ?_)
  refine lv_aload_n hx hb dX4_kindHere_4 rfl (lv_at hl 0 rfl) ?_
  refine q_getI E hC0 g0 fa_RX4_48 dX4_kindHere_5 (fun v22 ev22 _ _ => ?_)
  have c23 := i_rng v21; rw [show v21.toInt = v21.toInt from rfl] at c23
  have c24 := i_rng v22; rw [show v22.toInt = v22.toInt from rfl] at c24
  refine q_icmp_lt hx hb (a := v21.toInt) (b := v22.toInt) rfl rfl (tgt := 13) dX4_kindHere_8 rfl (fun c25 => ?_) (fun c25 => ?_)
  · refine lv_aload_n hx hb dX4_kindHere_13 rfl (lv_at hl 0 rfl) ?_
    refine lv_aload_n hx hb dX4_kindHere_14 rfl (lv_at hl 0 rfl) ?_
    refine q_getI E hC0 g0 fa_RX4_51 dX4_kindHere_15 (fun v26 ev26 _ _ => ?_)
    have qv26 := ev21.symm.trans ev26; subst qv26
    refine q_goIp (q_runV (As := [.int v21]) (rest := []) E hC0 hS0 (m_X4_byteAt l X Γ H0 hC0 h0 g0 v21 (a1 := v21.toInt) rfl) cw_X4_byteAt cl_RX4_78 g0 ⟨rfl, rfl⟩ rfl hl.1 rfl (Nat.zero_le _) (by decide) dX4_kindHere_18) hS0 (fun v27 locs27 hr27 hS27 => ?_)
    refine lv_istore_n hx hb dX4_kindHere_21 rfl hl (by decide) rfl (fun ls hl => ?_)
    replace hl : lv_has ls 2 [(1, .int v27), (0, .ref h0)] := hl
    refine lv_iload_n hx hb dX4_kindHere_22 rfl (lv_at hl 0 rfl) ?_
    refine q_goIp (q_runS (As := [.int v27]) (rest := []) E hS27 (m_X4_isLetter l X Γ H0 hC0 v27 (a0 := v27.toInt) rfl) cw_X4_isLetter cl_RX4_82 rfl hl.1 rfl (Nat.zero_le _) (by decide) dX4_kindHere_23) hS27 (fun v28 locs28 hr28 hS28 => ?_)
    rcases hr28 with rfl | rfl
    · refine q_if_eq hx hb (a := 0) (by decide) (tgt := 31) dX4_kindHere_26 rfl (fun c29 => ?_) (fun c29 => absurd c29 (by omega))
      refine lv_iload_n hx hb dX4_kindHere_31 rfl (lv_at hl 0 rfl) ?_
      refine q_goIp (q_runS (As := [.int v27]) (rest := []) E hS28 (m_X4_isDigit l X Γ H0 hC0 v27 (a0 := v27.toInt) rfl) cw_X4_isDigit cl_RX4_86 rfl hl.1 rfl (Nat.zero_le _) (by decide) dX4_kindHere_32) hS28 (fun v30 locs30 hr30 hS30 => ?_)
      rcases hr30 with rfl | rfl
      · refine q_if_eq hx hb (a := 0) (by decide) (tgt := 40) dX4_kindHere_35 rfl (fun c31 => ?_) (fun c31 => absurd c31 (by omega))
        refine lv_iload_n hx hb dX4_kindHere_40 rfl (lv_at hl 0 rfl) ?_
        refine lv_bipush (v := 59) hx hb dX4_kindHere_41 rfl ?_
        refine q_icmp_lt hx hb (a := v27.toInt) (b := 59) rfl (by decide) (tgt := 56) dX4_kindHere_43 rfl (fun c32 => ?_) (fun c32 => ?_)
        · refine lv_iconst (v := 1) hx hb dX4_kindHere_56 rfl ?_
          exact ret 1 H0 locs30 _ _ dX4_kindHere_57 ⟨rfl, trivial⟩ hC0 hS30
        · refine lv_iload_n hx hb dX4_kindHere_46 rfl (lv_at hl 0 rfl) ?_
          refine lv_bipush (v := 62) hx hb dX4_kindHere_47 rfl ?_
          refine q_icmp_gt hx hb (a := v27.toInt) (b := 62) rfl (by decide) (tgt := 56) dX4_kindHere_49 rfl (fun c33 => ?_) (fun c33 => ?_)
          · refine lv_iconst (v := 1) hx hb dX4_kindHere_56 rfl ?_
            exact ret 1 H0 locs30 _ _ dX4_kindHere_57 ⟨rfl, trivial⟩ hC0 hS30
          · refine lv_iload_n hx hb dX4_kindHere_52 rfl (lv_at hl 0 rfl) ?_
            refine lv_goto (tgt := 57) hx hb dX4_kindHere_53 rfl ?_
            exact ret v27 H0 locs30 _ _ dX4_kindHere_57 ⟨rfl, trivial⟩ hC0 hS30
      · refine q_if_eq hx hb (a := 1) (by decide) (tgt := 40) dX4_kindHere_35 rfl (fun c34 => absurd c34 (by omega)) (fun c34 => ?_)
        refine lv_iconst (v := 3) hx hb dX4_kindHere_38 rfl ?_
        exact ret 3 H0 locs30 _ _ dX4_kindHere_39 ⟨rfl, trivial⟩ hC0 hS30
    · refine q_if_eq hx hb (a := 1) (by decide) (tgt := 31) dX4_kindHere_26 rfl (fun c35 => absurd c35 (by omega)) (fun c35 => ?_)
      refine lv_iconst (v := 2) hx hb dX4_kindHere_29 rfl ?_
      exact ret 2 H0 locs28 _ _ dX4_kindHere_30 ⟨rfl, trivial⟩ hC0 hS28
  · refine lv_iconst (v := 0) hx hb dX4_kindHere_11 rfl ?_
    exact ret 0 H0 [] _ _ dX4_kindHere_12 ⟨rfl, trivial⟩ hC0 hS0
set_option maxRecDepth 100000 in
set_option maxHeartbeats 4000000 in
theorem m_X4_passWord (l : Launch) (X : xW) (Γ : Nat → Option Nat) (H0 : Heap) (hC0 : Conf X Γ H0) (h0 : Nat) (g0 : Γ h0 = some 2) : Ctr l X Γ yX4_passWord cX4_passWord 4 (some .long) 1 [.ref h0] H0 (QJ X Γ (fun v H1 => Kp X Γ [0, 2, 3, 4, 5, 18, 21, 23, 25, 27] H0 H1 ∧ (True))) := by
  refine q_enterJ (own := "SnowForts$Reader") (by decide) rfl (Nat.le_of_ble_eq_true rfl) ?_
  intro p e s m args below meth c ls Qz E hl ret hS0
  have hx := E.1; have hb := E.2.1
  have hKp0 : Kp X Γ [0, 2, 3, 4, 5, 18, 21, 23, 25, 27] H0 H0 := Kp.rf
  have hl : lv_has ls 4 [(0, .ref h0)] := hl
  refine lv_aload_n hx hb dX4_passWord_0 rfl (lv_at hl 0 rfl) ?_
  refine q_getI E hC0 g0 fa_RX4_51 dX4_passWord_1 (fun v21 ev21 _ _ => ?_)
  refine lv_istore_n hx hb dX4_passWord_4 rfl hl (by decide) rfl (fun ls hl => ?_)
  replace hl : lv_has ls 4 [(1, .int v21), (0, .ref h0)] := hl
  refine lv_lconst (v := 0) hx hb dX4_passWord_5 rfl ?_
  refine lv_lstore_n hx hb dX4_passWord_6 rfl hl (by decide) rfl (fun ls hl => ?_)
  replace hl : lv_has ls 4 [(2, .long 0), (1, .int v21), (0, .ref h0)] := hl
  have L7 : ∀ (n23 : Nat) (H23 : Heap) (locs23 : List Loc) (v22 : Int64) (z22 : Int) (ls : Array Slot), ((sI H23 h0 (X.1.2 4 6)).toInt - (sI H23 h0 (X.1.2 4 7)).toInt).toNat < n23 → v22.toInt = z22 → Conf X Γ H23 → va_S (AΓ Γ) H0 H23 locs23 → Kp X Γ [0, 2, 3, 4, 5, 18, 21, 23, 25, 27] H0 H23 → lv_has ls 4 [(2, .long v22), (1, .int v21), (0, .ref h0)] → W p l e (rmL 1) s m args below meth c H23 locs23 0 0 Qz (F0 m 7 ls []) := by
    intro n23
    induction n23 with
    | zero => intro H23 locs23 v22 z22 ls hm23 ev22 hC23 hS23 hKp23 hl; exact absurd hm23 (Nat.not_lt_zero _)
    | succ n23 ih23 =>
      intro H23 locs23 v22 z22 ls hm23 ev22 hC23 hS23 hKp23 hl
      refine lv_aload_n hx hb dX4_passWord_7 rfl (lv_at hl 2 rfl) ?_
      refine q_getI E hC23 g0 fa_RX4_51 dX4_passWord_8 (fun v24 ev24 _ _ => ?_)
      refine lv_aload_n hx hb dX4_passWord_11 rfl (lv_at hl 2 rfl) ?_
      refine q_getI E hC23 g0 fa_RX4_48 dX4_passWord_12 (fun v25 ev25 _ _ => ?_)
      have c26 := i_rng v24; rw [show v24.toInt = v24.toInt from rfl] at c26
      have c27 := i_rng v25; rw [show v25.toInt = v25.toInt from rfl] at c27
      refine q_icmp_ge hx hb (a := v24.toInt) (b := v25.toInt) rfl rfl (tgt := 67) dX4_passWord_15 rfl (fun c28 => ?_) (fun c28 => ?_)
      · refine lv_aload_n hx hb dX4_passWord_67 rfl (lv_at hl 2 rfl) ?_
        refine q_getI E hC23 g0 fa_RX4_51 dX4_passWord_68 (fun v29 ev29 _ _ => ?_)
        have qv29 := ev24.symm.trans ev29; subst qv29
        refine lv_iload_n hx hb dX4_passWord_71 rfl (lv_at hl 1 rfl) ?_
        refine lv_isub hx hb dX4_passWord_72 (lv_topi (fun v30 ev30 => ?_))
        refine lv_bipush (v := 8) hx hb dX4_passWord_73 rfl ?_
        refine q_icmp_le hx hb (a := v30.toInt) (b := 8) rfl (by decide) (tgt := 82) dX4_passWord_75 rfl (fun c31 => ?_) (fun c31 => ?_)
        · refine lv_lload_n hx hb dX4_passWord_82 rfl (lv_at hl 0 rfl) ?_
          exact ret v22 H23 locs23 _ _ dX4_passWord_83 ⟨hKp23, trivial⟩ hC23 hS23
        · refine lv_lconst (v := 0) hx hb dX4_passWord_78 rfl ?_
          refine lv_goto (tgt := 83) hx hb dX4_passWord_79 rfl ?_
          exact ret 0 H23 locs23 _ _ dX4_passWord_83 ⟨hKp23, trivial⟩ hC23 hS23
      · refine lv_aload_n hx hb dX4_passWord_18 rfl (lv_at hl 2 rfl) ?_
        refine lv_aload_n hx hb dX4_passWord_19 rfl (lv_at hl 2 rfl) ?_
        refine q_getI E hC23 g0 fa_RX4_51 dX4_passWord_20 (fun v32 ev32 _ _ => ?_)
        have qv32 := ev24.symm.trans ev32; subst qv32
        refine q_goIp (q_runV (As := [.int v24]) (rest := []) E hC23 hS23 (m_X4_byteAt l X Γ H23 hC23 h0 g0 v24 (a1 := v24.toInt) rfl) cw_X4_byteAt cl_RX4_78 g0 ⟨rfl, rfl⟩ rfl hl.1 rfl (Nat.zero_le _) (by decide) dX4_passWord_23) hS23 (fun v33 locs33 hr33 hS33 => ?_)
        refine q_goIp (q_runS (As := [.int v33]) (rest := []) E hS33 (m_X4_isLetter l X Γ H23 hC23 v33 (a0 := v33.toInt) rfl) cw_X4_isLetter cl_RX4_82 rfl hl.1 rfl (Nat.zero_le _) (by decide) dX4_passWord_26) hS33 (fun v34 locs34 hr34 hS34 => ?_)
        rcases hr34 with rfl | rfl
        · refine q_if_eq hx hb (a := 0) (by decide) (tgt := 67) dX4_passWord_29 rfl (fun c35 => ?_) (fun c35 => absurd c35 (by omega))
          refine lv_aload_n hx hb dX4_passWord_67 rfl (lv_at hl 2 rfl) ?_
          refine q_getI E hC23 g0 fa_RX4_51 dX4_passWord_68 (fun v36 ev36 _ _ => ?_)
          have qv36 := ev24.symm.trans ev36; subst qv36
          refine lv_iload_n hx hb dX4_passWord_71 rfl (lv_at hl 1 rfl) ?_
          refine lv_isub hx hb dX4_passWord_72 (lv_topi (fun v37 ev37 => ?_))
          refine lv_bipush (v := 8) hx hb dX4_passWord_73 rfl ?_
          refine q_icmp_le hx hb (a := v37.toInt) (b := 8) rfl (by decide) (tgt := 82) dX4_passWord_75 rfl (fun c38 => ?_) (fun c38 => ?_)
          · refine lv_lload_n hx hb dX4_passWord_82 rfl (lv_at hl 0 rfl) ?_
            exact ret v22 H23 locs34 _ _ dX4_passWord_83 ⟨hKp23, trivial⟩ hC23 hS34
          · refine lv_lconst (v := 0) hx hb dX4_passWord_78 rfl ?_
            refine lv_goto (tgt := 83) hx hb dX4_passWord_79 rfl ?_
            exact ret 0 H23 locs34 _ _ dX4_passWord_83 ⟨hKp23, trivial⟩ hC23 hS34
        · refine q_if_eq hx hb (a := 1) (by decide) (tgt := 67) dX4_passWord_29 rfl (fun c39 => absurd c39 (by omega)) (fun c39 => ?_)
          refine lv_lload_n hx hb dX4_passWord_32 rfl (lv_at hl 0 rfl) ?_
          refine lv_ldc2 (v := 27) hx hb E.2.2.2.1 (E.2.2.2.2.1 _ w_599) dX4_passWord_33 ?_
          refine lv_lmul hx hb dX4_passWord_36 (lv_topl (fun v40 ev40 => ?_))
          refine lv_aload_n hx hb dX4_passWord_37 rfl (lv_at hl 2 rfl) ?_
          refine lv_aload_n hx hb dX4_passWord_38 rfl (lv_at hl 2 rfl) ?_
          refine q_getI E hC23 g0 fa_RX4_51 dX4_passWord_39 (fun v41 ev41 _ _ => ?_)
          have qv41 := ev24.symm.trans ev41; subst qv41
          refine q_goIp (q_runV (As := [.int v24]) (rest := [.long v40]) E hC23 hS34 (m_X4_byteAt l X Γ H23 hC23 h0 g0 v24 (a1 := v24.toInt) rfl) cw_X4_byteAt cl_RX4_78 g0 ⟨rfl, rfl⟩ rfl hl.1 rfl (show _ ≤ _ from by simp [Value.category]) (by decide) dX4_passWord_42) hS34 (fun v42 locs42 hr42 hS42 => ?_)
          refine lv_i2l (v := v42.toInt64) hx hb dX4_passWord_45 rfl (lv_topl (fun v43 ev43 => ?_))
          have ev43i : v43.toInt = v42.toInt := l_ofi ev43.symm rfl
          refine lv_ladd hx hb dX4_passWord_46 (lv_topl (fun v44 ev44 => ?_))
          refine lv_ldc2 (v := 97) hx hb E.2.2.2.1 (E.2.2.2.2.1 _ w_600) dX4_passWord_47 ?_
          refine lv_lsub hx hb dX4_passWord_50 (lv_topl (fun v45 ev45 => ?_))
          refine lv_lconst (v := 1) hx hb dX4_passWord_51 rfl ?_
          refine lv_ladd hx hb dX4_passWord_52 (lv_topl (fun v46 ev46 => ?_))
          refine lv_lstore_n hx hb dX4_passWord_53 rfl hl (by decide) rfl (fun ls hl => ?_)
          replace hl : lv_has ls 4 [(2, .long v46), (1, .int v21), (0, .ref h0)] := hl
          refine lv_aload_n hx hb dX4_passWord_54 rfl (lv_at hl 2 rfl) ?_
          refine lv_dup hx hb dX4_passWord_55 rfl ?_
          refine q_getI E hC23 g0 fa_RX4_51 dX4_passWord_56 (fun v47 ev47 _ _ => ?_)
          have qv47 := ev24.symm.trans ev47; subst qv47
          refine lv_iconst (v := 1) hx hb dX4_passWord_59 rfl ?_
          refine lv_iadd hx hb dX4_passWord_60 (lv_topi (fun v48 ev48 => ?_))
          have ev48i : v48.toInt = (v24.toInt + 1) := i_add ev48 rfl (by decide) (by omega) (by omega)
          refine q_put E hC23 hS42 g0 fp_RX4_51 tv_F rfl rfl dX4_passWord_61 (fun H49 locs49 hC49 hS49 U49 => ?_)
          have hKp49 := Kp.upO E g0 fp_RX4_51 rfl U49 hKp23
          have e50 := up_I U49
          refine lv_goto (tgt := 7) hx hb dX4_passWord_64 rfl ?_
          have m1_length : (sI H23 h0 (X.1.2 4 6)).toInt = v25.toInt := (congrArg Int32.toInt ev25).trans rfl
          have e51 := (up_nI U49 (ne_f E 4 6 7 rfl (by decide) (by decide) (by decide))).trans ev25
          have m2_length : (sI H49 h0 (X.1.2 4 6)).toInt = v25.toInt := (congrArg Int32.toInt e51).trans rfl
          have m1_next : (sI H23 h0 (X.1.2 4 7)).toInt = v24.toInt := (congrArg Int32.toInt ev24).trans rfl
          have m2_next : (sI H49 h0 (X.1.2 4 7)).toInt = (v24.toInt + 1) := (congrArg Int32.toInt e50).trans ev48i
          exact ih23 H49 locs49 v46 (v46.toInt) ls (by omega) rfl hC49 hS49 hKp49 hl
  exact L7 _ H0 [] 0 0 ls (Nat.lt_succ_self _) (show (0 : Int64).toInt = 0 from by decide) hC0 hS0 hKp0 hl
set_option maxRecDepth 100000 in
set_option maxHeartbeats 4000000 in
theorem m_X8_of (l : Launch) (X : xW) (Γ : Nat → Option Nat) (H0 : Heap) (hC0 : Conf X Γ H0) (p0 : Int64) {a0 : Int} (e0 : p0.toInt = a0) : Ctr l X Γ yX8_of cX8_of 6 (some (.object "SnowForts$Word")) 0 [.long p0] H0 (QQ X Γ (fun v H1 => H1 = H0 ∧ (∀ q, v = some q → Γ q = some 12))) := by
  refine q_enterQ (own := "SnowForts$Word") (by decide) rfl (Nat.le_of_ble_eq_true rfl) ?_
  intro p e s m args below meth c ls Qz E hl ret hS0
  have hx := E.1; have hb := E.2.1
  have hl : lv_has ls 6 [(0, .long p0)] := hl
  refine q_stALL E hS0 w_604 dX8_of_0 (fun q21 tq21 => ?_)
  refine lv_astore_n hx hb dX8_of_3 rfl hl (by decide) rfl (fun ls hl => ?_)
  replace hl : lv_has ls 6 [(2, .ref q21), (0, .long p0)] := hl
  refine lv_aload_n hx hb dX8_of_4 rfl (lv_at hl 0 rfl) ?_
  refine q_lenALL E hS0 tq21 dX8_of_5 ?_
  refine lv_istore_n hx hb dX8_of_6 rfl hl (by decide) rfl (fun ls hl => ?_)
  replace hl : lv_has ls 6 [(3, .int 29), (2, .ref q21), (0, .long p0)] := hl
  refine lv_iconst (v := 0) hx hb dX8_of_7 rfl ?_
  refine lv_istore hx hb dX8_of_8 hl (by decide) rfl (fun ls hl => ?_)
  replace hl : lv_has ls 6 [(4, .int 0), (3, .int 29), (2, .ref q21), (0, .long p0)] := hl
  have L10 : ∀ (n23 : Nat) (locs23 : List Loc) (v22 : Int32) (z22 : Int) (ls : Array Slot), (29 - z22).toNat < n23 → v22.toInt = z22 → z22 ≤ 29 → 0 ≤ z22 → va_S (AΓ Γ) H0 H0 locs23 → lv_has ls 6 [(4, .int v22), (3, .int 29), (2, .ref q21), (0, .long p0)] → W p l e (rmL 0) s m args below meth c H0 locs23 0 0 Qz (F0 m 10 ls []) := by
    intro n23
    induction n23 with
    | zero => intro locs23 v22 z22 ls hm23 ev22 iv23_0 iv23_1 hS23 hl; exact absurd hm23 (Nat.not_lt_zero _)
    | succ n23 ih23 =>
      intro locs23 v22 z22 ls hm23 ev22 iv23_0 iv23_1 hS23 hl
      refine lv_iload hx hb dX8_of_10 (lv_at hl 0 rfl) ?_
      refine lv_iload_n hx hb dX8_of_12 rfl (lv_at hl 1 rfl) ?_
      refine q_icmp_ge hx hb (a := z22) (b := 29) ev22 (by decide) (tgt := 41) dX8_of_13 rfl (fun c24 => ?_) (fun c24 => ?_)
      · refine lv_null hx hb dX8_of_41 ?_
        exact ret none H0 locs23 _ _ dX8_of_42 ⟨rfl, (fun _ h => by cases h)⟩ hC0 hS23
      · refine lv_aload_n hx hb dX8_of_16 rfl (lv_at hl 2 rfl) ?_
        refine lv_iload hx hb dX8_of_17 (lv_at hl 0 rfl) ?_
        refine q_ldALL E hS23 tq21 (i_in (a := z22) ev22 (by omega) (by omega)) dX8_of_19 (fun q25 gq25 => ?_)
        refine lv_astore hx hb dX8_of_20 hl (by decide) rfl (fun ls hl => ?_)
        replace hl : lv_has ls 6 [(5, .ref q25), (4, .int v22), (3, .int 29), (2, .ref q21), (0, .long p0)] := hl
        refine lv_aload hx hb dX8_of_22 (lv_at hl 0 rfl) ?_
        refine q_letters E hS23 gq25 w_2001 dX8_of_24 (fun v26 => ?_)
        refine lv_lload_n hx hb dX8_of_27 rfl (lv_at hl 4 rfl) ?_
        refine q_lcmp_ne hx hb (a := v26.toInt) (b := a0) rfl e0 (tgt := 35) dX8_of_28 dX8_of_29 rfl (fun c27 => ?_) (fun c27 => ?_)
        · obtain ⟨v28, ev28⟩ : ∃ z, z = v22 + Int32.ofInt 1 := ⟨_, rfl⟩
          have ev28i : v28.toInt = (z22 + 1) := i_add ev28 ev22 (by decide) (by omega) (by omega)
          refine lv_iinc hx hb dX8_of_35 hl (k := 1) rfl ev28.symm (by decide) rfl (fun ls hl => ?_)
          replace hl : lv_has ls 6 [(4, .int v28), (5, .ref q25), (3, .int 29), (2, .ref q21), (0, .long p0)] := hl
          refine lv_goto (tgt := 10) hx hb dX8_of_38 rfl ?_
          exact ih23 locs23 v28 ((z22 + 1)) ls (by omega) ev28i (by omega) (by omega) hS23 (lv_sub hl [0, 2, 3, 4] rfl)
        · refine lv_aload hx hb dX8_of_32 (lv_at hl 0 rfl) ?_
          exact ret (some q25) H0 locs23 _ _ dX8_of_34 ⟨rfl, (fun _ h => by cases h; exact gq25)⟩ hC0 hS23
  exact L10 _ [] 0 0 ls (Nat.lt_succ_self _) (by decide) (by omega) (by omega) hS0 hl
set_option maxRecDepth 100000 in
set_option maxHeartbeats 4000000 in
theorem m_X4_passNumber (l : Launch) (X : xW) (Γ : Nat → Option Nat) (H0 : Heap) (hC0 : Conf X Γ H0) (h0 : Nat) (g0 : Γ h0 = some 2) : Ctr l X Γ yX4_passNumber cX4_passNumber 3 (some .int) 1 [.ref h0] H0 (QI X Γ (fun v H1 => Kp X Γ [0, 2, 3, 4, 5, 18, 21, 23, 25, 27] H0 H1 ∧ (True))) := by
  refine q_enterI (own := "SnowForts$Reader") (by decide) rfl (Nat.le_of_ble_eq_true rfl) ?_
  intro p e s m args below meth c ls Qz E hl ret hS0
  have hx := E.1; have hb := E.2.1
  have hKp0 : Kp X Γ [0, 2, 3, 4, 5, 18, 21, 23, 25, 27] H0 H0 := Kp.rf
  have hl : lv_has ls 3 [(0, .ref h0)] := hl
  refine lv_aload_n hx hb dX4_passNumber_0 rfl (lv_at hl 0 rfl) ?_
  refine q_getI E hC0 g0 fa_RX4_51 dX4_passNumber_1 (fun v21 ev21 _ _ => ?_)
  refine lv_istore_n hx hb dX4_passNumber_4 rfl hl (by decide) rfl (fun ls hl => ?_)
  replace hl : lv_has ls 3 [(1, .int v21), (0, .ref h0)] := hl
  refine lv_iconst (v := 0) hx hb dX4_passNumber_5 rfl ?_
  refine lv_istore_n hx hb dX4_passNumber_6 rfl hl (by decide) rfl (fun ls hl => ?_)
  replace hl : lv_has ls 3 [(2, .int 0), (1, .int v21), (0, .ref h0)] := hl
  have L7 : ∀ (n23 : Nat) (H23 : Heap) (locs23 : List Loc) (v22 : Int32) (z22 : Int) (ls : Array Slot), ((sI H23 h0 (X.1.2 4 6)).toInt - (sI H23 h0 (X.1.2 4 7)).toInt).toNat < n23 → v22.toInt = z22 → Conf X Γ H23 → va_S (AΓ Γ) H0 H23 locs23 → Kp X Γ [0, 2, 3, 4, 5, 18, 21, 23, 25, 27] H0 H23 → lv_has ls 3 [(2, .int v22), (1, .int v21), (0, .ref h0)] → W p l e (rmL 1) s m args below meth c H23 locs23 0 0 Qz (F0 m 7 ls []) := by
    intro n23
    induction n23 with
    | zero => intro H23 locs23 v22 z22 ls hm23 ev22 hC23 hS23 hKp23 hl; exact absurd hm23 (Nat.not_lt_zero _)
    | succ n23 ih23 =>
      intro H23 locs23 v22 z22 ls hm23 ev22 hC23 hS23 hKp23 hl
      refine lv_aload_n hx hb dX4_passNumber_7 rfl (lv_at hl 2 rfl) ?_
      refine q_getI E hC23 g0 fa_RX4_51 dX4_passNumber_8 (fun v24 ev24 _ _ => ?_)
      refine lv_aload_n hx hb dX4_passNumber_11 rfl (lv_at hl 2 rfl) ?_
      refine q_getI E hC23 g0 fa_RX4_48 dX4_passNumber_12 (fun v25 ev25 _ _ => ?_)
      have c26 := i_rng v24; rw [show v24.toInt = v24.toInt from rfl] at c26
      have c27 := i_rng v25; rw [show v25.toInt = v25.toInt from rfl] at c27
      refine q_icmp_ge hx hb (a := v24.toInt) (b := v25.toInt) rfl rfl (tgt := 72) dX4_passNumber_15 rfl (fun c28 => ?_) (fun c28 => ?_)
      · refine lv_iload_n hx hb dX4_passNumber_72 rfl (lv_at hl 0 rfl) ?_
        exact ret v22 H23 locs23 _ _ dX4_passNumber_73 ⟨hKp23, trivial⟩ hC23 hS23
      · refine lv_aload_n hx hb dX4_passNumber_18 rfl (lv_at hl 2 rfl) ?_
        refine lv_aload_n hx hb dX4_passNumber_19 rfl (lv_at hl 2 rfl) ?_
        refine q_getI E hC23 g0 fa_RX4_51 dX4_passNumber_20 (fun v29 ev29 _ _ => ?_)
        have qv29 := ev24.symm.trans ev29; subst qv29
        refine q_goIp (q_runV (As := [.int v24]) (rest := []) E hC23 hS23 (m_X4_byteAt l X Γ H23 hC23 h0 g0 v24 (a1 := v24.toInt) rfl) cw_X4_byteAt cl_RX4_78 g0 ⟨rfl, rfl⟩ rfl hl.1 rfl (Nat.zero_le _) (by decide) dX4_passNumber_23) hS23 (fun v30 locs30 hr30 hS30 => ?_)
        refine q_goIp (q_runS (As := [.int v30]) (rest := []) E hS30 (m_X4_isDigit l X Γ H23 hC23 v30 (a0 := v30.toInt) rfl) cw_X4_isDigit cl_RX4_86 rfl hl.1 rfl (Nat.zero_le _) (by decide) dX4_passNumber_26) hS30 (fun v31 locs31 hr31 hS31 => ?_)
        rcases hr31 with rfl | rfl
        · refine q_if_eq hx hb (a := 0) (by decide) (tgt := 72) dX4_passNumber_29 rfl (fun c32 => ?_) (fun c32 => absurd c32 (by omega))
          refine lv_iload_n hx hb dX4_passNumber_72 rfl (lv_at hl 0 rfl) ?_
          exact ret v22 H23 locs31 _ _ dX4_passNumber_73 ⟨hKp23, trivial⟩ hC23 hS31
        · refine q_if_eq hx hb (a := 1) (by decide) (tgt := 72) dX4_passNumber_29 rfl (fun c33 => absurd c33 (by omega)) (fun c33 => ?_)
          refine lv_aload_n hx hb dX4_passNumber_32 rfl (lv_at hl 2 rfl) ?_
          refine q_getI E hC23 g0 fa_RX4_51 dX4_passNumber_33 (fun v34 ev34 _ _ => ?_)
          have qv34 := ev24.symm.trans ev34; subst qv34
          refine lv_iload_n hx hb dX4_passNumber_36 rfl (lv_at hl 1 rfl) ?_
          refine lv_isub hx hb dX4_passNumber_37 (lv_topi (fun v35 ev35 => ?_))
          refine lv_iconst (v := 4) hx hb dX4_passNumber_38 rfl ?_
          refine q_icmp_ge hx hb (a := v35.toInt) (b := 4) rfl (by decide) (tgt := 59) dX4_passNumber_39 rfl (fun c36 => ?_) (fun c36 => ?_)
          · refine lv_aload_n hx hb dX4_passNumber_59 rfl (lv_at hl 2 rfl) ?_
            refine lv_dup hx hb dX4_passNumber_60 rfl ?_
            refine q_getI E hC23 g0 fa_RX4_51 dX4_passNumber_61 (fun v37 ev37 _ _ => ?_)
            have qv37 := ev24.symm.trans ev37; subst qv37
            refine lv_iconst (v := 1) hx hb dX4_passNumber_64 rfl ?_
            refine lv_iadd hx hb dX4_passNumber_65 (lv_topi (fun v38 ev38 => ?_))
            have ev38i : v38.toInt = (v24.toInt + 1) := i_add ev38 rfl (by decide) (by omega) (by omega)
            refine q_put E hC23 hS31 g0 fp_RX4_51 tv_F rfl rfl dX4_passNumber_66 (fun H39 locs39 hC39 hS39 U39 => ?_)
            have hKp39 := Kp.upO E g0 fp_RX4_51 rfl U39 hKp23
            have e40 := up_I U39
            refine lv_goto (tgt := 7) hx hb dX4_passNumber_69 rfl ?_
            have m1_length : (sI H23 h0 (X.1.2 4 6)).toInt = v25.toInt := (congrArg Int32.toInt ev25).trans rfl
            have e41 := (up_nI U39 (ne_f E 4 6 7 rfl (by decide) (by decide) (by decide))).trans ev25
            have m2_length : (sI H39 h0 (X.1.2 4 6)).toInt = v25.toInt := (congrArg Int32.toInt e41).trans rfl
            have m1_next : (sI H23 h0 (X.1.2 4 7)).toInt = v24.toInt := (congrArg Int32.toInt ev24).trans rfl
            have m2_next : (sI H39 h0 (X.1.2 4 7)).toInt = (v24.toInt + 1) := (congrArg Int32.toInt e40).trans ev38i
            exact ih23 H39 locs39 v22 (z22) ls (by omega) ev22 hC39 hS39 hKp39 hl
          · refine lv_iload_n hx hb dX4_passNumber_42 rfl (lv_at hl 0 rfl) ?_
            refine lv_bipush (v := 10) hx hb dX4_passNumber_43 rfl ?_
            refine lv_imul hx hb dX4_passNumber_45 (lv_topi (fun v42 ev42 => ?_))
            refine lv_aload_n hx hb dX4_passNumber_46 rfl (lv_at hl 2 rfl) ?_
            refine lv_aload_n hx hb dX4_passNumber_47 rfl (lv_at hl 2 rfl) ?_
            refine q_getI E hC23 g0 fa_RX4_51 dX4_passNumber_48 (fun v43 ev43 _ _ => ?_)
            have qv43 := ev24.symm.trans ev43; subst qv43
            refine q_goIp (q_runV (As := [.int v24]) (rest := [.int v42]) E hC23 hS31 (m_X4_byteAt l X Γ H23 hC23 h0 g0 v24 (a1 := v24.toInt) rfl) cw_X4_byteAt cl_RX4_78 g0 ⟨rfl, rfl⟩ rfl hl.1 rfl (show _ ≤ _ from by simp [Value.category]) (by decide) dX4_passNumber_51) hS31 (fun v44 locs44 hr44 hS44 => ?_)
            refine lv_iadd hx hb dX4_passNumber_54 (lv_topi (fun v45 ev45 => ?_))
            refine lv_bipush (v := 48) hx hb dX4_passNumber_55 rfl ?_
            refine lv_isub hx hb dX4_passNumber_57 (lv_topi (fun v46 ev46 => ?_))
            refine lv_istore_n hx hb dX4_passNumber_58 rfl hl (by decide) rfl (fun ls hl => ?_)
            replace hl : lv_has ls 3 [(2, .int v46), (1, .int v21), (0, .ref h0)] := hl
            refine lv_aload_n hx hb dX4_passNumber_59 rfl (lv_at hl 2 rfl) ?_
            refine lv_dup hx hb dX4_passNumber_60 rfl ?_
            refine q_getI E hC23 g0 fa_RX4_51 dX4_passNumber_61 (fun v47 ev47 _ _ => ?_)
            have qv47 := ev24.symm.trans ev47; subst qv47
            refine lv_iconst (v := 1) hx hb dX4_passNumber_64 rfl ?_
            refine lv_iadd hx hb dX4_passNumber_65 (lv_topi (fun v48 ev48 => ?_))
            have ev48i : v48.toInt = (v24.toInt + 1) := i_add ev48 rfl (by decide) (by omega) (by omega)
            refine q_put E hC23 hS44 g0 fp_RX4_51 tv_F rfl rfl dX4_passNumber_66 (fun H49 locs49 hC49 hS49 U49 => ?_)
            have hKp49 := Kp.upO E g0 fp_RX4_51 rfl U49 hKp23
            have e50 := up_I U49
            refine lv_goto (tgt := 7) hx hb dX4_passNumber_69 rfl ?_
            have m1_length : (sI H23 h0 (X.1.2 4 6)).toInt = v25.toInt := (congrArg Int32.toInt ev25).trans rfl
            have e51 := (up_nI U49 (ne_f E 4 6 7 rfl (by decide) (by decide) (by decide))).trans ev25
            have m2_length : (sI H49 h0 (X.1.2 4 6)).toInt = v25.toInt := (congrArg Int32.toInt e51).trans rfl
            have m1_next : (sI H23 h0 (X.1.2 4 7)).toInt = v24.toInt := (congrArg Int32.toInt ev24).trans rfl
            have m2_next : (sI H49 h0 (X.1.2 4 7)).toInt = (v24.toInt + 1) := (congrArg Int32.toInt e50).trans ev48i
            exact ih23 H49 locs49 v46 (v46.toInt) ls (by omega) rfl hC49 hS49 hKp49 hl
  exact L7 _ H0 [] 0 0 ls (Nat.lt_succ_self _) (by decide) hC0 hS0 hKp0 hl
set_option maxRecDepth 100000 in
set_option maxHeartbeats 4000000 in
theorem m_X4_advance (l : Launch) (X : xW) (Γ : Nat → Option Nat) (H0 : Heap) (hC0 : Conf X Γ H0) (h0 : Nat) (g0 : Γ h0 = some 2) : Ctr l X Γ yX4_advance cX4_advance 1 none 1 [.ref h0] H0 (QV X Γ (fun H1 => Kp X Γ [0, 2, 3, 4, 5, 18, 21, 23, 25, 27] H0 H1)) := by
  refine q_enterV (own := "SnowForts$Reader") (by decide) rfl (Nat.le_of_ble_eq_true rfl) ?_
  intro p e s m args below meth c ls Qz E hl ret hS0
  have hx := E.1; have hb := E.2.1
  have hKp0 : Kp X Γ [0, 2, 3, 4, 5, 18, 21, 23, 25, 27] H0 H0 := Kp.rf
  have hl : lv_has ls 1 [(0, .ref h0)] := hl
  refine lv_aload_n hx hb dX4_advance_0 rfl (lv_at hl 0 rfl) ?_
  refine lv_aload_n hx hb dX4_advance_1 rfl (lv_at hl 0 rfl) ?_
  refine q_getI E hC0 g0 fa_RX4_72 dX4_advance_2 (fun v21 ev21 _ _ => ?_)
  refine lv_iconst (v := 1) hx hb dX4_advance_5 rfl ?_
  refine lv_iadd hx hb dX4_advance_6 (lv_topi (fun v22 ev22 => ?_))
  refine lv_sipush (v := 900) hx hb dX4_advance_7 rfl ?_
  refine q_mmin E hl.1 w_574 mathw_min (a := v22.toInt) (b := 900) rfl (show (900 : Int32).toInt = 900 from by decide) (by decide) (show _ ≤ _ from by simp [Value.category]) dX4_advance_10 (fun v23 mv23a mv23b mv23c => ?_)
  refine q_put E hC0 hS0 g0 fp_RX4_72 tv_F rfl rfl dX4_advance_13 (fun H24 locs24 hC24 hS24 U24 => ?_)
  have hKp24 := Kp.upO E g0 fp_RX4_72 rfl U24 hKp0
  have e25 := up_I U24
  refine lv_aload_n hx hb dX4_advance_16 rfl (lv_at hl 0 rfl) ?_
  refine q_getI E hC24 g0 fa_RX4_72 dX4_advance_17 (fun v26 ev26 _ _ => ?_)
  have qv26 := e25.symm.trans ev26; subst qv26
  refine q_if_lt hx hb (a := v23.toInt) rfl (tgt := 75) dX4_advance_20 rfl (fun c27 => ?_) (fun c27 => ?_)
  · exact ret H24 locs24 _ _ dX4_advance_75 hKp24 hC24 hS24
  · refine lv_aload_n hx hb dX4_advance_23 rfl (lv_at hl 0 rfl) ?_
    refine lv_aload_n hx hb dX4_advance_24 rfl (lv_at hl 0 rfl) ?_
    refine q_getR E hC24 g0 fa_RX4_15 dX4_advance_25 (fun q28 eq28 gq28 => ?_)
    refine lv_aload_n hx hb dX4_advance_28 rfl (lv_at hl 0 rfl) ?_
    refine q_getI E hC24 g0 fa_RX4_72 dX4_advance_29 (fun v29 ev29 _ _ => ?_)
    have qv29 := e25.symm.trans ev29; subst qv29
    refine q_iald E hC24 gq28 rfl rfl (fun _ h => h) (i_in (a := v23.toInt) rfl (by omega) (by omega)) dX4_advance_32 (fun v30 ev30 _ _ => ?_)
    refine q_put E hC24 hS24 g0 fp_RX4_93 tv_F rfl rfl dX4_advance_33 (fun H31 locs31 hC31 hS31 U31 => ?_)
    have hKp31 := Kp.upO E g0 fp_RX4_93 rfl U31 hKp24
    have e32 := up_I U31
    refine lv_aload_n hx hb dX4_advance_36 rfl (lv_at hl 0 rfl) ?_
    refine lv_aload_n hx hb dX4_advance_37 rfl (lv_at hl 0 rfl) ?_
    refine q_getR E hC31 g0 fa_RX4_19 dX4_advance_38 (fun q33 eq33 gq33 => ?_)
    refine lv_aload_n hx hb dX4_advance_41 rfl (lv_at hl 0 rfl) ?_
    have e35 := (up_nI U31 (ne_f E 4 8 9 rfl (by decide) (by decide) (by decide))).trans e25
    refine q_getI E hC31 g0 fa_RX4_72 dX4_advance_42 (fun v34 ev34 _ _ => ?_)
    have qv34 := e35.symm.trans ev34; subst qv34
    refine q_iald E hC31 gq33 rfl rfl (fun _ h => h) (i_in (a := v23.toInt) rfl (by omega) (by omega)) dX4_advance_45 (fun v36 ev36 _ _ => ?_)
    refine q_put E hC31 hS31 g0 fp_RX4_96 tv_F rfl rfl dX4_advance_46 (fun H37 locs37 hC37 hS37 U37 => ?_)
    have hKp37 := Kp.upO E g0 fp_RX4_96 rfl U37 hKp31
    have e38 := up_I U37
    refine lv_aload_n hx hb dX4_advance_49 rfl (lv_at hl 0 rfl) ?_
    refine lv_aload_n hx hb dX4_advance_50 rfl (lv_at hl 0 rfl) ?_
    refine q_getR E hC37 g0 fa_RX4_22 dX4_advance_51 (fun q39 eq39 gq39 => ?_)
    refine lv_aload_n hx hb dX4_advance_54 rfl (lv_at hl 0 rfl) ?_
    have e41 := (up_nI U37 (ne_f E 4 8 10 rfl (by decide) (by decide) (by decide))).trans e35
    refine q_getI E hC37 g0 fa_RX4_72 dX4_advance_55 (fun v40 ev40 _ _ => ?_)
    have qv40 := e41.symm.trans ev40; subst qv40
    refine q_lald2 E hC37 gq39 rfl rfl (fun _ => rfl) (a := v23.toInt) rfl (by omega) (by omega) dX4_advance_58 (fun v42 ev42 => ?_)
    refine q_put E hC37 hS37 g0 fp_RX4_99 tv_J rfl rfl dX4_advance_59 (fun H43 locs43 hC43 hS43 U43 => ?_)
    have hKp43 := Kp.upO E g0 fp_RX4_99 rfl U43 hKp37
    refine lv_aload_n hx hb dX4_advance_62 rfl (lv_at hl 0 rfl) ?_
    refine lv_aload_n hx hb dX4_advance_63 rfl (lv_at hl 0 rfl) ?_
    refine q_getR E hC43 g0 fa_RX4_28 dX4_advance_64 (fun q44 eq44 gq44 => ?_)
    refine lv_aload_n hx hb dX4_advance_67 rfl (lv_at hl 0 rfl) ?_
    have e46 := (up_nI U43 (ne_f E 4 8 11 rfl (by decide) (by decide) (by decide))).trans e41
    refine q_getI E hC43 g0 fa_RX4_72 dX4_advance_68 (fun v45 ev45 _ _ => ?_)
    have qv45 := e46.symm.trans ev45; subst qv45
    refine q_aaldQ E hC43 gq44 rfl rfl (fun _ => rfl) (C := "SnowForts$Word") rfl (i_in (a := v23.toInt) rfl (by omega) (by omega)) dX4_advance_71 (fun q47 eq47 gq47 => ?_)
    refine q_put E hC43 hS43 g0 fp_RX4_103 (tv_Q gq47) (nar_Q _) (fit_Q _) dX4_advance_72 (fun H48 locs48 hC48 hS48 U48 => ?_)
    have hKp48 := Kp.upO E g0 fp_RX4_103 rfl U48 hKp43
    exact ret H48 locs48 _ _ dX4_advance_75 hKp48 hC48 hS48
set_option maxRecDepth 100000 in
set_option maxHeartbeats 4000000 in
theorem m_X4_start (l : Launch) (X : xW) (Γ : Nat → Option Nat) (H0 : Heap) (hC0 : Conf X Γ H0) (h0 : Nat) (g0 : Γ h0 = some 2) (p1 : Int32) {a1 : Int} (e1 : p1.toInt = a1) : Ctr l X Γ yX4_start cX4_start 4 none 2 [.ref h0, .int p1] H0 (QV X Γ (fun H1 => Kp X Γ [0, 2, 3, 4, 5, 18, 21, 23, 25, 27] H0 H1)) := by
  refine q_enterV (own := "SnowForts$Reader") (by decide) rfl (Nat.le_of_ble_eq_true rfl) ?_
  intro p e s m args below meth c ls Qz E hl ret hS0
  have hx := E.1; have hb := E.2.1
  have hKp0 : Kp X Γ [0, 2, 3, 4, 5, 18, 21, 23, 25, 27] H0 H0 := Kp.rf
  have hl : lv_has ls 4 [(0, .ref h0), (1, .int p1)] := hl
  refine lv_aload_n hx hb dX4_start_0 rfl (lv_at hl 0 rfl) ?_
  refine lv_iconst (v := 0) hx hb dX4_start_1 rfl ?_
  refine q_put E hC0 hS0 g0 fp_RX4_32 tv_F rfl rfl dX4_start_2 (fun H21 locs21 hC21 hS21 U21 => ?_)
  have hKp21 := Kp.upO E g0 fp_RX4_32 rfl U21 hKp0
  have e22 := up_I U21
  refine lv_aload_n hx hb dX4_start_5 rfl (lv_at hl 0 rfl) ?_
  refine lv_iconst (v := (-1)) hx hb dX4_start_6 rfl ?_
  refine q_put E hC21 hS21 g0 fp_RX4_36 tv_F rfl rfl dX4_start_7 (fun H23 locs23 hC23 hS23 U23 => ?_)
  have hKp23 := Kp.upO E g0 fp_RX4_36 rfl U23 hKp21
  have e24 := up_I U23
  refine lv_aload_n hx hb dX4_start_10 rfl (lv_at hl 0 rfl) ?_
  refine lv_iload_n hx hb dX4_start_11 rfl (lv_at hl 1 rfl) ?_
  refine lv_sipush (v := 900) hx hb dX4_start_12 rfl ?_
  refine q_mmin E hl.1 w_574 mathw_min (a := a1) (b := 900) e1 (show (900 : Int32).toInt = 900 from by decide) (by decide) (show _ ≤ _ from by simp [Value.category]) dX4_start_15 (fun v25 mv25a mv25b mv25c => ?_)
  refine q_put E hC23 hS23 g0 fp_RX4_48 tv_F rfl rfl dX4_start_18 (fun H26 locs26 hC26 hS26 U26 => ?_)
  have hKp26 := Kp.upO E g0 fp_RX4_48 rfl U26 hKp23
  have e27 := up_I U26
  refine lv_aload_n hx hb dX4_start_21 rfl (lv_at hl 0 rfl) ?_
  refine lv_iconst (v := 0) hx hb dX4_start_22 rfl ?_
  refine q_put E hC26 hS26 g0 fp_RX4_51 tv_F rfl rfl dX4_start_23 (fun H28 locs28 hC28 hS28 U28 => ?_)
  have hKp28 := Kp.upO E g0 fp_RX4_51 rfl U28 hKp26
  have e29 := up_I U28
  refine lv_iconst (v := 0) hx hb dX4_start_26 rfl ?_
  refine lv_istore_n hx hb dX4_start_27 rfl hl (by decide) rfl (fun ls hl => ?_)
  replace hl : lv_has ls 4 [(2, .int 0), (0, .ref h0), (1, .int p1)] := hl
  refine lv_iconst (v := 0) hx hb dX4_start_28 rfl ?_
  refine lv_istore_n hx hb dX4_start_29 rfl hl (by decide) rfl (fun ls hl => ?_)
  replace hl : lv_has ls 4 [(3, .int 0), (2, .int 0), (0, .ref h0), (1, .int p1)] := hl
  have L30 : ∀ (n32 : Nat) (H32 : Heap) (locs32 : List Loc) (v30 : Int32) (z30 : Int) (v31 : Int32) (z31 : Int) (ls : Array Slot), (901 - z30).toNat < n32 → v30.toInt = z30 → v31.toInt = z31 → z30 ≤ 901 → 0 ≤ z30 → Conf X Γ H32 → va_S (AΓ Γ) H0 H32 locs32 → Kp X Γ [0, 2, 3, 4, 5, 18, 21, 23, 25, 27] H0 H32 → lv_has ls 4 [(3, .int v30), (2, .int v31), (0, .ref h0), (1, .int p1)] → W p l e (rmL 2) s m args below meth c H32 locs32 0 0 Qz (F0 m 30 ls []) := by
    intro n32
    induction n32 with
    | zero => intro H32 locs32 v30 z30 v31 z31 ls hm32 ev30 ev31 iv32_0 iv32_1 hC32 hS32 hKp32 hl; exact absurd hm32 (Nat.not_lt_zero _)
    | succ n32 ih32 =>
      intro H32 locs32 v30 z30 v31 z31 ls hm32 ev30 ev31 iv32_0 iv32_1 hC32 hS32 hKp32 hl
      refine lv_iload_n hx hb dX4_start_30 rfl (lv_at hl 0 rfl) ?_
      refine lv_sipush (v := 901) hx hb dX4_start_31 rfl ?_
      refine q_icmp_ge hx hb (a := z30) (b := 901) ev30 (by decide) (tgt := 198) dX4_start_34 rfl (fun c33 => ?_) (fun c33 => ?_)
      · refine lv_aload_n hx hb dX4_start_198 rfl (lv_at hl 2 rfl) ?_
        refine lv_iconst (v := (-1)) hx hb dX4_start_199 rfl ?_
        refine q_put E hC32 hS32 g0 fp_RX4_72 tv_F rfl rfl dX4_start_200 (fun H34 locs34 hC34 hS34 U34 => ?_)
        have hKp34 := Kp.upO E g0 fp_RX4_72 rfl U34 hKp32
        have e35 := up_I U34
        refine lv_aload_n hx hb dX4_start_203 rfl (lv_at hl 2 rfl) ?_
        refine q_goV (q_runV (As := []) (rest := []) E hC34 hS34 (m_X4_advance l X Γ H34 hC34 h0 g0) cw_X4_advance cl_RX4_75 g0 ⟨rfl, rfl⟩ rfl hl.1 rfl (Nat.zero_le _) (by decide) dX4_start_204) hS34 (fun H36 locs36 hr36 hC36 hS36 => ?_)
        have hKp36 := hKp34.tr (hr36.mono rfl)
        exact ret H36 locs36 _ _ dX4_start_207 hKp36 hC36 hS36
      · refine lv_iload_n hx hb dX4_start_37 rfl (lv_at hl 1 rfl) ?_
        refine q_if_ne hx hb (a := z31) ev31 (tgt := 198) dX4_start_38 rfl (fun c37 => ?_) (fun c37 => ?_)
        · refine lv_aload_n hx hb dX4_start_198 rfl (lv_at hl 2 rfl) ?_
          refine lv_iconst (v := (-1)) hx hb dX4_start_199 rfl ?_
          refine q_put E hC32 hS32 g0 fp_RX4_72 tv_F rfl rfl dX4_start_200 (fun H38 locs38 hC38 hS38 U38 => ?_)
          have hKp38 := Kp.upO E g0 fp_RX4_72 rfl U38 hKp32
          have e39 := up_I U38
          refine lv_aload_n hx hb dX4_start_203 rfl (lv_at hl 2 rfl) ?_
          refine q_goV (q_runV (As := []) (rest := []) E hC38 hS38 (m_X4_advance l X Γ H38 hC38 h0 g0) cw_X4_advance cl_RX4_75 g0 ⟨rfl, rfl⟩ rfl hl.1 rfl (Nat.zero_le _) (by decide) dX4_start_204) hS38 (fun H40 locs40 hr40 hC40 hS40 => ?_)
          have hKp40 := hKp38.tr (hr40.mono rfl)
          exact ret H40 locs40 _ _ dX4_start_207 hKp40 hC40 hS40
        · refine lv_aload_n hx hb dX4_start_41 rfl (lv_at hl 2 rfl) ?_
          refine q_goV (q_runV (As := []) (rest := []) E hC32 hS32 (m_X4_passBlanks l X Γ H32 hC32 h0 g0) cw_X4_passBlanks cl_RX4_54 g0 ⟨rfl, rfl⟩ rfl hl.1 rfl (Nat.zero_le _) (by decide) dX4_start_42) hS32 (fun H41 locs41 hr41 hC41 hS41 => ?_)
          have hKp41 := hKp32.tr (hr41.mono rfl)
          refine lv_aload_n hx hb dX4_start_45 rfl (lv_at hl 2 rfl) ?_
          refine q_getR E hC41 g0 fa_RX4_19 dX4_start_46 (fun q42 eq42 gq42 => ?_)
          refine lv_iload_n hx hb dX4_start_49 rfl (lv_at hl 0 rfl) ?_
          refine lv_aload_n hx hb dX4_start_50 rfl (lv_at hl 2 rfl) ?_
          refine q_getI E hC41 g0 fa_RX4_51 dX4_start_51 (fun v43 ev43 _ _ => ?_)
          refine q_iast E hC41 hS41 gq42 (by decide) rfl rfl (i_in (a := z30) ev30 (by omega) (by omega)) tv_F dX4_start_54 (fun H44 locs44 hC44 hS44 U44 => ?_)
          have hKp44 := Kp.upA gq42 rfl (by decide) rfl U44 hKp41
          refine lv_aload_n hx hb dX4_start_55 rfl (lv_at hl 2 rfl) ?_
          refine q_getR E hC44 g0 fa_RX4_22 dX4_start_56 (fun q45 eq45 gq45 => ?_)
          refine lv_iload_n hx hb dX4_start_59 rfl (lv_at hl 0 rfl) ?_
          refine lv_lconst (v := 0) hx hb dX4_start_60 rfl ?_
          refine q_last2 E hC44 hS44 gq45 (by decide) rfl rfl (fun _ => rfl) (a := z30) ev30 (by omega) (by omega) dX4_start_61 (fun H46 locs46 hC46 hS46 U46 => ?_)
          have hKp46 := Kp.upA gq45 rfl (by decide) rfl U46 hKp44
          refine lv_aload_n hx hb dX4_start_62 rfl (lv_at hl 2 rfl) ?_
          refine q_getR E hC46 g0 fa_RX4_28 dX4_start_63 (fun q47 eq47 gq47 => ?_)
          refine lv_iload_n hx hb dX4_start_66 rfl (lv_at hl 0 rfl) ?_
          refine lv_null hx hb dX4_start_67 ?_
          refine q_wast (o := none) E hC46 hS46 gq47 (by decide) rfl rfl (fun _ => rfl) (fun _ h => by cases h) (i_in (a := z30) ev30 (by omega) (by omega)) dX4_start_68 (fun H48 locs48 hC48 hS48 U48 => ?_)
          have hKp48 := Kp.upA gq47 rfl (by decide) rfl U48 hKp46
          refine lv_aload_n hx hb dX4_start_69 rfl (lv_at hl 2 rfl) ?_
          refine q_getR E hC48 g0 fa_RX4_15 dX4_start_70 (fun q49 eq49 gq49 => ?_)
          refine lv_iload_n hx hb dX4_start_73 rfl (lv_at hl 0 rfl) ?_
          refine lv_aload_n hx hb dX4_start_74 rfl (lv_at hl 2 rfl) ?_
          refine q_goIp (q_runV (As := []) (rest := [.int v30, .ref q49]) E hC48 hS48 (m_X4_kindHere l X Γ H48 hC48 h0 g0) cw_X4_kindHere cl_RX4_57 g0 ⟨rfl, rfl⟩ rfl hl.1 rfl (show _ ≤ _ from by simp [Value.category]) (by decide) dX4_start_75) hS48 (fun v50 locs50 hr50 hS50 => ?_)
          refine q_iast E hC48 hS50 gq49 (by decide) rfl rfl (i_in (a := z30) ev30 (by omega) (by omega)) tv_F dX4_start_78 (fun H51 locs51 hC51 hS51 U51 => ?_)
          have hKp51 := Kp.upA gq49 rfl (by decide) rfl U51 hKp48
          refine lv_aload_n hx hb dX4_start_79 rfl (lv_at hl 2 rfl) ?_
          refine q_getR E hC51 g0 fa_RX4_15 dX4_start_80 (fun q52 eq52 gq52 => ?_)
          refine lv_iload_n hx hb dX4_start_83 rfl (lv_at hl 0 rfl) ?_
          refine q_iald E hC51 gq52 rfl rfl (fun _ h => h) (i_in (a := z30) ev30 (by omega) (by omega)) dX4_start_84 (fun v53 ev53 _ _ => ?_)
          refine q_if_ne hx hb (a := v53.toInt) rfl (tgt := 92) dX4_start_85 rfl (fun c54 => ?_) (fun c54 => ?_)
          · refine lv_iconst (v := 0) hx hb dX4_start_92 rfl ?_
            refine lv_istore_n hx hb dX4_start_93 rfl hl (by decide) rfl (fun ls hl => ?_)
            replace hl : lv_has ls 4 [(2, .int 0), (3, .int v30), (0, .ref h0), (1, .int p1)] := hl
            refine lv_aload_n hx hb dX4_start_94 rfl (lv_at hl 2 rfl) ?_
            refine q_getR E hC51 g0 fa_RX4_15 dX4_start_95 (fun q55 eq55 gq55 => ?_)
            refine lv_iload_n hx hb dX4_start_98 rfl (lv_at hl 1 rfl) ?_
            refine q_iald E hC51 gq55 rfl rfl (fun _ h => h) (i_in (a := z30) ev30 (by omega) (by omega)) dX4_start_99 (fun v56 ev56 _ _ => ?_)
            refine lv_iconst (v := 2) hx hb dX4_start_100 rfl ?_
            refine q_icmp_ne hx hb (a := v56.toInt) (b := 2) rfl (by decide) (tgt := 132) dX4_start_101 rfl (fun c57 => ?_) (fun c57 => ?_)
            · refine lv_aload_n hx hb dX4_start_132 rfl (lv_at hl 2 rfl) ?_
              refine q_getR E hC51 g0 fa_RX4_15 dX4_start_133 (fun q58 eq58 gq58 => ?_)
              refine lv_iload_n hx hb dX4_start_136 rfl (lv_at hl 1 rfl) ?_
              refine q_iald E hC51 gq58 rfl rfl (fun _ h => h) (i_in (a := z30) ev30 (by omega) (by omega)) dX4_start_137 (fun v59 ev59 _ _ => ?_)
              refine lv_iconst (v := 3) hx hb dX4_start_138 rfl ?_
              refine q_icmp_ne hx hb (a := v59.toInt) (b := 3) rfl (by decide) (tgt := 182) dX4_start_139 rfl (fun c60 => ?_) (fun c60 => ?_)
              · refine lv_aload_n hx hb dX4_start_182 rfl (lv_at hl 2 rfl) ?_
                refine lv_dup hx hb dX4_start_183 rfl ?_
                have e62 := (up_nI U44 (ne_k g0 gq42 (by decide))).trans ev43
                have e63 := (up_nI U46 (ne_k g0 gq45 (by decide))).trans e62
                have e64 := (up_nI U48 (ne_k g0 gq47 (by decide))).trans e63
                have e65 := (up_nI U51 (ne_k g0 gq49 (by decide))).trans e64
                refine q_getI E hC51 g0 fa_RX4_51 dX4_start_184 (fun v61 ev61 _ _ => ?_)
                have qv61 := e65.symm.trans ev61; subst qv61
                refine lv_iconst (v := 1) hx hb dX4_start_187 rfl ?_
                refine lv_iadd hx hb dX4_start_188 (lv_topi (fun v66 ev66 => ?_))
                refine q_put E hC51 hS51 g0 fp_RX4_51 tv_F rfl rfl dX4_start_189 (fun H67 locs67 hC67 hS67 U67 => ?_)
                have hKp67 := Kp.upO E g0 fp_RX4_51 rfl U67 hKp51
                have e68 := up_I U67
                obtain ⟨v69, ev69⟩ : ∃ z, z = v30 + Int32.ofInt 1 := ⟨_, rfl⟩
                have ev69i : v69.toInt = (z30 + 1) := i_add ev69 ev30 (by decide) (by omega) (by omega)
                refine lv_iinc hx hb dX4_start_192 hl (k := 1) rfl ev69.symm (by decide) rfl (fun ls hl => ?_)
                replace hl : lv_has ls 4 [(3, .int v69), (2, .int 0), (0, .ref h0), (1, .int p1)] := hl
                refine lv_goto (tgt := 30) hx hb dX4_start_195 rfl ?_
                exact ih32 H67 locs67 v69 ((z30 + 1)) 0 (0) ls (by omega) ev69i (by decide) (by omega) (by omega) hC67 hS67 hKp67 hl
              · refine lv_aload_n hx hb dX4_start_142 rfl (lv_at hl 2 rfl) ?_
                refine q_getR E hC51 g0 fa_RX4_22 dX4_start_143 (fun q70 eq70 gq70 => ?_)
                refine lv_iload_n hx hb dX4_start_146 rfl (lv_at hl 1 rfl) ?_
                refine lv_aload_n hx hb dX4_start_147 rfl (lv_at hl 2 rfl) ?_
                refine q_goI (q_runV (As := []) (rest := [.int v30, .ref q70]) E hC51 hS51 (m_X4_passNumber l X Γ H51 hC51 h0 g0) cw_X4_passNumber cl_RX4_69 g0 ⟨rfl, rfl⟩ rfl hl.1 rfl (show _ ≤ _ from by simp [Value.category]) (by decide) dX4_start_148) hS51 (fun v71 H71 locs71 hr71 hC71 hS71 => ?_)
                obtain ⟨hp71, hr71⟩ := hr71
                have hKp71 := hKp51.tr (hp71.mono rfl)
                refine lv_i2l (v := v71.toInt64) hx hb dX4_start_151 rfl (lv_topl (fun v72 ev72 => ?_))
                have ev72i : v72.toInt = v71.toInt := l_ofi ev72.symm rfl
                refine q_last2 E hC71 hS71 gq70 (by decide) rfl rfl (fun _ => rfl) (a := z30) ev30 (by omega) (by omega) dX4_start_152 (fun H73 locs73 hC73 hS73 U73 => ?_)
                have hKp73 := Kp.upA gq70 rfl (by decide) rfl U73 hKp71
                refine lv_aload_n hx hb dX4_start_153 rfl (lv_at hl 2 rfl) ?_
                refine q_getR E hC73 g0 fa_RX4_15 dX4_start_154 (fun q74 eq74 gq74 => ?_)
                refine lv_iload_n hx hb dX4_start_157 rfl (lv_at hl 1 rfl) ?_
                refine lv_aload_n hx hb dX4_start_158 rfl (lv_at hl 2 rfl) ?_
                have e76 := (up_nI U44 (ne_k g0 gq42 (by decide))).trans ev43
                have e77 := (up_nI U46 (ne_k g0 gq45 (by decide))).trans e76
                have e78 := (up_nI U48 (ne_k g0 gq47 (by decide))).trans e77
                have e79 := (up_nI U51 (ne_k g0 gq49 (by decide))).trans e78
                refine q_getI E hC73 g0 fa_RX4_51 dX4_start_159 (fun v75 ev75 _ _ => ?_)
                refine lv_aload_n hx hb dX4_start_162 rfl (lv_at hl 2 rfl) ?_
                refine q_getR E hC73 g0 fa_RX4_19 dX4_start_163 (fun q80 eq80 gq80 => ?_)
                refine lv_iload_n hx hb dX4_start_166 rfl (lv_at hl 1 rfl) ?_
                refine q_iald E hC73 gq80 rfl rfl (fun _ h => h) (i_in (a := z30) ev30 (by omega) (by omega)) dX4_start_167 (fun v81 ev81 _ _ => ?_)
                refine lv_isub hx hb dX4_start_168 (lv_topi (fun v82 ev82 => ?_))
                refine lv_iconst (v := 4) hx hb dX4_start_169 rfl ?_
                refine q_icmp_le hx hb (a := v82.toInt) (b := 4) rfl (by decide) (tgt := 177) dX4_start_170 rfl (fun c83 => ?_) (fun c83 => ?_)
                · refine lv_iconst (v := 3) hx hb dX4_start_177 rfl ?_
                  refine q_iast E hC73 hS73 gq74 (by decide) rfl rfl (i_in (a := z30) ev30 (by omega) (by omega)) tv_F dX4_start_178 (fun H84 locs84 hC84 hS84 U84 => ?_)
                  have hKp84 := Kp.upA gq74 rfl (by decide) rfl U84 hKp73
                  refine lv_goto (tgt := 192) hx hb dX4_start_179 rfl ?_
                  obtain ⟨v85, ev85⟩ : ∃ z, z = v30 + Int32.ofInt 1 := ⟨_, rfl⟩
                  have ev85i : v85.toInt = (z30 + 1) := i_add ev85 ev30 (by decide) (by omega) (by omega)
                  refine lv_iinc hx hb dX4_start_192 hl (k := 1) rfl ev85.symm (by decide) rfl (fun ls hl => ?_)
                  replace hl : lv_has ls 4 [(3, .int v85), (2, .int 0), (0, .ref h0), (1, .int p1)] := hl
                  refine lv_goto (tgt := 30) hx hb dX4_start_195 rfl ?_
                  exact ih32 H84 locs84 v85 ((z30 + 1)) 0 (0) ls (by omega) ev85i (by decide) (by omega) (by omega) hC84 hS84 hKp84 hl
                · refine lv_iconst (v := 1) hx hb dX4_start_173 rfl ?_
                  refine lv_goto (tgt := 178) hx hb dX4_start_174 rfl ?_
                  refine q_iast E hC73 hS73 gq74 (by decide) rfl rfl (i_in (a := z30) ev30 (by omega) (by omega)) tv_F dX4_start_178 (fun H86 locs86 hC86 hS86 U86 => ?_)
                  have hKp86 := Kp.upA gq74 rfl (by decide) rfl U86 hKp73
                  refine lv_goto (tgt := 192) hx hb dX4_start_179 rfl ?_
                  obtain ⟨v87, ev87⟩ : ∃ z, z = v30 + Int32.ofInt 1 := ⟨_, rfl⟩
                  have ev87i : v87.toInt = (z30 + 1) := i_add ev87 ev30 (by decide) (by omega) (by omega)
                  refine lv_iinc hx hb dX4_start_192 hl (k := 1) rfl ev87.symm (by decide) rfl (fun ls hl => ?_)
                  replace hl : lv_has ls 4 [(3, .int v87), (2, .int 0), (0, .ref h0), (1, .int p1)] := hl
                  refine lv_goto (tgt := 30) hx hb dX4_start_195 rfl ?_
                  exact ih32 H86 locs86 v87 ((z30 + 1)) 0 (0) ls (by omega) ev87i (by decide) (by omega) (by omega) hC86 hS86 hKp86 hl
            · refine lv_aload_n hx hb dX4_start_104 rfl (lv_at hl 2 rfl) ?_
              refine q_getR E hC51 g0 fa_RX4_22 dX4_start_105 (fun q88 eq88 gq88 => ?_)
              refine lv_iload_n hx hb dX4_start_108 rfl (lv_at hl 1 rfl) ?_
              refine lv_aload_n hx hb dX4_start_109 rfl (lv_at hl 2 rfl) ?_
              refine q_goJ (q_runV (As := []) (rest := [.int v30, .ref q88]) E hC51 hS51 (m_X4_passWord l X Γ H51 hC51 h0 g0) cw_X4_passWord cl_RX4_61 g0 ⟨rfl, rfl⟩ rfl hl.1 rfl (show _ ≤ _ from by simp [Value.category]) (by decide) dX4_start_110) hS51 (fun v89 H89 locs89 hr89 hC89 hS89 => ?_)
              obtain ⟨hp89, hr89⟩ := hr89
              have hKp89 := hKp51.tr (hp89.mono rfl)
              refine q_last2 E hC89 hS89 gq88 (by decide) rfl rfl (fun _ => rfl) (a := z30) ev30 (by omega) (by omega) dX4_start_113 (fun H90 locs90 hC90 hS90 U90 => ?_)
              have hKp90 := Kp.upA gq88 rfl (by decide) rfl U90 hKp89
              refine lv_aload_n hx hb dX4_start_114 rfl (lv_at hl 2 rfl) ?_
              refine q_getR E hC90 g0 fa_RX4_28 dX4_start_115 (fun q91 eq91 gq91 => ?_)
              refine lv_iload_n hx hb dX4_start_118 rfl (lv_at hl 1 rfl) ?_
              refine lv_aload_n hx hb dX4_start_119 rfl (lv_at hl 2 rfl) ?_
              refine q_getR E hC90 g0 fa_RX4_22 dX4_start_120 (fun q92 eq92 gq92 => ?_)
              refine lv_iload_n hx hb dX4_start_123 rfl (lv_at hl 1 rfl) ?_
              refine q_lald2 E hC90 gq92 rfl rfl (fun _ => rfl) (a := z30) ev30 (by omega) (by omega) dX4_start_124 (fun v93 ev93 => ?_)
              refine q_goQp (q_runS (As := [.long v93]) (rest := [.int v30, .ref q91]) E hS90 (m_X8_of l X Γ H90 hC90 v93 (a0 := v93.toInt) rfl) cw_X8_of cl_RX4_65 rfl hl.1 rfl (show _ ≤ _ from by simp [Value.category]) (by decide) dX4_start_125) hS90 (fun v94 locs94 hr94 hS94 => ?_)
              refine q_wast (o := v94) E hC90 hS94 gq91 (by decide) rfl rfl (fun _ => rfl) hr94 (i_in (a := z30) ev30 (by omega) (by omega)) dX4_start_128 (fun H95 locs95 hC95 hS95 U95 => ?_)
              have hKp95 := Kp.upA gq91 rfl (by decide) rfl U95 hKp90
              refine lv_goto (tgt := 192) hx hb dX4_start_129 rfl ?_
              obtain ⟨v96, ev96⟩ : ∃ z, z = v30 + Int32.ofInt 1 := ⟨_, rfl⟩
              have ev96i : v96.toInt = (z30 + 1) := i_add ev96 ev30 (by decide) (by omega) (by omega)
              refine lv_iinc hx hb dX4_start_192 hl (k := 1) rfl ev96.symm (by decide) rfl (fun ls hl => ?_)
              replace hl : lv_has ls 4 [(3, .int v96), (2, .int 0), (0, .ref h0), (1, .int p1)] := hl
              refine lv_goto (tgt := 30) hx hb dX4_start_195 rfl ?_
              exact ih32 H95 locs95 v96 ((z30 + 1)) 0 (0) ls (by omega) ev96i (by decide) (by omega) (by omega) hC95 hS95 hKp95 hl
          · refine lv_iconst (v := 1) hx hb dX4_start_88 rfl ?_
            refine lv_goto (tgt := 93) hx hb dX4_start_89 rfl ?_
            refine lv_istore_n hx hb dX4_start_93 rfl hl (by decide) rfl (fun ls hl => ?_)
            replace hl : lv_has ls 4 [(2, .int 1), (3, .int v30), (0, .ref h0), (1, .int p1)] := hl
            refine lv_aload_n hx hb dX4_start_94 rfl (lv_at hl 2 rfl) ?_
            refine q_getR E hC51 g0 fa_RX4_15 dX4_start_95 (fun q97 eq97 gq97 => ?_)
            refine lv_iload_n hx hb dX4_start_98 rfl (lv_at hl 1 rfl) ?_
            refine q_iald E hC51 gq97 rfl rfl (fun _ h => h) (i_in (a := z30) ev30 (by omega) (by omega)) dX4_start_99 (fun v98 ev98 _ _ => ?_)
            refine lv_iconst (v := 2) hx hb dX4_start_100 rfl ?_
            refine q_icmp_ne hx hb (a := v98.toInt) (b := 2) rfl (by decide) (tgt := 132) dX4_start_101 rfl (fun c99 => ?_) (fun c99 => ?_)
            · refine lv_aload_n hx hb dX4_start_132 rfl (lv_at hl 2 rfl) ?_
              refine q_getR E hC51 g0 fa_RX4_15 dX4_start_133 (fun q100 eq100 gq100 => ?_)
              refine lv_iload_n hx hb dX4_start_136 rfl (lv_at hl 1 rfl) ?_
              refine q_iald E hC51 gq100 rfl rfl (fun _ h => h) (i_in (a := z30) ev30 (by omega) (by omega)) dX4_start_137 (fun v101 ev101 _ _ => ?_)
              refine lv_iconst (v := 3) hx hb dX4_start_138 rfl ?_
              refine q_icmp_ne hx hb (a := v101.toInt) (b := 3) rfl (by decide) (tgt := 182) dX4_start_139 rfl (fun c102 => ?_) (fun c102 => ?_)
              · refine lv_aload_n hx hb dX4_start_182 rfl (lv_at hl 2 rfl) ?_
                refine lv_dup hx hb dX4_start_183 rfl ?_
                have e104 := (up_nI U44 (ne_k g0 gq42 (by decide))).trans ev43
                have e105 := (up_nI U46 (ne_k g0 gq45 (by decide))).trans e104
                have e106 := (up_nI U48 (ne_k g0 gq47 (by decide))).trans e105
                have e107 := (up_nI U51 (ne_k g0 gq49 (by decide))).trans e106
                refine q_getI E hC51 g0 fa_RX4_51 dX4_start_184 (fun v103 ev103 _ _ => ?_)
                have qv103 := e107.symm.trans ev103; subst qv103
                refine lv_iconst (v := 1) hx hb dX4_start_187 rfl ?_
                refine lv_iadd hx hb dX4_start_188 (lv_topi (fun v108 ev108 => ?_))
                refine q_put E hC51 hS51 g0 fp_RX4_51 tv_F rfl rfl dX4_start_189 (fun H109 locs109 hC109 hS109 U109 => ?_)
                have hKp109 := Kp.upO E g0 fp_RX4_51 rfl U109 hKp51
                have e110 := up_I U109
                obtain ⟨v111, ev111⟩ : ∃ z, z = v30 + Int32.ofInt 1 := ⟨_, rfl⟩
                have ev111i : v111.toInt = (z30 + 1) := i_add ev111 ev30 (by decide) (by omega) (by omega)
                refine lv_iinc hx hb dX4_start_192 hl (k := 1) rfl ev111.symm (by decide) rfl (fun ls hl => ?_)
                replace hl : lv_has ls 4 [(3, .int v111), (2, .int 1), (0, .ref h0), (1, .int p1)] := hl
                refine lv_goto (tgt := 30) hx hb dX4_start_195 rfl ?_
                exact ih32 H109 locs109 v111 ((z30 + 1)) 1 (1) ls (by omega) ev111i (by decide) (by omega) (by omega) hC109 hS109 hKp109 hl
              · refine lv_aload_n hx hb dX4_start_142 rfl (lv_at hl 2 rfl) ?_
                refine q_getR E hC51 g0 fa_RX4_22 dX4_start_143 (fun q112 eq112 gq112 => ?_)
                refine lv_iload_n hx hb dX4_start_146 rfl (lv_at hl 1 rfl) ?_
                refine lv_aload_n hx hb dX4_start_147 rfl (lv_at hl 2 rfl) ?_
                refine q_goI (q_runV (As := []) (rest := [.int v30, .ref q112]) E hC51 hS51 (m_X4_passNumber l X Γ H51 hC51 h0 g0) cw_X4_passNumber cl_RX4_69 g0 ⟨rfl, rfl⟩ rfl hl.1 rfl (show _ ≤ _ from by simp [Value.category]) (by decide) dX4_start_148) hS51 (fun v113 H113 locs113 hr113 hC113 hS113 => ?_)
                obtain ⟨hp113, hr113⟩ := hr113
                have hKp113 := hKp51.tr (hp113.mono rfl)
                refine lv_i2l (v := v113.toInt64) hx hb dX4_start_151 rfl (lv_topl (fun v114 ev114 => ?_))
                have ev114i : v114.toInt = v113.toInt := l_ofi ev114.symm rfl
                refine q_last2 E hC113 hS113 gq112 (by decide) rfl rfl (fun _ => rfl) (a := z30) ev30 (by omega) (by omega) dX4_start_152 (fun H115 locs115 hC115 hS115 U115 => ?_)
                have hKp115 := Kp.upA gq112 rfl (by decide) rfl U115 hKp113
                refine lv_aload_n hx hb dX4_start_153 rfl (lv_at hl 2 rfl) ?_
                refine q_getR E hC115 g0 fa_RX4_15 dX4_start_154 (fun q116 eq116 gq116 => ?_)
                refine lv_iload_n hx hb dX4_start_157 rfl (lv_at hl 1 rfl) ?_
                refine lv_aload_n hx hb dX4_start_158 rfl (lv_at hl 2 rfl) ?_
                have e118 := (up_nI U44 (ne_k g0 gq42 (by decide))).trans ev43
                have e119 := (up_nI U46 (ne_k g0 gq45 (by decide))).trans e118
                have e120 := (up_nI U48 (ne_k g0 gq47 (by decide))).trans e119
                have e121 := (up_nI U51 (ne_k g0 gq49 (by decide))).trans e120
                refine q_getI E hC115 g0 fa_RX4_51 dX4_start_159 (fun v117 ev117 _ _ => ?_)
                refine lv_aload_n hx hb dX4_start_162 rfl (lv_at hl 2 rfl) ?_
                refine q_getR E hC115 g0 fa_RX4_19 dX4_start_163 (fun q122 eq122 gq122 => ?_)
                refine lv_iload_n hx hb dX4_start_166 rfl (lv_at hl 1 rfl) ?_
                refine q_iald E hC115 gq122 rfl rfl (fun _ h => h) (i_in (a := z30) ev30 (by omega) (by omega)) dX4_start_167 (fun v123 ev123 _ _ => ?_)
                refine lv_isub hx hb dX4_start_168 (lv_topi (fun v124 ev124 => ?_))
                refine lv_iconst (v := 4) hx hb dX4_start_169 rfl ?_
                refine q_icmp_le hx hb (a := v124.toInt) (b := 4) rfl (by decide) (tgt := 177) dX4_start_170 rfl (fun c125 => ?_) (fun c125 => ?_)
                · refine lv_iconst (v := 3) hx hb dX4_start_177 rfl ?_
                  refine q_iast E hC115 hS115 gq116 (by decide) rfl rfl (i_in (a := z30) ev30 (by omega) (by omega)) tv_F dX4_start_178 (fun H126 locs126 hC126 hS126 U126 => ?_)
                  have hKp126 := Kp.upA gq116 rfl (by decide) rfl U126 hKp115
                  refine lv_goto (tgt := 192) hx hb dX4_start_179 rfl ?_
                  obtain ⟨v127, ev127⟩ : ∃ z, z = v30 + Int32.ofInt 1 := ⟨_, rfl⟩
                  have ev127i : v127.toInt = (z30 + 1) := i_add ev127 ev30 (by decide) (by omega) (by omega)
                  refine lv_iinc hx hb dX4_start_192 hl (k := 1) rfl ev127.symm (by decide) rfl (fun ls hl => ?_)
                  replace hl : lv_has ls 4 [(3, .int v127), (2, .int 1), (0, .ref h0), (1, .int p1)] := hl
                  refine lv_goto (tgt := 30) hx hb dX4_start_195 rfl ?_
                  exact ih32 H126 locs126 v127 ((z30 + 1)) 1 (1) ls (by omega) ev127i (by decide) (by omega) (by omega) hC126 hS126 hKp126 hl
                · refine lv_iconst (v := 1) hx hb dX4_start_173 rfl ?_
                  refine lv_goto (tgt := 178) hx hb dX4_start_174 rfl ?_
                  refine q_iast E hC115 hS115 gq116 (by decide) rfl rfl (i_in (a := z30) ev30 (by omega) (by omega)) tv_F dX4_start_178 (fun H128 locs128 hC128 hS128 U128 => ?_)
                  have hKp128 := Kp.upA gq116 rfl (by decide) rfl U128 hKp115
                  refine lv_goto (tgt := 192) hx hb dX4_start_179 rfl ?_
                  obtain ⟨v129, ev129⟩ : ∃ z, z = v30 + Int32.ofInt 1 := ⟨_, rfl⟩
                  have ev129i : v129.toInt = (z30 + 1) := i_add ev129 ev30 (by decide) (by omega) (by omega)
                  refine lv_iinc hx hb dX4_start_192 hl (k := 1) rfl ev129.symm (by decide) rfl (fun ls hl => ?_)
                  replace hl : lv_has ls 4 [(3, .int v129), (2, .int 1), (0, .ref h0), (1, .int p1)] := hl
                  refine lv_goto (tgt := 30) hx hb dX4_start_195 rfl ?_
                  exact ih32 H128 locs128 v129 ((z30 + 1)) 1 (1) ls (by omega) ev129i (by decide) (by omega) (by omega) hC128 hS128 hKp128 hl
            · refine lv_aload_n hx hb dX4_start_104 rfl (lv_at hl 2 rfl) ?_
              refine q_getR E hC51 g0 fa_RX4_22 dX4_start_105 (fun q130 eq130 gq130 => ?_)
              refine lv_iload_n hx hb dX4_start_108 rfl (lv_at hl 1 rfl) ?_
              refine lv_aload_n hx hb dX4_start_109 rfl (lv_at hl 2 rfl) ?_
              refine q_goJ (q_runV (As := []) (rest := [.int v30, .ref q130]) E hC51 hS51 (m_X4_passWord l X Γ H51 hC51 h0 g0) cw_X4_passWord cl_RX4_61 g0 ⟨rfl, rfl⟩ rfl hl.1 rfl (show _ ≤ _ from by simp [Value.category]) (by decide) dX4_start_110) hS51 (fun v131 H131 locs131 hr131 hC131 hS131 => ?_)
              obtain ⟨hp131, hr131⟩ := hr131
              have hKp131 := hKp51.tr (hp131.mono rfl)
              refine q_last2 E hC131 hS131 gq130 (by decide) rfl rfl (fun _ => rfl) (a := z30) ev30 (by omega) (by omega) dX4_start_113 (fun H132 locs132 hC132 hS132 U132 => ?_)
              have hKp132 := Kp.upA gq130 rfl (by decide) rfl U132 hKp131
              refine lv_aload_n hx hb dX4_start_114 rfl (lv_at hl 2 rfl) ?_
              refine q_getR E hC132 g0 fa_RX4_28 dX4_start_115 (fun q133 eq133 gq133 => ?_)
              refine lv_iload_n hx hb dX4_start_118 rfl (lv_at hl 1 rfl) ?_
              refine lv_aload_n hx hb dX4_start_119 rfl (lv_at hl 2 rfl) ?_
              refine q_getR E hC132 g0 fa_RX4_22 dX4_start_120 (fun q134 eq134 gq134 => ?_)
              refine lv_iload_n hx hb dX4_start_123 rfl (lv_at hl 1 rfl) ?_
              refine q_lald2 E hC132 gq134 rfl rfl (fun _ => rfl) (a := z30) ev30 (by omega) (by omega) dX4_start_124 (fun v135 ev135 => ?_)
              refine q_goQp (q_runS (As := [.long v135]) (rest := [.int v30, .ref q133]) E hS132 (m_X8_of l X Γ H132 hC132 v135 (a0 := v135.toInt) rfl) cw_X8_of cl_RX4_65 rfl hl.1 rfl (show _ ≤ _ from by simp [Value.category]) (by decide) dX4_start_125) hS132 (fun v136 locs136 hr136 hS136 => ?_)
              refine q_wast (o := v136) E hC132 hS136 gq133 (by decide) rfl rfl (fun _ => rfl) hr136 (i_in (a := z30) ev30 (by omega) (by omega)) dX4_start_128 (fun H137 locs137 hC137 hS137 U137 => ?_)
              have hKp137 := Kp.upA gq133 rfl (by decide) rfl U137 hKp132
              refine lv_goto (tgt := 192) hx hb dX4_start_129 rfl ?_
              obtain ⟨v138, ev138⟩ : ∃ z, z = v30 + Int32.ofInt 1 := ⟨_, rfl⟩
              have ev138i : v138.toInt = (z30 + 1) := i_add ev138 ev30 (by decide) (by omega) (by omega)
              refine lv_iinc hx hb dX4_start_192 hl (k := 1) rfl ev138.symm (by decide) rfl (fun ls hl => ?_)
              replace hl : lv_has ls 4 [(3, .int v138), (2, .int 1), (0, .ref h0), (1, .int p1)] := hl
              refine lv_goto (tgt := 30) hx hb dX4_start_195 rfl ?_
              exact ih32 H137 locs137 v138 ((z30 + 1)) 1 (1) ls (by omega) ev138i (by decide) (by omega) (by omega) hC137 hS137 hKp137 hl
  exact L30 _ H28 locs28 0 0 0 0 ls (Nat.lt_succ_self _) (by decide) (by decide) (by omega) (by omega) hC28 hS28 hKp28 hl
set_option maxRecDepth 100000 in
set_option maxHeartbeats 4000000 in
theorem m_X4_misfit (l : Launch) (X : xW) (Γ : Nat → Option Nat) (H0 : Heap) (hC0 : Conf X Γ H0) (h0 : Nat) (g0 : Γ h0 = some 2) : Ctr l X Γ yX4_misfit cX4_misfit 1 (some .boolean) 0 [.ref h0] H0 (QI X Γ (fun v H1 => Kp X Γ [0, 2, 3, 4, 5, 18, 21, 23, 25, 27] H0 H1 ∧ (v = 0 ∨ v = 1))) := by
  refine q_enterZ (own := "SnowForts$Reader") (by decide) rfl (Nat.le_of_ble_eq_true rfl) ?_
  intro p e s m args below meth c ls Qz E hl ret hS0
  have hx := E.1; have hb := E.2.1
  have hKp0 : Kp X Γ [0, 2, 3, 4, 5, 18, 21, 23, 25, 27] H0 H0 := Kp.rf
  have hl : lv_has ls 1 [(0, .ref h0)] := hl
  refine lv_aload_n hx hb dX4_misfit_0 rfl (lv_at hl 0 rfl) ?_
  refine lv_aload_n hx hb dX4_misfit_1 rfl (lv_at hl 0 rfl) ?_
  refine q_getI E hC0 g0 fa_RX4_93 dX4_misfit_2 (fun v21 ev21 _ _ => ?_)
  refine lv_iconst (v := 1) hx hb dX4_misfit_5 rfl ?_
  refine q_icmp_ne hx hb (a := v21.toInt) (b := 1) rfl (by decide) (tgt := 13) dX4_misfit_6 rfl (fun c22 => ?_) (fun c22 => ?_)
  · refine lv_iconst (v := 2) hx hb dX4_misfit_13 rfl ?_
    refine q_put E hC0 hS0 g0 fp_RX4_32 tv_F rfl rfl dX4_misfit_14 (fun H23 locs23 hC23 hS23 U23 => ?_)
    have hKp23 := Kp.upO E g0 fp_RX4_32 rfl U23 hKp0
    have e24 := up_I U23
    refine lv_aload_n hx hb dX4_misfit_17 rfl (lv_at hl 0 rfl) ?_
    refine lv_aload_n hx hb dX4_misfit_18 rfl (lv_at hl 0 rfl) ?_
    refine q_getI E hC23 g0 fa_RX4_96 dX4_misfit_19 (fun v25 ev25 _ _ => ?_)
    refine q_put E hC23 hS23 g0 fp_RX4_36 tv_F rfl rfl dX4_misfit_22 (fun H26 locs26 hC26 hS26 U26 => ?_)
    have hKp26 := Kp.upO E g0 fp_RX4_36 rfl U26 hKp23
    have e27 := up_I U26
    refine lv_iconst (v := 0) hx hb dX4_misfit_25 rfl ?_
    exact ret 0 H26 locs26 _ _ dX4_misfit_26 (Or.inl rfl) ⟨hKp26, Or.inl rfl⟩ hC26 hS26
  · refine lv_iconst (v := 1) hx hb dX4_misfit_9 rfl ?_
    refine lv_goto (tgt := 14) hx hb dX4_misfit_10 rfl ?_
    refine q_put E hC0 hS0 g0 fp_RX4_32 tv_F rfl rfl dX4_misfit_14 (fun H28 locs28 hC28 hS28 U28 => ?_)
    have hKp28 := Kp.upO E g0 fp_RX4_32 rfl U28 hKp0
    have e29 := up_I U28
    refine lv_aload_n hx hb dX4_misfit_17 rfl (lv_at hl 0 rfl) ?_
    refine lv_aload_n hx hb dX4_misfit_18 rfl (lv_at hl 0 rfl) ?_
    refine q_getI E hC28 g0 fa_RX4_96 dX4_misfit_19 (fun v30 ev30 _ _ => ?_)
    refine q_put E hC28 hS28 g0 fp_RX4_36 tv_F rfl rfl dX4_misfit_22 (fun H31 locs31 hC31 hS31 U31 => ?_)
    have hKp31 := Kp.upO E g0 fp_RX4_36 rfl U31 hKp28
    have e32 := up_I U31
    refine lv_iconst (v := 0) hx hb dX4_misfit_25 rfl ?_
    exact ret 0 H31 locs31 _ _ dX4_misfit_26 (Or.inl rfl) ⟨hKp31, Or.inl rfl⟩ hC31 hS31
set_option maxRecDepth 100000 in
set_option maxHeartbeats 4000000 in
theorem m_X4_take (l : Launch) (X : xW) (Γ : Nat → Option Nat) (H0 : Heap) (hC0 : Conf X Γ H0) (h0 : Nat) (g0 : Γ h0 = some 2) (o1 : Option Nat) (g1 : ∀ q, o1 = some q → Γ q = some 12) : Ctr l X Γ yX4_take cX4_take 2 (some .boolean) 2 [.ref h0, va_rf o1] H0 (QI X Γ (fun v H1 => Kp X Γ [0, 2, 3, 4, 5, 18, 21, 23, 25, 27] H0 H1 ∧ (v = 0 ∨ v = 1))) := by
  refine q_enterZ (own := "SnowForts$Reader") (by decide) rfl (by cases o1 <;> exact Nat.le_of_ble_eq_true rfl) ?_
  intro p e s m args below meth c ls Qz E hl ret hS0
  have hx := E.1; have hb := E.2.1
  have hKp0 : Kp X Γ [0, 2, 3, 4, 5, 18, 21, 23, 25, 27] H0 H0 := Kp.rf
  have hl : lv_has ls 2 [(0, .ref h0), (1, va_rf o1)] := by revert hl; cases o1 <;> exact fun h => h
  refine lv_aload_n hx hb dX4_take_0 rfl (lv_at hl 0 rfl) ?_
  refine q_getQ E hC0 g0 fa_RX4_103 dX4_take_1 (fun q21 eq21 gq21 => ?_)
  refine q_alq_n (o := o1) hx hb dX4_take_4 rfl (lv_at hl 1 rfl) ?_
  refine lv_acmp_eq (rx := q21) (ry := o1) (tgt := 13) hx hb dX4_take_5 rfl (fun c22 => ?_) (fun c22 => ?_)
  · refine lv_aload_n hx hb dX4_take_13 rfl (lv_at hl 0 rfl) ?_
    refine q_goV (q_runV (As := []) (rest := []) E hC0 hS0 (m_X4_advance l X Γ H0 hC0 h0 g0) cw_X4_advance cl_RX4_75 g0 ⟨rfl, rfl⟩ rfl hl.1 rfl (Nat.zero_le _) (by decide) dX4_take_14) hS0 (fun H23 locs23 hr23 hC23 hS23 => ?_)
    have hKp23 := hKp0.tr (hr23.mono rfl)
    refine lv_iconst (v := 1) hx hb dX4_take_17 rfl ?_
    exact ret 1 H23 locs23 _ _ dX4_take_18 (Or.inr rfl) ⟨hKp23, Or.inr rfl⟩ hC23 hS23
  · refine lv_aload_n hx hb dX4_take_8 rfl (lv_at hl 0 rfl) ?_
    refine q_goI (q_runV (As := []) (rest := []) E hC0 hS0 (m_X4_misfit l X Γ H0 hC0 h0 g0) cw_X4_misfit cl_RX4_107 g0 ⟨rfl, rfl⟩ rfl hl.1 rfl (Nat.zero_le _) (by decide) dX4_take_9) hS0 (fun v24 H24 locs24 hr24 hC24 hS24 => ?_)
    obtain ⟨hp24, hr24⟩ := hr24
    have hKp24 := hKp0.tr (hp24.mono rfl)
    rcases hr24 with rfl | rfl
    · exact ret 0 H24 locs24 _ _ dX4_take_12 (Or.inl rfl) ⟨hKp24, Or.inl rfl⟩ hC24 hS24
    · exact ret 1 H24 locs24 _ _ dX4_take_12 (Or.inr rfl) ⟨hKp24, Or.inr rfl⟩ hC24 hS24
set_option maxRecDepth 100000 in
set_option maxHeartbeats 4000000 in
theorem m_X4_fail (l : Launch) (X : xW) (Γ : Nat → Option Nat) (H0 : Heap) (hC0 : Conf X Γ H0) (h0 : Nat) (g0 : Γ h0 = some 2) (p1 : Int32) {a1 : Int} (e1 : p1.toInt = a1) (p2 : Int32) {a2 : Int} (e2 : p2.toInt = a2) : Ctr l X Γ yX4_fail cX4_fail 3 (some .boolean) 0 [.ref h0, .int p1, .int p2] H0 (QI X Γ (fun v H1 => Kp X Γ [0, 2, 3, 4, 5, 18, 21, 23, 25, 27] H0 H1 ∧ (v = 0 ∨ v = 1))) := by
  refine q_enterZ (own := "SnowForts$Reader") (by decide) rfl (Nat.le_of_ble_eq_true rfl) ?_
  intro p e s m args below meth c ls Qz E hl ret hS0
  have hx := E.1; have hb := E.2.1
  have hKp0 : Kp X Γ [0, 2, 3, 4, 5, 18, 21, 23, 25, 27] H0 H0 := Kp.rf
  have hl : lv_has ls 3 [(0, .ref h0), (1, .int p1), (2, .int p2)] := hl
  refine lv_aload_n hx hb dX4_fail_0 rfl (lv_at hl 0 rfl) ?_
  refine lv_iload_n hx hb dX4_fail_1 rfl (lv_at hl 1 rfl) ?_
  refine q_put E hC0 hS0 g0 fp_RX4_32 tv_F rfl rfl dX4_fail_2 (fun H21 locs21 hC21 hS21 U21 => ?_)
  have hKp21 := Kp.upO E g0 fp_RX4_32 rfl U21 hKp0
  have e22 := up_I U21
  refine lv_aload_n hx hb dX4_fail_5 rfl (lv_at hl 0 rfl) ?_
  refine lv_iload_n hx hb dX4_fail_6 rfl (lv_at hl 2 rfl) ?_
  refine q_put E hC21 hS21 g0 fp_RX4_36 tv_F rfl rfl dX4_fail_7 (fun H23 locs23 hC23 hS23 U23 => ?_)
  have hKp23 := Kp.upO E g0 fp_RX4_36 rfl U23 hKp21
  have e24 := up_I U23
  refine lv_iconst (v := 0) hx hb dX4_fail_10 rfl ?_
  exact ret 0 H23 locs23 _ _ dX4_fail_11 (Or.inl rfl) ⟨hKp23, Or.inl rfl⟩ hC23 hS23
set_option maxRecDepth 100000 in
set_option maxHeartbeats 4000000 in
theorem m_X4_takeNumber (l : Launch) (X : xW) (Γ : Nat → Option Nat) (H0 : Heap) (hC0 : Conf X Γ H0) (h0 : Nat) (g0 : Γ h0 = some 2) (p1 : Int32) {a1 : Int} (e1 : p1.toInt = a1) (p2 : Int32) {a2 : Int} (e2 : p2.toInt = a2) : Ctr l X Γ yX4_takeNumber cX4_takeNumber 3 (some .boolean) 2 [.ref h0, .int p1, .int p2] H0 (QI X Γ (fun v H1 => Kp X Γ [0, 2, 3, 4, 5, 18, 21, 23, 25, 27] H0 H1 ∧ (v = 0 ∨ v = 1))) := by
  refine q_enterZ (own := "SnowForts$Reader") (by decide) rfl (Nat.le_of_ble_eq_true rfl) ?_
  intro p e s m args below meth c ls Qz E hl ret hS0
  have hx := E.1; have hb := E.2.1
  have hKp0 : Kp X Γ [0, 2, 3, 4, 5, 18, 21, 23, 25, 27] H0 H0 := Kp.rf
  have hl : lv_has ls 3 [(0, .ref h0), (1, .int p1), (2, .int p2)] := hl
  refine lv_aload_n hx hb dX4_takeNumber_0 rfl (lv_at hl 0 rfl) ?_
  refine q_getI E hC0 g0 fa_RX4_93 dX4_takeNumber_1 (fun v21 ev21 _ _ => ?_)
  refine lv_iconst (v := 3) hx hb dX4_takeNumber_4 rfl ?_
  refine q_icmp_eq hx hb (a := v21.toInt) (b := 3) rfl (by decide) (tgt := 13) dX4_takeNumber_5 rfl (fun c22 => ?_) (fun c22 => ?_)
  · refine lv_aload_n hx hb dX4_takeNumber_13 rfl (lv_at hl 0 rfl) ?_
    refine q_getJ E hC0 g0 fa_RX4_99 dX4_takeNumber_14 (fun v23 ev23 => ?_)
    refine lv_iload_n hx hb dX4_takeNumber_17 rfl (lv_at hl 1 rfl) ?_
    refine lv_iload_n hx hb dX4_takeNumber_18 rfl (lv_at hl 2 rfl) ?_
    refine q_goIp (q_runSN (As := [.long v23, .int p1, .int p2]) (rest := []) E hS0 (m_X11_isWithin l X Γ H0 hC0 v23 (a0 := v23.toInt) rfl p1 (a1 := a1) e1 p2 (a2 := a2) e2) cw_X11_isWithin cl_RX4_111 rfl hl.1 rfl (Nat.zero_le _) (by decide) dX4_takeNumber_19) hS0 (fun v24 locs24 hr24 hS24 => ?_)
    rcases hr24 with ⟨rfl, f24a0, f24a1⟩ | ⟨rfl, f24b⟩
    · refine q_if_ne hx hb (a := 1) (by decide) (tgt := 35) dX4_takeNumber_22 rfl (fun c25 => ?_) (fun c25 => absurd c25 (by omega))
      refine lv_aload_n hx hb dX4_takeNumber_35 rfl (lv_at hl 0 rfl) ?_
      refine lv_aload_n hx hb dX4_takeNumber_36 rfl (lv_at hl 0 rfl) ?_
      refine q_getJ E hC0 g0 fa_RX4_99 dX4_takeNumber_37 (fun v26 ev26 => ?_)
      refine lv_l2i hx hb dX4_takeNumber_40 rfl (lv_topi (fun v27 ev27 => ?_))
      refine q_put E hC0 hS24 g0 fp_RX4_119 tv_F rfl rfl dX4_takeNumber_41 (fun H28 locs28 hC28 hS28 U28 => ?_)
      have hKp28 := Kp.upO E g0 fp_RX4_119 rfl U28 hKp0
      have e29 := up_I U28
      refine lv_aload_n hx hb dX4_takeNumber_44 rfl (lv_at hl 0 rfl) ?_
      refine lv_aload_n hx hb dX4_takeNumber_45 rfl (lv_at hl 0 rfl) ?_
      refine q_getI E hC28 g0 fa_RX4_96 dX4_takeNumber_46 (fun v30 ev30 _ _ => ?_)
      refine q_put E hC28 hS28 g0 fp_RX4_122 tv_F rfl rfl dX4_takeNumber_49 (fun H31 locs31 hC31 hS31 U31 => ?_)
      have hKp31 := Kp.upO E g0 fp_RX4_122 rfl U31 hKp28
      have e32 := up_I U31
      refine lv_aload_n hx hb dX4_takeNumber_52 rfl (lv_at hl 0 rfl) ?_
      refine q_goV (q_runV (As := []) (rest := []) E hC31 hS31 (m_X4_advance l X Γ H31 hC31 h0 g0) cw_X4_advance cl_RX4_75 g0 ⟨rfl, rfl⟩ rfl hl.1 rfl (Nat.zero_le _) (by decide) dX4_takeNumber_53) hS31 (fun H33 locs33 hr33 hC33 hS33 => ?_)
      have hKp33 := hKp31.tr (hr33.mono rfl)
      refine lv_iconst (v := 1) hx hb dX4_takeNumber_56 rfl ?_
      exact ret 1 H33 locs33 _ _ dX4_takeNumber_57 (Or.inr rfl) ⟨hKp33, Or.inr rfl⟩ hC33 hS33
    · refine q_if_ne hx hb (a := 0) (by decide) (tgt := 35) dX4_takeNumber_22 rfl (fun c34 => absurd c34 (by omega)) (fun c34 => ?_)
      refine lv_aload_n hx hb dX4_takeNumber_25 rfl (lv_at hl 0 rfl) ?_
      refine lv_iconst (v := 4) hx hb dX4_takeNumber_26 rfl ?_
      refine lv_aload_n hx hb dX4_takeNumber_27 rfl (lv_at hl 0 rfl) ?_
      refine q_getI E hC0 g0 fa_RX4_96 dX4_takeNumber_28 (fun v35 ev35 _ _ => ?_)
      refine q_goI (q_runV (As := [.int 4, .int v35]) (rest := []) E hC0 hS24 (m_X4_fail l X Γ H0 hC0 h0 g0 4 (a1 := 4) (by decide) v35 (a2 := v35.toInt) rfl) cw_X4_fail cl_RX4_115 g0 ⟨rfl, rfl⟩ rfl hl.1 rfl (Nat.zero_le _) (by decide) dX4_takeNumber_31) hS24 (fun v36 H36 locs36 hr36 hC36 hS36 => ?_)
      obtain ⟨hp36, hr36⟩ := hr36
      have hKp36 := hKp0.tr (hp36.mono rfl)
      rcases hr36 with rfl | rfl
      · exact ret 0 H36 locs36 _ _ dX4_takeNumber_34 (Or.inl rfl) ⟨hKp36, Or.inl rfl⟩ hC36 hS36
      · exact ret 1 H36 locs36 _ _ dX4_takeNumber_34 (Or.inr rfl) ⟨hKp36, Or.inr rfl⟩ hC36 hS36
  · refine lv_aload_n hx hb dX4_takeNumber_8 rfl (lv_at hl 0 rfl) ?_
    refine q_goI (q_runV (As := []) (rest := []) E hC0 hS0 (m_X4_misfit l X Γ H0 hC0 h0 g0) cw_X4_misfit cl_RX4_107 g0 ⟨rfl, rfl⟩ rfl hl.1 rfl (Nat.zero_le _) (by decide) dX4_takeNumber_9) hS0 (fun v37 H37 locs37 hr37 hC37 hS37 => ?_)
    obtain ⟨hp37, hr37⟩ := hr37
    have hKp37 := hKp0.tr (hp37.mono rfl)
    rcases hr37 with rfl | rfl
    · exact ret 0 H37 locs37 _ _ dX4_takeNumber_12 (Or.inl rfl) ⟨hKp37, Or.inl rfl⟩ hC37 hS37
    · exact ret 1 H37 locs37 _ _ dX4_takeNumber_12 (Or.inr rfl) ⟨hKp37, Or.inr rfl⟩ hC37 hS37
set_option maxRecDepth 100000 in
set_option maxHeartbeats 4000000 in
theorem m_X4_takeSign (l : Launch) (X : xW) (Γ : Nat → Option Nat) (H0 : Heap) (hC0 : Conf X Γ H0) (h0 : Nat) (g0 : Γ h0 = some 2) (p1 : Int32) {a1 : Int} (e1 : p1.toInt = a1) : Ctr l X Γ yX4_takeSign cX4_takeSign 2 (some .boolean) 2 [.ref h0, .int p1] H0 (QI X Γ (fun v H1 => Kp X Γ [0, 2, 3, 4, 5, 18, 21, 23, 25, 27] H0 H1 ∧ (v = 0 ∨ v = 1))) := by
  refine q_enterZ (own := "SnowForts$Reader") (by decide) rfl (Nat.le_of_ble_eq_true rfl) ?_
  intro p e s m args below meth c ls Qz E hl ret hS0
  have hx := E.1; have hb := E.2.1
  have hKp0 : Kp X Γ [0, 2, 3, 4, 5, 18, 21, 23, 25, 27] H0 H0 := Kp.rf
  have hl : lv_has ls 2 [(0, .ref h0), (1, .int p1)] := hl
  refine lv_aload_n hx hb dX4_takeSign_0 rfl (lv_at hl 0 rfl) ?_
  refine q_getI E hC0 g0 fa_RX4_93 dX4_takeSign_1 (fun v21 ev21 _ _ => ?_)
  refine lv_iload_n hx hb dX4_takeSign_4 rfl (lv_at hl 1 rfl) ?_
  have c22 := i_rng v21; rw [show v21.toInt = v21.toInt from rfl] at c22
  have c23 := i_rng p1; rw [show p1.toInt = a1 from e1] at c23
  refine q_icmp_eq hx hb (a := v21.toInt) (b := a1) rfl e1 (tgt := 13) dX4_takeSign_5 rfl (fun c24 => ?_) (fun c24 => ?_)
  · refine lv_aload_n hx hb dX4_takeSign_13 rfl (lv_at hl 0 rfl) ?_
    refine q_goV (q_runV (As := []) (rest := []) E hC0 hS0 (m_X4_advance l X Γ H0 hC0 h0 g0) cw_X4_advance cl_RX4_75 g0 ⟨rfl, rfl⟩ rfl hl.1 rfl (Nat.zero_le _) (by decide) dX4_takeSign_14) hS0 (fun H25 locs25 hr25 hC25 hS25 => ?_)
    have hKp25 := hKp0.tr (hr25.mono rfl)
    refine lv_iconst (v := 1) hx hb dX4_takeSign_17 rfl ?_
    exact ret 1 H25 locs25 _ _ dX4_takeSign_18 (Or.inr rfl) ⟨hKp25, Or.inr rfl⟩ hC25 hS25
  · refine lv_aload_n hx hb dX4_takeSign_8 rfl (lv_at hl 0 rfl) ?_
    refine q_goI (q_runV (As := []) (rest := []) E hC0 hS0 (m_X4_misfit l X Γ H0 hC0 h0 g0) cw_X4_misfit cl_RX4_107 g0 ⟨rfl, rfl⟩ rfl hl.1 rfl (Nat.zero_le _) (by decide) dX4_takeSign_9) hS0 (fun v26 H26 locs26 hr26 hC26 hS26 => ?_)
    obtain ⟨hp26, hr26⟩ := hr26
    have hKp26 := hKp0.tr (hp26.mono rfl)
    rcases hr26 with rfl | rfl
    · exact ret 0 H26 locs26 _ _ dX4_takeSign_12 (Or.inl rfl) ⟨hKp26, Or.inl rfl⟩ hC26 hS26
    · exact ret 1 H26 locs26 _ _ dX4_takeSign_12 (Or.inr rfl) ⟨hKp26, Or.inr rfl⟩ hC26 hS26
set_option maxRecDepth 100000 in
set_option maxHeartbeats 4000000 in
theorem m_X10_takeSize (l : Launch) (X : xW) (Γ : Nat → Option Nat) (H0 : Heap) (hC0 : Conf X Γ H0) (h0 : Nat) (g0 : Γ h0 = some 3) (h1 : Nat) (g1 : Γ h1 = some 5) : Ctr l X Γ yX10_takeSize cX10_takeSize 2 (some .boolean) 3 [.ref h0, .ref h1] H0 (QI X Γ (fun v H1 => Kp X Γ [0, 2, 3, 4, 5, 18, 21, 23, 25, 27] H0 H1 ∧ (v = 0 ∨ v = 1))) := by
  refine q_enterZ (own := "SnowForts$YardText") (by decide) rfl (Nat.le_of_ble_eq_true rfl) ?_
  intro p e s m args below meth c ls Qz E hl ret hS0
  have hx := E.1; have hb := E.2.1
  have hKp0 : Kp X Γ [0, 2, 3, 4, 5, 18, 21, 23, 25, 27] H0 H0 := Kp.rf
  have hl : lv_has ls 2 [(0, .ref h0), (1, .ref h1)] := hl
  refine lv_aload_n hx hb dX10_takeSize_0 rfl (lv_at hl 0 rfl) ?_
  refine q_getR E hC0 g0 fa_RX10_21 dX10_takeSize_1 (fun q21 eq21 gq21 => ?_)
  refine q_word E hS0 (i := 0) (by decide) w_618 dX10_takeSize_4 (fun q22 gq22 => ?_)
  refine q_goI (q_runV (As := [va_rf (some q22)]) (rest := []) E hC0 hS0 (m_X4_take l X Γ H0 hC0 q21 gq21 (some q22) (fun _ h => by cases h; exact gq22)) cw_X4_take cl_RX10_75 gq21 ⟨rfl, rfl⟩ rfl hl.1 rfl (Nat.zero_le _) (by decide) dX10_takeSize_7) hS0 (fun v23 H23 locs23 hr23 hC23 hS23 => ?_)
  obtain ⟨hp23, hr23⟩ := hr23
  have hKp23 := hKp0.tr (hp23.mono rfl)
  rcases hr23 with rfl | rfl
  · refine q_if_eq hx hb (a := 0) (by decide) (tgt := 26) dX10_takeSize_10 rfl (fun c24 => ?_) (fun c24 => absurd c24 (by omega))
    refine lv_iconst (v := 0) hx hb dX10_takeSize_26 rfl ?_
    exact ret 0 H23 locs23 _ _ dX10_takeSize_27 (Or.inl rfl) ⟨hKp23, Or.inl rfl⟩ hC23 hS23
  · refine q_if_eq hx hb (a := 1) (by decide) (tgt := 26) dX10_takeSize_10 rfl (fun c25 => absurd c25 (by omega)) (fun c25 => ?_)
    refine lv_aload_n hx hb dX10_takeSize_13 rfl (lv_at hl 0 rfl) ?_
    refine q_getR E hC23 g0 fa_RX10_21 dX10_takeSize_14 (fun q26 eq26 gq26 => ?_)
    refine lv_iconst (v := 2) hx hb dX10_takeSize_17 rfl ?_
    refine lv_bipush (v := 6) hx hb dX10_takeSize_18 rfl ?_
    refine q_goI (q_runV (As := [.int 2, .int 6]) (rest := []) E hC23 hS23 (m_X4_takeNumber l X Γ H23 hC23 q26 gq26 2 (a1 := 2) (by decide) 6 (a2 := 6) (by decide)) cw_X4_takeNumber cl_RX10_79 gq26 ⟨rfl, rfl⟩ rfl hl.1 rfl (Nat.zero_le _) (by decide) dX10_takeSize_20) hS23 (fun v27 H27 locs27 hr27 hC27 hS27 => ?_)
    obtain ⟨hp27, hr27⟩ := hr27
    have hKp27 := hKp23.tr (hp27.mono rfl)
    rcases hr27 with rfl | rfl
    · refine q_if_ne hx hb (a := 0) (by decide) (tgt := 28) dX10_takeSize_23 rfl (fun c28 => absurd c28 (by omega)) (fun c28 => ?_)
      refine lv_iconst (v := 0) hx hb dX10_takeSize_26 rfl ?_
      exact ret 0 H27 locs27 _ _ dX10_takeSize_27 (Or.inl rfl) ⟨hKp27, Or.inl rfl⟩ hC27 hS27
    · refine q_if_ne hx hb (a := 1) (by decide) (tgt := 28) dX10_takeSize_23 rfl (fun c29 => ?_) (fun c29 => absurd c29 (by omega))
      refine lv_aload_n hx hb dX10_takeSize_28 rfl (lv_at hl 0 rfl) ?_
      refine q_getR E hC27 g0 fa_RX10_21 dX10_takeSize_29 (fun q30 eq30 gq30 => ?_)
      refine q_getI E hC27 gq30 fa_RX10_83 dX10_takeSize_32 (fun v31 ev31 _ _ => ?_)
      refine lv_iconst (v := 2) hx hb dX10_takeSize_35 rfl ?_
      refine lv_irem hx hb dX10_takeSize_36 (by decide) (lv_topi (fun v32 ev32 => ?_))
      have ev32b := i_remB ev32 rfl (show (2 : Int32).toInt = 2 from by decide) (by decide)
      refine q_if_eq hx hb (a := v32.toInt) rfl (tgt := 56) dX10_takeSize_37 rfl (fun c33 => ?_) (fun c33 => ?_)
      · refine lv_aload_n hx hb dX10_takeSize_56 rfl (lv_at hl 1 rfl) ?_
        refine lv_aload_n hx hb dX10_takeSize_57 rfl (lv_at hl 0 rfl) ?_
        refine q_getR E hC27 g0 fa_RX10_21 dX10_takeSize_58 (fun q34 eq34 gq34 => ?_)
        refine q_getI E hC27 gq34 fa_RX10_83 dX10_takeSize_61 (fun v35 ev35 _ _ => ?_)
        refine q_put E hC27 hS27 g1 fp_RX10_92 tv_F rfl rfl dX10_takeSize_64 (fun H36 locs36 hC36 hS36 U36 => ?_)
        have hKp36 := Kp.upO E g1 fp_RX10_92 rfl U36 hKp27
        have e37 := up_I U36
        refine lv_aload_n hx hb dX10_takeSize_67 rfl (lv_at hl 0 rfl) ?_
        refine q_getR E hC36 g0 fa_RX10_21 dX10_takeSize_68 (fun q38 eq38 gq38 => ?_)
        refine q_word E hS36 (i := 1) (by decide) w_638 dX10_takeSize_71 (fun q39 gq39 => ?_)
        refine q_goI (q_runV (As := [va_rf (some q39)]) (rest := []) E hC36 hS36 (m_X4_take l X Γ H36 hC36 q38 gq38 (some q39) (fun _ h => by cases h; exact gq39)) cw_X4_take cl_RX10_75 gq38 ⟨rfl, rfl⟩ rfl hl.1 rfl (Nat.zero_le _) (by decide) dX10_takeSize_74) hS36 (fun v40 H40 locs40 hr40 hC40 hS40 => ?_)
        obtain ⟨hp40, hr40⟩ := hr40
        have hKp40 := hKp36.tr (hp40.mono rfl)
        rcases hr40 with rfl | rfl
        · refine q_if_eq hx hb (a := 0) (by decide) (tgt := 93) dX10_takeSize_77 rfl (fun c41 => ?_) (fun c41 => absurd c41 (by omega))
          refine lv_iconst (v := 0) hx hb dX10_takeSize_93 rfl ?_
          exact ret 0 H40 locs40 _ _ dX10_takeSize_94 (Or.inl rfl) ⟨hKp40, Or.inl rfl⟩ hC40 hS40
        · refine q_if_eq hx hb (a := 1) (by decide) (tgt := 93) dX10_takeSize_77 rfl (fun c42 => absurd c42 (by omega)) (fun c42 => ?_)
          refine lv_aload_n hx hb dX10_takeSize_80 rfl (lv_at hl 0 rfl) ?_
          refine q_getR E hC40 g0 fa_RX10_21 dX10_takeSize_81 (fun q43 eq43 gq43 => ?_)
          refine lv_iconst (v := 1) hx hb dX10_takeSize_84 rfl ?_
          refine lv_bipush (v := 6) hx hb dX10_takeSize_85 rfl ?_
          refine q_goI (q_runV (As := [.int 1, .int 6]) (rest := []) E hC40 hS40 (m_X4_takeNumber l X Γ H40 hC40 q43 gq43 1 (a1 := 1) (by decide) 6 (a2 := 6) (by decide)) cw_X4_takeNumber cl_RX10_79 gq43 ⟨rfl, rfl⟩ rfl hl.1 rfl (Nat.zero_le _) (by decide) dX10_takeSize_87) hS40 (fun v44 H44 locs44 hr44 hC44 hS44 => ?_)
          obtain ⟨hp44, hr44⟩ := hr44
          have hKp44 := hKp40.tr (hp44.mono rfl)
          rcases hr44 with rfl | rfl
          · refine q_if_ne hx hb (a := 0) (by decide) (tgt := 95) dX10_takeSize_90 rfl (fun c45 => absurd c45 (by omega)) (fun c45 => ?_)
            refine lv_iconst (v := 0) hx hb dX10_takeSize_93 rfl ?_
            exact ret 0 H44 locs44 _ _ dX10_takeSize_94 (Or.inl rfl) ⟨hKp44, Or.inl rfl⟩ hC44 hS44
          · refine q_if_ne hx hb (a := 1) (by decide) (tgt := 95) dX10_takeSize_90 rfl (fun c46 => ?_) (fun c46 => absurd c46 (by omega))
            refine lv_aload_n hx hb dX10_takeSize_95 rfl (lv_at hl 1 rfl) ?_
            refine lv_aload_n hx hb dX10_takeSize_96 rfl (lv_at hl 0 rfl) ?_
            refine q_getR E hC44 g0 fa_RX10_21 dX10_takeSize_97 (fun q47 eq47 gq47 => ?_)
            refine q_getI E hC44 gq47 fa_RX10_83 dX10_takeSize_100 (fun v48 ev48 _ _ => ?_)
            refine q_put E hC44 hS44 g1 fp_RX10_98 tv_F rfl rfl dX10_takeSize_103 (fun H49 locs49 hC49 hS49 U49 => ?_)
            have hKp49 := Kp.upO E g1 fp_RX10_98 rfl U49 hKp44
            have e50 := up_I U49
            refine lv_aload_n hx hb dX10_takeSize_106 rfl (lv_at hl 0 rfl) ?_
            refine q_getR E hC49 g0 fa_RX10_21 dX10_takeSize_107 (fun q51 eq51 gq51 => ?_)
            refine lv_bipush (v := 59) hx hb dX10_takeSize_110 rfl ?_
            refine q_goI (q_runV (As := [.int 59]) (rest := []) E hC49 hS49 (m_X4_takeSign l X Γ H49 hC49 q51 gq51 59 (a1 := 59) (by decide)) cw_X4_takeSign cl_RX10_53 gq51 ⟨rfl, rfl⟩ rfl hl.1 rfl (Nat.zero_le _) (by decide) dX10_takeSize_112) hS49 (fun v52 H52 locs52 hr52 hC52 hS52 => ?_)
            obtain ⟨hp52, hr52⟩ := hr52
            have hKp52 := hKp49.tr (hp52.mono rfl)
            rcases hr52 with rfl | rfl
            · exact ret 0 H52 locs52 _ _ dX10_takeSize_115 (Or.inl rfl) ⟨hKp52, Or.inl rfl⟩ hC52 hS52
            · exact ret 1 H52 locs52 _ _ dX10_takeSize_115 (Or.inr rfl) ⟨hKp52, Or.inr rfl⟩ hC52 hS52
      · refine lv_aload_n hx hb dX10_takeSize_40 rfl (lv_at hl 0 rfl) ?_
        refine q_getR E hC27 g0 fa_RX10_21 dX10_takeSize_41 (fun q53 eq53 gq53 => ?_)
        refine lv_iconst (v := 4) hx hb dX10_takeSize_44 rfl ?_
        refine lv_aload_n hx hb dX10_takeSize_45 rfl (lv_at hl 0 rfl) ?_
        refine q_getR E hC27 g0 fa_RX10_21 dX10_takeSize_46 (fun q54 eq54 gq54 => ?_)
        refine q_getI E hC27 gq54 fa_RX10_86 dX10_takeSize_49 (fun v55 ev55 _ _ => ?_)
        refine q_goI (q_runV (As := [.int 4, .int v55]) (rest := []) E hC27 hS27 (m_X4_fail l X Γ H27 hC27 q53 gq53 4 (a1 := 4) (by decide) v55 (a2 := v55.toInt) rfl) cw_X4_fail cl_RX10_89 gq53 ⟨rfl, rfl⟩ rfl hl.1 rfl (Nat.zero_le _) (by decide) dX10_takeSize_52) hS27 (fun v56 H56 locs56 hr56 hC56 hS56 => ?_)
        obtain ⟨hp56, hr56⟩ := hr56
        have hKp56 := hKp27.tr (hp56.mono rfl)
        rcases hr56 with rfl | rfl
        · exact ret 0 H56 locs56 _ _ dX10_takeSize_55 (Or.inl rfl) ⟨hKp56, Or.inl rfl⟩ hC56 hS56
        · exact ret 1 H56 locs56 _ _ dX10_takeSize_55 (Or.inr rfl) ⟨hKp56, Or.inr rfl⟩ hC56 hS56
set_option maxRecDepth 100000 in
set_option maxHeartbeats 4000000 in
theorem m_X4_isName (l : Launch) (X : xW) (Γ : Nat → Option Nat) (H0 : Heap) (hC0 : Conf X Γ H0) (h0 : Nat) (g0 : Γ h0 = some 2) : Ctr l X Γ yX4_isName cX4_isName 1 (some .boolean) 0 [.ref h0] H0 (QI X Γ (fun v H1 => H1 = H0 ∧ (v = 0 ∨ v = 1))) := by
  refine q_enterZ (own := "SnowForts$Reader") (by decide) rfl (Nat.le_of_ble_eq_true rfl) ?_
  intro p e s m args below meth c ls Qz E hl ret hS0
  have hx := E.1; have hb := E.2.1
  have hl : lv_has ls 1 [(0, .ref h0)] := hl
  refine lv_aload_n hx hb dX4_isName_0 rfl (lv_at hl 0 rfl) ?_
  refine q_getI E hC0 g0 fa_RX4_93 dX4_isName_1 (fun v21 ev21 _ _ => ?_)
  refine lv_iconst (v := 2) hx hb dX4_isName_4 rfl ?_
  refine q_icmp_ne hx hb (a := v21.toInt) (b := 2) rfl (by decide) (tgt := 28) dX4_isName_5 rfl (fun c22 => ?_) (fun c22 => ?_)
  · refine lv_iconst (v := 0) hx hb dX4_isName_28 rfl ?_
    exact ret 0 H0 [] _ _ dX4_isName_29 (Or.inl rfl) ⟨rfl, Or.inl rfl⟩ hC0 hS0
  · refine lv_aload_n hx hb dX4_isName_8 rfl (lv_at hl 0 rfl) ?_
    refine q_getQ E hC0 g0 fa_RX4_103 dX4_isName_9 (fun q23 eq23 gq23 => ?_)
    refine q_ifnonnull (o := q23) hx hb (tgt := 28) dX4_isName_12 rfl (fun c24 => ?_) (fun c24 => ?_)
    · refine lv_iconst (v := 0) hx hb dX4_isName_28 rfl ?_
      exact ret 0 H0 [] _ _ dX4_isName_29 (Or.inl rfl) ⟨rfl, Or.inl rfl⟩ hC0 hS0
    · refine lv_aload_n hx hb dX4_isName_15 rfl (lv_at hl 0 rfl) ?_
      refine q_getJ E hC0 g0 fa_RX4_99 dX4_isName_16 (fun v25 ev25 => ?_)
      refine lv_lconst (v := 0) hx hb dX4_isName_19 rfl ?_
      refine q_lcmp_eq hx hb (a := v25.toInt) (b := 0) rfl (show (0 : Int64).toInt = 0 from by decide) (tgt := 28) dX4_isName_20 dX4_isName_21 rfl (fun c26 => ?_) (fun c26 => ?_)
      · refine lv_iconst (v := 0) hx hb dX4_isName_28 rfl ?_
        exact ret 0 H0 [] _ _ dX4_isName_29 (Or.inl rfl) ⟨rfl, Or.inl rfl⟩ hC0 hS0
      · refine lv_iconst (v := 1) hx hb dX4_isName_24 rfl ?_
        refine lv_goto (tgt := 29) hx hb dX4_isName_25 rfl ?_
        exact ret 1 H0 [] _ _ dX4_isName_29 (Or.inr rfl) ⟨rfl, Or.inr rfl⟩ hC0 hS0
set_option maxRecDepth 100000 in
set_option maxHeartbeats 4000000 in
theorem m_X10_takeSchool (l : Launch) (X : xW) (Γ : Nat → Option Nat) (H0 : Heap) (hC0 : Conf X Γ H0) (h0 : Nat) (g0 : Γ h0 = some 3) (h1 : Nat) (g1 : Γ h1 = some 5) : Ctr l X Γ yX10_takeSchool cX10_takeSchool 3 (some .boolean) 3 [.ref h0, .ref h1] H0 (QI X Γ (fun v H1 => Kp X Γ [0, 2, 3, 4, 5, 18, 21, 23, 25, 27] H0 H1 ∧ (v = 0 ∨ v = 1))) := by
  refine q_enterZ (own := "SnowForts$YardText") (by decide) rfl (Nat.le_of_ble_eq_true rfl) ?_
  intro p e s m args below meth c ls Qz E hl ret hS0
  have hx := E.1; have hb := E.2.1
  have hKp0 : Kp X Γ [0, 2, 3, 4, 5, 18, 21, 23, 25, 27] H0 H0 := Kp.rf
  have hl : lv_has ls 3 [(0, .ref h0), (1, .ref h1)] := hl
  refine lv_aload_n hx hb dX10_takeSchool_0 rfl (lv_at hl 1 rfl) ?_
  refine q_getI E hC0 g1 fa_RX10_144 dX10_takeSchool_1 (fun v21 ev21 _ _ => ?_)
  refine lv_istore_n hx hb dX10_takeSchool_4 rfl hl (by decide) rfl (fun ls hl => ?_)
  replace hl : lv_has ls 3 [(2, .int v21), (0, .ref h0), (1, .ref h1)] := hl
  refine lv_iload_n hx hb dX10_takeSchool_5 rfl (lv_at hl 0 rfl) ?_
  refine lv_i2l (v := v21.toInt64) hx hb dX10_takeSchool_6 rfl (lv_topl (fun v22 ev22 => ?_))
  have ev22i : v22.toInt = v21.toInt := l_ofi ev22.symm rfl
  refine lv_iconst (v := 0) hx hb dX10_takeSchool_7 rfl ?_
  refine lv_iconst (v := 1) hx hb dX10_takeSchool_8 rfl ?_
  refine q_goIp (q_runSN (As := [.long v22, .int 0, .int 1]) (rest := []) E hS0 (m_X11_isWithin l X Γ H0 hC0 v22 (a0 := v21.toInt) ev22i 0 (a1 := 0) (by decide) 1 (a2 := 1) (by decide)) cw_X11_isWithin cl_RX10_147 rfl hl.1 rfl (Nat.zero_le _) (by decide) dX10_takeSchool_9) hS0 (fun v23 locs23 hr23 hS23 => ?_)
  rcases hr23 with ⟨rfl, f23a0, f23a1⟩ | ⟨rfl, f23b⟩
  · refine q_if_ne hx hb (a := 1) (by decide) (tgt := 32) dX10_takeSchool_12 rfl (fun c24 => ?_) (fun c24 => absurd c24 (by omega))
    refine lv_aload_n hx hb dX10_takeSchool_32 rfl (lv_at hl 1 rfl) ?_
    refine q_getR E hC0 g0 fa_RX10_21 dX10_takeSchool_33 (fun q25 eq25 gq25 => ?_)
    refine q_goV (q_runV (As := []) (rest := []) E hC0 hS23 (m_X4_advance l X Γ H0 hC0 q25 gq25) cw_X4_advance cl_RX10_154 gq25 ⟨rfl, rfl⟩ rfl hl.1 rfl (Nat.zero_le _) (by decide) dX10_takeSchool_36) hS23 (fun H26 locs26 hr26 hC26 hS26 => ?_)
    have hKp26 := hKp0.tr (hr26.mono rfl)
    refine lv_aload_n hx hb dX10_takeSchool_39 rfl (lv_at hl 1 rfl) ?_
    refine q_getR E hC26 g0 fa_RX10_21 dX10_takeSchool_40 (fun q27 eq27 gq27 => ?_)
    refine q_goIp (q_runV (As := []) (rest := []) E hC26 hS26 (m_X4_isName l X Γ H26 hC26 q27 gq27) cw_X4_isName cl_RX10_157 gq27 ⟨rfl, rfl⟩ rfl hl.1 rfl (Nat.zero_le _) (by decide) dX10_takeSchool_43) hS26 (fun v28 locs28 hr28 hS28 => ?_)
    rcases hr28 with rfl | rfl
    · refine q_if_ne hx hb (a := 0) (by decide) (tgt := 57) dX10_takeSchool_46 rfl (fun c29 => absurd c29 (by omega)) (fun c29 => ?_)
      refine lv_aload_n hx hb dX10_takeSchool_49 rfl (lv_at hl 1 rfl) ?_
      refine q_getR E hC26 g0 fa_RX10_21 dX10_takeSchool_50 (fun q30 eq30 gq30 => ?_)
      refine q_goI (q_runV (As := []) (rest := []) E hC26 hS28 (m_X4_misfit l X Γ H26 hC26 q30 gq30) cw_X4_misfit cl_RX10_161 gq30 ⟨rfl, rfl⟩ rfl hl.1 rfl (Nat.zero_le _) (by decide) dX10_takeSchool_53) hS28 (fun v31 H31 locs31 hr31 hC31 hS31 => ?_)
      obtain ⟨hp31, hr31⟩ := hr31
      have hKp31 := hKp26.tr (hp31.mono rfl)
      rcases hr31 with rfl | rfl
      · exact ret 0 H31 locs31 _ _ dX10_takeSchool_56 (Or.inl rfl) ⟨hKp31, Or.inl rfl⟩ hC31 hS31
      · exact ret 1 H31 locs31 _ _ dX10_takeSchool_56 (Or.inr rfl) ⟨hKp31, Or.inr rfl⟩ hC31 hS31
    · refine q_if_ne hx hb (a := 1) (by decide) (tgt := 57) dX10_takeSchool_46 rfl (fun c32 => ?_) (fun c32 => absurd c32 (by omega))
      refine lv_iload_n hx hb dX10_takeSchool_57 rfl (lv_at hl 0 rfl) ?_
      refine q_if_ne hx hb (a := v21.toInt) rfl (tgt := 75) dX10_takeSchool_58 rfl (fun c33 => ?_) (fun c33 => ?_)
      · refine lv_aload_n hx hb dX10_takeSchool_75 rfl (lv_at hl 1 rfl) ?_
        refine q_getJ E hC26 g0 fa_RX10_168 dX10_takeSchool_76 (fun v34 ev34 => ?_)
        refine lv_aload_n hx hb dX10_takeSchool_79 rfl (lv_at hl 1 rfl) ?_
        refine q_getR E hC26 g0 fa_RX10_21 dX10_takeSchool_80 (fun q35 eq35 gq35 => ?_)
        refine q_getJ E hC26 gq35 fa_RX10_164 dX10_takeSchool_83 (fun v36 ev36 => ?_)
        refine q_lcmp_ne hx hb (a := v34.toInt) (b := v36.toInt) rfl rfl (tgt := 106) dX10_takeSchool_86 dX10_takeSchool_87 rfl (fun c37 => ?_) (fun c37 => ?_)
        · refine lv_aload_n hx hb dX10_takeSchool_106 rfl (lv_at hl 1 rfl) ?_
          refine q_getR E hC26 g0 fa_RX10_21 dX10_takeSchool_107 (fun q38 eq38 gq38 => ?_)
          refine q_goV (q_runV (As := []) (rest := []) E hC26 hS28 (m_X4_advance l X Γ H26 hC26 q38 gq38) cw_X4_advance cl_RX10_154 gq38 ⟨rfl, rfl⟩ rfl hl.1 rfl (Nat.zero_le _) (by decide) dX10_takeSchool_110) hS28 (fun H39 locs39 hr39 hC39 hS39 => ?_)
          have hKp39 := hKp26.tr (hr39.mono rfl)
          refine lv_aload_n hx hb dX10_takeSchool_113 rfl (lv_at hl 1 rfl) ?_
          refine q_getR E hC39 g0 fa_RX10_21 dX10_takeSchool_114 (fun q40 eq40 gq40 => ?_)
          refine q_word E hS39 (i := 3) (by decide) w_661 dX10_takeSchool_117 (fun q41 gq41 => ?_)
          refine q_goI (q_runV (As := [va_rf (some q41)]) (rest := []) E hC39 hS39 (m_X4_take l X Γ H39 hC39 q40 gq40 (some q41) (fun _ h => by cases h; exact gq41)) cw_X4_take cl_RX10_75 gq40 ⟨rfl, rfl⟩ rfl hl.1 rfl (Nat.zero_le _) (by decide) dX10_takeSchool_120) hS39 (fun v42 H42 locs42 hr42 hC42 hS42 => ?_)
          obtain ⟨hp42, hr42⟩ := hr42
          have hKp42 := hKp39.tr (hp42.mono rfl)
          rcases hr42 with rfl | rfl
          · refine q_if_eq hx hb (a := 0) (by decide) (tgt := 139) dX10_takeSchool_123 rfl (fun c43 => ?_) (fun c43 => absurd c43 (by omega))
            refine lv_iconst (v := 0) hx hb dX10_takeSchool_139 rfl ?_
            exact ret 0 H42 locs42 _ _ dX10_takeSchool_140 (Or.inl rfl) ⟨hKp42, Or.inl rfl⟩ hC42 hS42
          · refine q_if_eq hx hb (a := 1) (by decide) (tgt := 139) dX10_takeSchool_123 rfl (fun c44 => absurd c44 (by omega)) (fun c44 => ?_)
            refine lv_aload_n hx hb dX10_takeSchool_126 rfl (lv_at hl 1 rfl) ?_
            refine q_getR E hC42 g0 fa_RX10_21 dX10_takeSchool_127 (fun q45 eq45 gq45 => ?_)
            refine lv_iconst (v := 0) hx hb dX10_takeSchool_130 rfl ?_
            refine lv_bipush (v := 40) hx hb dX10_takeSchool_131 rfl ?_
            refine q_goI (q_runV (As := [.int 0, .int 40]) (rest := []) E hC42 hS42 (m_X4_takeNumber l X Γ H42 hC42 q45 gq45 0 (a1 := 0) (by decide) 40 (a2 := 40) (by decide)) cw_X4_takeNumber cl_RX10_79 gq45 ⟨rfl, rfl⟩ rfl hl.1 rfl (Nat.zero_le _) (by decide) dX10_takeSchool_133) hS42 (fun v46 H46 locs46 hr46 hC46 hS46 => ?_)
            obtain ⟨hp46, hr46⟩ := hr46
            have hKp46 := hKp42.tr (hp46.mono rfl)
            rcases hr46 with rfl | rfl
            · refine q_if_ne hx hb (a := 0) (by decide) (tgt := 141) dX10_takeSchool_136 rfl (fun c47 => absurd c47 (by omega)) (fun c47 => ?_)
              refine lv_iconst (v := 0) hx hb dX10_takeSchool_139 rfl ?_
              exact ret 0 H46 locs46 _ _ dX10_takeSchool_140 (Or.inl rfl) ⟨hKp46, Or.inl rfl⟩ hC46 hS46
            · refine q_if_ne hx hb (a := 1) (by decide) (tgt := 141) dX10_takeSchool_136 rfl (fun c48 => ?_) (fun c48 => absurd c48 (by omega))
              refine lv_aload_n hx hb dX10_takeSchool_141 rfl (lv_at hl 2 rfl) ?_
              refine q_getR E hC46 g1 fa_RX10_174 dX10_takeSchool_142 (fun q49 eq49 gq49 => ?_)
              refine lv_iload_n hx hb dX10_takeSchool_145 rfl (lv_at hl 0 rfl) ?_
              refine lv_aload_n hx hb dX10_takeSchool_146 rfl (lv_at hl 1 rfl) ?_
              refine q_getR E hC46 g0 fa_RX10_21 dX10_takeSchool_147 (fun q50 eq50 gq50 => ?_)
              refine q_getI E hC46 gq50 fa_RX10_83 dX10_takeSchool_150 (fun v51 ev51 _ _ => ?_)
              refine q_iast E hC46 hS46 gq49 (by decide) rfl rfl (i_in (a := v21.toInt) rfl (by omega) (by omega)) tv_F dX10_takeSchool_153 (fun H52 locs52 hC52 hS52 U52 => ?_)
              have hKp52 := Kp.upA gq49 rfl (by decide) rfl U52 hKp46
              refine lv_aload_n hx hb dX10_takeSchool_154 rfl (lv_at hl 2 rfl) ?_
              refine lv_dup hx hb dX10_takeSchool_155 rfl ?_
              refine q_getI E hC52 g1 fa_RX10_144 dX10_takeSchool_156 (fun v53 ev53 _ _ => ?_)
              refine lv_iconst (v := 1) hx hb dX10_takeSchool_159 rfl ?_
              refine lv_iadd hx hb dX10_takeSchool_160 (lv_topi (fun v54 ev54 => ?_))
              refine q_put E hC52 hS52 g1 fp_RX10_144 tv_F rfl rfl dX10_takeSchool_161 (fun H55 locs55 hC55 hS55 U55 => ?_)
              have hKp55 := Kp.upO E g1 fp_RX10_144 rfl U55 hKp52
              have e56 := up_I U55
              refine lv_iconst (v := 1) hx hb dX10_takeSchool_164 rfl ?_
              exact ret 1 H55 locs55 _ _ dX10_takeSchool_165 (Or.inr rfl) ⟨hKp55, Or.inr rfl⟩ hC55 hS55
        · refine lv_aload_n hx hb dX10_takeSchool_90 rfl (lv_at hl 1 rfl) ?_
          refine q_getR E hC26 g0 fa_RX10_21 dX10_takeSchool_91 (fun q57 eq57 gq57 => ?_)
          refine lv_iconst (v := 3) hx hb dX10_takeSchool_94 rfl ?_
          refine lv_aload_n hx hb dX10_takeSchool_95 rfl (lv_at hl 1 rfl) ?_
          refine q_getR E hC26 g0 fa_RX10_21 dX10_takeSchool_96 (fun q58 eq58 gq58 => ?_)
          refine q_getI E hC26 gq58 fa_RX10_151 dX10_takeSchool_99 (fun v59 ev59 _ _ => ?_)
          refine q_goI (q_runV (As := [.int 3, .int v59]) (rest := []) E hC26 hS28 (m_X4_fail l X Γ H26 hC26 q57 gq57 3 (a1 := 3) (by decide) v59 (a2 := v59.toInt) rfl) cw_X4_fail cl_RX10_89 gq57 ⟨rfl, rfl⟩ rfl hl.1 rfl (Nat.zero_le _) (by decide) dX10_takeSchool_102) hS28 (fun v60 H60 locs60 hr60 hC60 hS60 => ?_)
          obtain ⟨hp60, hr60⟩ := hr60
          have hKp60 := hKp26.tr (hp60.mono rfl)
          rcases hr60 with rfl | rfl
          · exact ret 0 H60 locs60 _ _ dX10_takeSchool_105 (Or.inl rfl) ⟨hKp60, Or.inl rfl⟩ hC60 hS60
          · exact ret 1 H60 locs60 _ _ dX10_takeSchool_105 (Or.inr rfl) ⟨hKp60, Or.inr rfl⟩ hC60 hS60
      · refine lv_aload_n hx hb dX10_takeSchool_61 rfl (lv_at hl 1 rfl) ?_
        refine lv_aload_n hx hb dX10_takeSchool_62 rfl (lv_at hl 1 rfl) ?_
        refine q_getR E hC26 g0 fa_RX10_21 dX10_takeSchool_63 (fun q61 eq61 gq61 => ?_)
        refine q_getJ E hC26 gq61 fa_RX10_164 dX10_takeSchool_66 (fun v62 ev62 => ?_)
        refine q_put E hC26 hS28 g0 fp_RX10_168 tv_J rfl rfl dX10_takeSchool_69 (fun H63 locs63 hC63 hS63 U63 => ?_)
        have hKp63 := Kp.upO E g0 fp_RX10_168 rfl U63 hKp26
        refine lv_goto (tgt := 106) hx hb dX10_takeSchool_72 rfl ?_
        refine lv_aload_n hx hb dX10_takeSchool_106 rfl (lv_at hl 1 rfl) ?_
        refine q_getR E hC63 g0 fa_RX10_21 dX10_takeSchool_107 (fun q64 eq64 gq64 => ?_)
        refine q_goV (q_runV (As := []) (rest := []) E hC63 hS63 (m_X4_advance l X Γ H63 hC63 q64 gq64) cw_X4_advance cl_RX10_154 gq64 ⟨rfl, rfl⟩ rfl hl.1 rfl (Nat.zero_le _) (by decide) dX10_takeSchool_110) hS63 (fun H65 locs65 hr65 hC65 hS65 => ?_)
        have hKp65 := hKp63.tr (hr65.mono rfl)
        refine lv_aload_n hx hb dX10_takeSchool_113 rfl (lv_at hl 1 rfl) ?_
        refine q_getR E hC65 g0 fa_RX10_21 dX10_takeSchool_114 (fun q66 eq66 gq66 => ?_)
        refine q_word E hS65 (i := 3) (by decide) w_661 dX10_takeSchool_117 (fun q67 gq67 => ?_)
        refine q_goI (q_runV (As := [va_rf (some q67)]) (rest := []) E hC65 hS65 (m_X4_take l X Γ H65 hC65 q66 gq66 (some q67) (fun _ h => by cases h; exact gq67)) cw_X4_take cl_RX10_75 gq66 ⟨rfl, rfl⟩ rfl hl.1 rfl (Nat.zero_le _) (by decide) dX10_takeSchool_120) hS65 (fun v68 H68 locs68 hr68 hC68 hS68 => ?_)
        obtain ⟨hp68, hr68⟩ := hr68
        have hKp68 := hKp65.tr (hp68.mono rfl)
        rcases hr68 with rfl | rfl
        · refine q_if_eq hx hb (a := 0) (by decide) (tgt := 139) dX10_takeSchool_123 rfl (fun c69 => ?_) (fun c69 => absurd c69 (by omega))
          refine lv_iconst (v := 0) hx hb dX10_takeSchool_139 rfl ?_
          exact ret 0 H68 locs68 _ _ dX10_takeSchool_140 (Or.inl rfl) ⟨hKp68, Or.inl rfl⟩ hC68 hS68
        · refine q_if_eq hx hb (a := 1) (by decide) (tgt := 139) dX10_takeSchool_123 rfl (fun c70 => absurd c70 (by omega)) (fun c70 => ?_)
          refine lv_aload_n hx hb dX10_takeSchool_126 rfl (lv_at hl 1 rfl) ?_
          refine q_getR E hC68 g0 fa_RX10_21 dX10_takeSchool_127 (fun q71 eq71 gq71 => ?_)
          refine lv_iconst (v := 0) hx hb dX10_takeSchool_130 rfl ?_
          refine lv_bipush (v := 40) hx hb dX10_takeSchool_131 rfl ?_
          refine q_goI (q_runV (As := [.int 0, .int 40]) (rest := []) E hC68 hS68 (m_X4_takeNumber l X Γ H68 hC68 q71 gq71 0 (a1 := 0) (by decide) 40 (a2 := 40) (by decide)) cw_X4_takeNumber cl_RX10_79 gq71 ⟨rfl, rfl⟩ rfl hl.1 rfl (Nat.zero_le _) (by decide) dX10_takeSchool_133) hS68 (fun v72 H72 locs72 hr72 hC72 hS72 => ?_)
          obtain ⟨hp72, hr72⟩ := hr72
          have hKp72 := hKp68.tr (hp72.mono rfl)
          rcases hr72 with rfl | rfl
          · refine q_if_ne hx hb (a := 0) (by decide) (tgt := 141) dX10_takeSchool_136 rfl (fun c73 => absurd c73 (by omega)) (fun c73 => ?_)
            refine lv_iconst (v := 0) hx hb dX10_takeSchool_139 rfl ?_
            exact ret 0 H72 locs72 _ _ dX10_takeSchool_140 (Or.inl rfl) ⟨hKp72, Or.inl rfl⟩ hC72 hS72
          · refine q_if_ne hx hb (a := 1) (by decide) (tgt := 141) dX10_takeSchool_136 rfl (fun c74 => ?_) (fun c74 => absurd c74 (by omega))
            refine lv_aload_n hx hb dX10_takeSchool_141 rfl (lv_at hl 2 rfl) ?_
            refine q_getR E hC72 g1 fa_RX10_174 dX10_takeSchool_142 (fun q75 eq75 gq75 => ?_)
            refine lv_iload_n hx hb dX10_takeSchool_145 rfl (lv_at hl 0 rfl) ?_
            refine lv_aload_n hx hb dX10_takeSchool_146 rfl (lv_at hl 1 rfl) ?_
            refine q_getR E hC72 g0 fa_RX10_21 dX10_takeSchool_147 (fun q76 eq76 gq76 => ?_)
            refine q_getI E hC72 gq76 fa_RX10_83 dX10_takeSchool_150 (fun v77 ev77 _ _ => ?_)
            refine q_iast E hC72 hS72 gq75 (by decide) rfl rfl (i_in (a := v21.toInt) rfl (by omega) (by omega)) tv_F dX10_takeSchool_153 (fun H78 locs78 hC78 hS78 U78 => ?_)
            have hKp78 := Kp.upA gq75 rfl (by decide) rfl U78 hKp72
            refine lv_aload_n hx hb dX10_takeSchool_154 rfl (lv_at hl 2 rfl) ?_
            refine lv_dup hx hb dX10_takeSchool_155 rfl ?_
            refine q_getI E hC78 g1 fa_RX10_144 dX10_takeSchool_156 (fun v79 ev79 _ _ => ?_)
            refine lv_iconst (v := 1) hx hb dX10_takeSchool_159 rfl ?_
            refine lv_iadd hx hb dX10_takeSchool_160 (lv_topi (fun v80 ev80 => ?_))
            refine q_put E hC78 hS78 g1 fp_RX10_144 tv_F rfl rfl dX10_takeSchool_161 (fun H81 locs81 hC81 hS81 U81 => ?_)
            have hKp81 := Kp.upO E g1 fp_RX10_144 rfl U81 hKp78
            have e82 := up_I U81
            refine lv_iconst (v := 1) hx hb dX10_takeSchool_164 rfl ?_
            exact ret 1 H81 locs81 _ _ dX10_takeSchool_165 (Or.inr rfl) ⟨hKp81, Or.inr rfl⟩ hC81 hS81
  · refine q_if_ne hx hb (a := 0) (by decide) (tgt := 32) dX10_takeSchool_12 rfl (fun c83 => absurd c83 (by omega)) (fun c83 => ?_)
    refine lv_aload_n hx hb dX10_takeSchool_15 rfl (lv_at hl 1 rfl) ?_
    refine q_getR E hC0 g0 fa_RX10_21 dX10_takeSchool_16 (fun q84 eq84 gq84 => ?_)
    refine lv_bipush (v := 6) hx hb dX10_takeSchool_19 rfl ?_
    refine lv_aload_n hx hb dX10_takeSchool_21 rfl (lv_at hl 1 rfl) ?_
    refine q_getR E hC0 g0 fa_RX10_21 dX10_takeSchool_22 (fun q85 eq85 gq85 => ?_)
    refine q_getI E hC0 gq85 fa_RX10_151 dX10_takeSchool_25 (fun v86 ev86 _ _ => ?_)
    refine q_goI (q_runV (As := [.int 6, .int v86]) (rest := []) E hC0 hS23 (m_X4_fail l X Γ H0 hC0 q84 gq84 6 (a1 := 6) (by decide) v86 (a2 := v86.toInt) rfl) cw_X4_fail cl_RX10_89 gq84 ⟨rfl, rfl⟩ rfl hl.1 rfl (Nat.zero_le _) (by decide) dX10_takeSchool_28) hS23 (fun v87 H87 locs87 hr87 hC87 hS87 => ?_)
    obtain ⟨hp87, hr87⟩ := hr87
    have hKp87 := hKp0.tr (hp87.mono rfl)
    rcases hr87 with rfl | rfl
    · exact ret 0 H87 locs87 _ _ dX10_takeSchool_31 (Or.inl rfl) ⟨hKp87, Or.inl rfl⟩ hC87 hS87
    · exact ret 1 H87 locs87 _ _ dX10_takeSchool_31 (Or.inr rfl) ⟨hKp87, Or.inr rfl⟩ hC87 hS87
set_option maxRecDepth 100000 in
set_option maxHeartbeats 4000000 in
theorem m_X10_takeHeap (l : Launch) (X : xW) (Γ : Nat → Option Nat) (H0 : Heap) (hC0 : Conf X Γ H0) (h0 : Nat) (g0 : Γ h0 = some 3) (h1 : Nat) (g1 : Γ h1 = some 5) (h2 : Nat) (g2 : Γ h2 = some 36) (h3 : Nat) (g3 : Γ h3 = some 42) (o4 : Option Nat) (g4 : ∀ q, o4 = some q → Γ q = some 12) (p5 : Int32) {a5 : Int} (e5 : p5.toInt = a5) : Ctr l X Γ yX10_takeHeap cX10_takeHeap 8 (some .boolean) 3 [.ref h0, .ref h1, .ref h2, .ref h3, va_rf o4, .int p5] H0 (QI X Γ (fun v H1 => Kp X Γ [0, 2, 3, 4, 5, 18, 21, 23, 25, 27] H0 H1 ∧ (v = 0 ∨ v = 1))) := by
  refine q_enterZ (own := "SnowForts$YardText") (by decide) rfl (by cases o4 <;> exact Nat.le_of_ble_eq_true rfl) ?_
  intro p e s m args below meth c ls Qz E hl ret hS0
  have hx := E.1; have hb := E.2.1
  have hKp0 : Kp X Γ [0, 2, 3, 4, 5, 18, 21, 23, 25, 27] H0 H0 := Kp.rf
  have hl : lv_has ls 8 [(0, .ref h0), (1, .ref h1), (2, .ref h2), (3, .ref h3), (4, va_rf o4), (5, .int p5)] := by revert hl; cases o4 <;> exact fun h => h
  refine lv_aload_n hx hb dX10_takeHeap_0 rfl (lv_at hl 0 rfl) ?_
  refine q_getR E hC0 g0 fa_RX10_21 dX10_takeHeap_1 (fun q21 eq21 gq21 => ?_)
  refine q_goV (q_runV (As := []) (rest := []) E hC0 hS0 (m_X4_advance l X Γ H0 hC0 q21 gq21) cw_X4_advance cl_RX10_154 gq21 ⟨rfl, rfl⟩ rfl hl.1 rfl (Nat.zero_le _) (by decide) dX10_takeHeap_4) hS0 (fun H22 locs22 hr22 hC22 hS22 => ?_)
  have hKp22 := hKp0.tr (hr22.mono rfl)
  refine lv_aload_n hx hb dX10_takeHeap_7 rfl (lv_at hl 0 rfl) ?_
  refine q_getR E hC22 g0 fa_RX10_21 dX10_takeHeap_8 (fun q23 eq23 gq23 => ?_)
  refine lv_iconst (v := 0) hx hb dX10_takeHeap_11 rfl ?_
  refine lv_aload_n hx hb dX10_takeHeap_12 rfl (lv_at hl 1 rfl) ?_
  refine q_getI E hC22 g1 fa_RX10_92 dX10_takeHeap_13 (fun v24 ev24 _ _ => ?_)
  refine lv_iconst (v := 1) hx hb dX10_takeHeap_16 rfl ?_
  refine lv_isub hx hb dX10_takeHeap_17 (lv_topi (fun v25 ev25 => ?_))
  refine q_goI (q_runV (As := [.int 0, .int v25]) (rest := []) E hC22 hS22 (m_X4_takeNumber l X Γ H22 hC22 q23 gq23 0 (a1 := 0) (by decide) v25 (a2 := v25.toInt) rfl) cw_X4_takeNumber cl_RX10_79 gq23 ⟨rfl, rfl⟩ rfl hl.1 rfl (Nat.zero_le _) (by decide) dX10_takeHeap_18) hS22 (fun v26 H26 locs26 hr26 hC26 hS26 => ?_)
  obtain ⟨hp26, hr26⟩ := hr26
  have hKp26 := hKp22.tr (hp26.mono rfl)
  rcases hr26 with rfl | rfl
  · refine q_if_ne hx hb (a := 0) (by decide) (tgt := 26) dX10_takeHeap_21 rfl (fun c27 => absurd c27 (by omega)) (fun c27 => ?_)
    refine lv_iconst (v := 0) hx hb dX10_takeHeap_24 rfl ?_
    exact ret 0 H26 locs26 _ _ dX10_takeHeap_25 (Or.inl rfl) ⟨hKp26, Or.inl rfl⟩ hC26 hS26
  · refine q_if_ne hx hb (a := 1) (by decide) (tgt := 26) dX10_takeHeap_21 rfl (fun c28 => ?_) (fun c28 => absurd c28 (by omega))
    refine lv_aload_n hx hb dX10_takeHeap_26 rfl (lv_at hl 0 rfl) ?_
    refine q_getR E hC26 g0 fa_RX10_21 dX10_takeHeap_27 (fun q29 eq29 gq29 => ?_)
    refine q_getI E hC26 gq29 fa_RX10_83 dX10_takeHeap_30 (fun v30 ev30 _ _ => ?_)
    refine lv_istore hx hb dX10_takeHeap_33 hl (by decide) rfl (fun ls hl => ?_)
    replace hl : lv_has ls 8 [(6, .int v30), (0, .ref h0), (1, .ref h1), (2, .ref h2), (3, .ref h3), (4, va_rf o4), (5, .int p5)] := hl
    refine lv_aload_n hx hb dX10_takeHeap_35 rfl (lv_at hl 1 rfl) ?_
    refine q_getR E hC26 g0 fa_RX10_21 dX10_takeHeap_36 (fun q31 eq31 gq31 => ?_)
    refine lv_iconst (v := 0) hx hb dX10_takeHeap_39 rfl ?_
    refine lv_aload_n hx hb dX10_takeHeap_40 rfl (lv_at hl 2 rfl) ?_
    refine q_getI E hC26 g1 fa_RX10_98 dX10_takeHeap_41 (fun v32 ev32 _ _ => ?_)
    refine lv_iconst (v := 1) hx hb dX10_takeHeap_44 rfl ?_
    refine lv_isub hx hb dX10_takeHeap_45 (lv_topi (fun v33 ev33 => ?_))
    refine q_goI (q_runV (As := [.int 0, .int v33]) (rest := []) E hC26 hS26 (m_X4_takeNumber l X Γ H26 hC26 q31 gq31 0 (a1 := 0) (by decide) v33 (a2 := v33.toInt) rfl) cw_X4_takeNumber cl_RX10_79 gq31 ⟨rfl, rfl⟩ rfl hl.1 rfl (Nat.zero_le _) (by decide) dX10_takeHeap_46) hS26 (fun v34 H34 locs34 hr34 hC34 hS34 => ?_)
    obtain ⟨hp34, hr34⟩ := hr34
    have hKp34 := hKp26.tr (hp34.mono rfl)
    rcases hr34 with rfl | rfl
    · refine q_if_ne hx hb (a := 0) (by decide) (tgt := 54) dX10_takeHeap_49 rfl (fun c35 => absurd c35 (by omega)) (fun c35 => ?_)
      refine lv_iconst (v := 0) hx hb dX10_takeHeap_52 rfl ?_
      exact ret 0 H34 locs34 _ _ dX10_takeHeap_53 (Or.inl rfl) ⟨hKp34, Or.inl rfl⟩ hC34 hS34
    · refine q_if_ne hx hb (a := 1) (by decide) (tgt := 54) dX10_takeHeap_49 rfl (fun c36 => ?_) (fun c36 => absurd c36 (by omega))
      refine lv_aload_n hx hb dX10_takeHeap_54 rfl (lv_at hl 1 rfl) ?_
      refine q_getR E hC34 g0 fa_RX10_21 dX10_takeHeap_55 (fun q37 eq37 gq37 => ?_)
      refine q_getI E hC34 gq37 fa_RX10_83 dX10_takeHeap_58 (fun v38 ev38 _ _ => ?_)
      refine lv_bipush (v := 6) hx hb dX10_takeHeap_61 rfl ?_
      refine lv_imul hx hb dX10_takeHeap_63 (lv_topi (fun v39 ev39 => ?_))
      refine lv_iload hx hb dX10_takeHeap_64 (lv_at hl 0 rfl) ?_
      refine lv_iadd hx hb dX10_takeHeap_66 (lv_topi (fun v40 ev40 => ?_))
      refine lv_istore hx hb dX10_takeHeap_67 hl (by decide) rfl (fun ls hl => ?_)
      replace hl : lv_has ls 8 [(7, .int v40), (6, .int v30), (0, .ref h0), (1, .ref h1), (2, .ref h2), (3, .ref h3), (4, va_rf o4), (5, .int p5)] := hl
      refine lv_iload hx hb dX10_takeHeap_69 (lv_at hl 0 rfl) ?_
      refine lv_i2l (v := v40.toInt64) hx hb dX10_takeHeap_71 rfl (lv_topl (fun v41 ev41 => ?_))
      have ev41i : v41.toInt = v40.toInt := l_ofi ev41.symm rfl
      refine lv_iconst (v := 0) hx hb dX10_takeHeap_72 rfl ?_
      refine lv_bipush (v := 35) hx hb dX10_takeHeap_73 rfl ?_
      refine q_goIp (q_runSN (As := [.long v41, .int 0, .int 35]) (rest := []) E hS34 (m_X11_isWithin l X Γ H34 hC34 v41 (a0 := v40.toInt) ev41i 0 (a1 := 0) (by decide) 35 (a2 := 35) (by decide)) cw_X11_isWithin cl_RX10_147 rfl hl.1 rfl (Nat.zero_le _) (by decide) dX10_takeHeap_75) hS34 (fun v42 locs42 hr42 hS42 => ?_)
      rcases hr42 with ⟨rfl, f42a0, f42a1⟩ | ⟨rfl, f42b⟩
      · refine q_if_eq hx hb (a := 1) (by decide) (tgt := 88) dX10_takeHeap_78 rfl (fun c43 => absurd c43 (by omega)) (fun c43 => ?_)
        refine lv_aload_n hx hb dX10_takeHeap_81 rfl (lv_at hl 5 rfl) ?_
        refine lv_iload hx hb dX10_takeHeap_82 (lv_at hl 0 rfl) ?_
        refine q_iald E hC34 g3 rfl rfl (fun _ h => h) (i_in (a := v40.toInt) rfl (by omega) (by omega)) dX10_takeHeap_84 (fun v44 ev44 _ _ => ?_)
        refine q_if_eq hx hb (a := v44.toInt) rfl (tgt := 104) dX10_takeHeap_85 rfl (fun c45 => ?_) (fun c45 => ?_)
        · refine lv_aload_n hx hb dX10_takeHeap_104 rfl (lv_at hl 2 rfl) ?_
          refine q_getR E hC34 g0 fa_RX10_21 dX10_takeHeap_105 (fun q46 eq46 gq46 => ?_)
          refine q_alq (o := o4) hx hb dX10_takeHeap_108 (lv_at hl 6 rfl) ?_
          refine q_goI (q_runV (As := [va_rf o4]) (rest := []) E hC34 hS42 (m_X4_take l X Γ H34 hC34 q46 gq46 o4 g4) cw_X4_take cl_RX10_75 gq46 ⟨rfl, rfl⟩ rfl hl.1 rfl (Nat.zero_le _) (by decide) dX10_takeHeap_110) hS42 (fun v47 H47 locs47 hr47 hC47 hS47 => ?_)
          obtain ⟨hp47, hr47⟩ := hr47
          have hKp47 := hKp34.tr (hp47.mono rfl)
          rcases hr47 with rfl | rfl
          · refine q_if_eq hx hb (a := 0) (by decide) (tgt := 129) dX10_takeHeap_113 rfl (fun c48 => ?_) (fun c48 => absurd c48 (by omega))
            refine lv_iconst (v := 0) hx hb dX10_takeHeap_129 rfl ?_
            exact ret 0 H47 locs47 _ _ dX10_takeHeap_130 (Or.inl rfl) ⟨hKp47, Or.inl rfl⟩ hC47 hS47
          · refine q_if_eq hx hb (a := 1) (by decide) (tgt := 129) dX10_takeHeap_113 rfl (fun c49 => absurd c49 (by omega)) (fun c49 => ?_)
            refine lv_aload_n hx hb dX10_takeHeap_116 rfl (lv_at hl 2 rfl) ?_
            refine q_getR E hC47 g0 fa_RX10_21 dX10_takeHeap_117 (fun q50 eq50 gq50 => ?_)
            refine lv_iconst (v := 0) hx hb dX10_takeHeap_120 rfl ?_
            refine lv_iload hx hb dX10_takeHeap_121 (lv_at hl 7 rfl) ?_
            refine q_goI (q_runV (As := [.int 0, .int p5]) (rest := []) E hC47 hS47 (m_X4_takeNumber l X Γ H47 hC47 q50 gq50 0 (a1 := 0) (by decide) p5 (a2 := a5) e5) cw_X4_takeNumber cl_RX10_79 gq50 ⟨rfl, rfl⟩ rfl hl.1 rfl (Nat.zero_le _) (by decide) dX10_takeHeap_123) hS47 (fun v51 H51 locs51 hr51 hC51 hS51 => ?_)
            obtain ⟨hp51, hr51⟩ := hr51
            have hKp51 := hKp47.tr (hp51.mono rfl)
            rcases hr51 with rfl | rfl
            · refine q_if_ne hx hb (a := 0) (by decide) (tgt := 131) dX10_takeHeap_126 rfl (fun c52 => absurd c52 (by omega)) (fun c52 => ?_)
              refine lv_iconst (v := 0) hx hb dX10_takeHeap_129 rfl ?_
              exact ret 0 H51 locs51 _ _ dX10_takeHeap_130 (Or.inl rfl) ⟨hKp51, Or.inl rfl⟩ hC51 hS51
            · refine q_if_ne hx hb (a := 1) (by decide) (tgt := 131) dX10_takeHeap_126 rfl (fun c53 => ?_) (fun c53 => absurd c53 (by omega))
              refine lv_aload_n hx hb dX10_takeHeap_131 rfl (lv_at hl 5 rfl) ?_
              refine lv_iload hx hb dX10_takeHeap_132 (lv_at hl 0 rfl) ?_
              refine lv_iconst (v := 1) hx hb dX10_takeHeap_134 rfl ?_
              refine q_iast E hC51 hS51 g3 (by decide) rfl rfl (i_in (a := v40.toInt) rfl (by omega) (by omega)) tv_F dX10_takeHeap_135 (fun H54 locs54 hC54 hS54 U54 => ?_)
              have hKp54 := Kp.upA g3 rfl (by decide) rfl U54 hKp51
              refine lv_aload_n hx hb dX10_takeHeap_136 rfl (lv_at hl 4 rfl) ?_
              refine lv_iload hx hb dX10_takeHeap_137 (lv_at hl 0 rfl) ?_
              refine lv_aload_n hx hb dX10_takeHeap_139 rfl (lv_at hl 2 rfl) ?_
              refine q_getR E hC54 g0 fa_RX10_21 dX10_takeHeap_140 (fun q55 eq55 gq55 => ?_)
              refine q_getI E hC54 gq55 fa_RX10_83 dX10_takeHeap_143 (fun v56 ev56 _ _ => ?_)
              refine q_iast E hC54 hS54 g2 (by decide) rfl rfl (i_in (a := v40.toInt) rfl (by omega) (by omega)) tv_F dX10_takeHeap_146 (fun H57 locs57 hC57 hS57 U57 => ?_)
              have hKp57 := Kp.upA g2 rfl (by decide) rfl U57 hKp54
              refine lv_iconst (v := 1) hx hb dX10_takeHeap_147 rfl ?_
              exact ret 1 H57 locs57 _ _ dX10_takeHeap_148 (Or.inr rfl) ⟨hKp57, Or.inr rfl⟩ hC57 hS57
        · refine lv_aload_n hx hb dX10_takeHeap_88 rfl (lv_at hl 2 rfl) ?_
          refine q_getR E hC34 g0 fa_RX10_21 dX10_takeHeap_89 (fun q58 eq58 gq58 => ?_)
          refine lv_iconst (v := 5) hx hb dX10_takeHeap_92 rfl ?_
          refine lv_aload_n hx hb dX10_takeHeap_93 rfl (lv_at hl 2 rfl) ?_
          refine q_getR E hC34 g0 fa_RX10_21 dX10_takeHeap_94 (fun q59 eq59 gq59 => ?_)
          refine q_getI E hC34 gq59 fa_RX10_86 dX10_takeHeap_97 (fun v60 ev60 _ _ => ?_)
          refine q_goI (q_runV (As := [.int 5, .int v60]) (rest := []) E hC34 hS42 (m_X4_fail l X Γ H34 hC34 q58 gq58 5 (a1 := 5) (by decide) v60 (a2 := v60.toInt) rfl) cw_X4_fail cl_RX10_89 gq58 ⟨rfl, rfl⟩ rfl hl.1 rfl (Nat.zero_le _) (by decide) dX10_takeHeap_100) hS42 (fun v61 H61 locs61 hr61 hC61 hS61 => ?_)
          obtain ⟨hp61, hr61⟩ := hr61
          have hKp61 := hKp34.tr (hp61.mono rfl)
          rcases hr61 with rfl | rfl
          · exact ret 0 H61 locs61 _ _ dX10_takeHeap_103 (Or.inl rfl) ⟨hKp61, Or.inl rfl⟩ hC61 hS61
          · exact ret 1 H61 locs61 _ _ dX10_takeHeap_103 (Or.inr rfl) ⟨hKp61, Or.inr rfl⟩ hC61 hS61
      · refine q_if_eq hx hb (a := 0) (by decide) (tgt := 88) dX10_takeHeap_78 rfl (fun c62 => ?_) (fun c62 => absurd c62 (by omega))
        refine lv_aload_n hx hb dX10_takeHeap_88 rfl (lv_at hl 2 rfl) ?_
        refine q_getR E hC34 g0 fa_RX10_21 dX10_takeHeap_89 (fun q63 eq63 gq63 => ?_)
        refine lv_iconst (v := 5) hx hb dX10_takeHeap_92 rfl ?_
        refine lv_aload_n hx hb dX10_takeHeap_93 rfl (lv_at hl 2 rfl) ?_
        refine q_getR E hC34 g0 fa_RX10_21 dX10_takeHeap_94 (fun q64 eq64 gq64 => ?_)
        refine q_getI E hC34 gq64 fa_RX10_86 dX10_takeHeap_97 (fun v65 ev65 _ _ => ?_)
        refine q_goI (q_runV (As := [.int 5, .int v65]) (rest := []) E hC34 hS42 (m_X4_fail l X Γ H34 hC34 q63 gq63 5 (a1 := 5) (by decide) v65 (a2 := v65.toInt) rfl) cw_X4_fail cl_RX10_89 gq63 ⟨rfl, rfl⟩ rfl hl.1 rfl (Nat.zero_le _) (by decide) dX10_takeHeap_100) hS42 (fun v66 H66 locs66 hr66 hC66 hS66 => ?_)
        obtain ⟨hp66, hr66⟩ := hr66
        have hKp66 := hKp34.tr (hp66.mono rfl)
        rcases hr66 with rfl | rfl
        · exact ret 0 H66 locs66 _ _ dX10_takeHeap_103 (Or.inl rfl) ⟨hKp66, Or.inl rfl⟩ hC66 hS66
        · exact ret 1 H66 locs66 _ _ dX10_takeHeap_103 (Or.inr rfl) ⟨hKp66, Or.inr rfl⟩ hC66 hS66
set_option maxRecDepth 100000 in
set_option maxHeartbeats 4000000 in
theorem m_X10_isNew (l : Launch) (X : xW) (Γ : Nat → Option Nat) (H0 : Heap) (hC0 : Conf X Γ H0) (h0 : Nat) (g0 : Γ h0 = some 3) (h1 : Nat) (g1 : Γ h1 = some 5) (p2 : Int32) {a2 : Int} (e2 : p2.toInt = a2) : Ctr l X Γ yX10_isNew cX10_isNew 4 (some .boolean) 1 [.ref h0, .ref h1, .int p2] H0 (QI X Γ (fun v H1 => Kp X Γ [0, 2, 3, 4, 5, 18, 21, 23, 25, 27] H0 H1 ∧ (v = 0 ∨ v = 1))) := by
  refine q_enterZ (own := "SnowForts$YardText") (by decide) rfl (Nat.le_of_ble_eq_true rfl) ?_
  intro p e s m args below meth c ls Qz E hl ret hS0
  have hx := E.1; have hb := E.2.1
  have hKp0 : Kp X Γ [0, 2, 3, 4, 5, 18, 21, 23, 25, 27] H0 H0 := Kp.rf
  have hl : lv_has ls 4 [(0, .ref h0), (1, .ref h1), (2, .int p2)] := hl
  refine lv_iload_n hx hb dX10_isNew_0 rfl (lv_at hl 2 rfl) ?_
  refine lv_i2l (v := p2.toInt64) hx hb dX10_isNew_1 rfl (lv_topl (fun v21 ev21 => ?_))
  have ev21i : v21.toInt = a2 := l_ofi ev21.symm e2
  refine lv_iconst (v := 0) hx hb dX10_isNew_2 rfl ?_
  refine lv_iconst (v := 3) hx hb dX10_isNew_3 rfl ?_
  refine q_goIp (q_runSN (As := [.long v21, .int 0, .int 3]) (rest := []) E hS0 (m_X11_isWithin l X Γ H0 hC0 v21 (a0 := a2) ev21i 0 (a1 := 0) (by decide) 3 (a2 := 3) (by decide)) cw_X11_isWithin cl_RX10_147 rfl hl.1 rfl (Nat.zero_le _) (by decide) dX10_isNew_4) hS0 (fun v22 locs22 hr22 hS22 => ?_)
  rcases hr22 with ⟨rfl, f22a0, f22a1⟩ | ⟨rfl, f22b⟩
  · refine q_if_eq hx hb (a := 1) (by decide) (tgt := 20) dX10_isNew_7 rfl (fun c23 => absurd c23 (by omega)) (fun c23 => ?_)
    refine lv_aload_n hx hb dX10_isNew_10 rfl (lv_at hl 1 rfl) ?_
    refine q_getR E hC0 g1 fa_RX10_200 dX10_isNew_11 (fun q24 eq24 gq24 => ?_)
    refine lv_iload_n hx hb dX10_isNew_14 rfl (lv_at hl 2 rfl) ?_
    refine q_iald E hC0 gq24 rfl rfl (fun _ h => h) (i_in (a := a2) e2 (by omega) (by omega)) dX10_isNew_15 (fun v25 ev25 _ _ => ?_)
    refine lv_iconst (v := (-1)) hx hb dX10_isNew_16 rfl ?_
    refine q_icmp_eq hx hb (a := v25.toInt) (b := (-1)) rfl (by decide) (tgt := 24) dX10_isNew_17 rfl (fun c26 => ?_) (fun c26 => ?_)
    · refine lv_iconst (v := 0) hx hb dX10_isNew_24 rfl ?_
      refine lv_istore_n hx hb dX10_isNew_25 rfl hl (by decide) rfl (fun ls hl => ?_)
      replace hl : lv_has ls 4 [(3, .int 0), (0, .ref h0), (1, .ref h1), (2, .int p2)] := hl
      refine lv_iload_n hx hb dX10_isNew_26 rfl (lv_at hl 0 rfl) ?_
      refine q_if_eq hx hb (a := 0) (by decide) (tgt := 48) dX10_isNew_27 rfl (fun c27 => ?_) (fun c27 => absurd c27 (by omega))
      refine lv_iconst (v := 1) hx hb dX10_isNew_48 rfl ?_
      refine lv_goto (tgt := 53) hx hb dX10_isNew_49 rfl ?_
      exact ret 1 H0 locs22 _ _ dX10_isNew_53 (Or.inr rfl) ⟨hKp0, Or.inr rfl⟩ hC0 hS22
    · refine lv_iconst (v := 1) hx hb dX10_isNew_20 rfl ?_
      refine lv_goto (tgt := 25) hx hb dX10_isNew_21 rfl ?_
      refine lv_istore_n hx hb dX10_isNew_25 rfl hl (by decide) rfl (fun ls hl => ?_)
      replace hl : lv_has ls 4 [(3, .int 1), (0, .ref h0), (1, .ref h1), (2, .int p2)] := hl
      refine lv_iload_n hx hb dX10_isNew_26 rfl (lv_at hl 0 rfl) ?_
      refine q_if_eq hx hb (a := 1) (by decide) (tgt := 48) dX10_isNew_27 rfl (fun c28 => absurd c28 (by omega)) (fun c28 => ?_)
      refine lv_aload_n hx hb dX10_isNew_30 rfl (lv_at hl 1 rfl) ?_
      refine q_getR E hC0 g0 fa_RX10_21 dX10_isNew_31 (fun q29 eq29 gq29 => ?_)
      refine lv_iconst (v := 5) hx hb dX10_isNew_34 rfl ?_
      refine lv_aload_n hx hb dX10_isNew_35 rfl (lv_at hl 1 rfl) ?_
      refine q_getR E hC0 g0 fa_RX10_21 dX10_isNew_36 (fun q30 eq30 gq30 => ?_)
      refine q_getI E hC0 gq30 fa_RX10_151 dX10_isNew_39 (fun v31 ev31 _ _ => ?_)
      refine q_goI (q_runV (As := [.int 5, .int v31]) (rest := []) E hC0 hS22 (m_X4_fail l X Γ H0 hC0 q29 gq29 5 (a1 := 5) (by decide) v31 (a2 := v31.toInt) rfl) cw_X4_fail cl_RX10_89 gq29 ⟨rfl, rfl⟩ rfl hl.1 rfl (Nat.zero_le _) (by decide) dX10_isNew_42) hS22 (fun v32 H32 locs32 hr32 hC32 hS32 => ?_)
      obtain ⟨hp32, hr32⟩ := hr32
      have hKp32 := hKp0.tr (hp32.mono rfl)
      rcases hr32 with rfl | rfl
      · refine q_if_eq hx hb (a := 0) (by decide) (tgt := 52) dX10_isNew_45 rfl (fun c33 => ?_) (fun c33 => absurd c33 (by omega))
        refine lv_iconst (v := 0) hx hb dX10_isNew_52 rfl ?_
        exact ret 0 H32 locs32 _ _ dX10_isNew_53 (Or.inl rfl) ⟨hKp32, Or.inl rfl⟩ hC32 hS32
      · refine q_if_eq hx hb (a := 1) (by decide) (tgt := 52) dX10_isNew_45 rfl (fun c34 => absurd c34 (by omega)) (fun c34 => ?_)
        refine lv_iconst (v := 1) hx hb dX10_isNew_48 rfl ?_
        refine lv_goto (tgt := 53) hx hb dX10_isNew_49 rfl ?_
        exact ret 1 H32 locs32 _ _ dX10_isNew_53 (Or.inr rfl) ⟨hKp32, Or.inr rfl⟩ hC32 hS32
  · refine q_if_eq hx hb (a := 0) (by decide) (tgt := 20) dX10_isNew_7 rfl (fun c35 => ?_) (fun c35 => absurd c35 (by omega))
    refine lv_iconst (v := 1) hx hb dX10_isNew_20 rfl ?_
    refine lv_goto (tgt := 25) hx hb dX10_isNew_21 rfl ?_
    refine lv_istore_n hx hb dX10_isNew_25 rfl hl (by decide) rfl (fun ls hl => ?_)
    replace hl : lv_has ls 4 [(3, .int 1), (0, .ref h0), (1, .ref h1), (2, .int p2)] := hl
    refine lv_iload_n hx hb dX10_isNew_26 rfl (lv_at hl 0 rfl) ?_
    refine q_if_eq hx hb (a := 1) (by decide) (tgt := 48) dX10_isNew_27 rfl (fun c36 => absurd c36 (by omega)) (fun c36 => ?_)
    refine lv_aload_n hx hb dX10_isNew_30 rfl (lv_at hl 1 rfl) ?_
    refine q_getR E hC0 g0 fa_RX10_21 dX10_isNew_31 (fun q37 eq37 gq37 => ?_)
    refine lv_iconst (v := 5) hx hb dX10_isNew_34 rfl ?_
    refine lv_aload_n hx hb dX10_isNew_35 rfl (lv_at hl 1 rfl) ?_
    refine q_getR E hC0 g0 fa_RX10_21 dX10_isNew_36 (fun q38 eq38 gq38 => ?_)
    refine q_getI E hC0 gq38 fa_RX10_151 dX10_isNew_39 (fun v39 ev39 _ _ => ?_)
    refine q_goI (q_runV (As := [.int 5, .int v39]) (rest := []) E hC0 hS22 (m_X4_fail l X Γ H0 hC0 q37 gq37 5 (a1 := 5) (by decide) v39 (a2 := v39.toInt) rfl) cw_X4_fail cl_RX10_89 gq37 ⟨rfl, rfl⟩ rfl hl.1 rfl (Nat.zero_le _) (by decide) dX10_isNew_42) hS22 (fun v40 H40 locs40 hr40 hC40 hS40 => ?_)
    obtain ⟨hp40, hr40⟩ := hr40
    have hKp40 := hKp0.tr (hp40.mono rfl)
    rcases hr40 with rfl | rfl
    · refine q_if_eq hx hb (a := 0) (by decide) (tgt := 52) dX10_isNew_45 rfl (fun c41 => ?_) (fun c41 => absurd c41 (by omega))
      refine lv_iconst (v := 0) hx hb dX10_isNew_52 rfl ?_
      exact ret 0 H40 locs40 _ _ dX10_isNew_53 (Or.inl rfl) ⟨hKp40, Or.inl rfl⟩ hC40 hS40
    · refine q_if_eq hx hb (a := 1) (by decide) (tgt := 52) dX10_isNew_45 rfl (fun c42 => absurd c42 (by omega)) (fun c42 => ?_)
      refine lv_iconst (v := 1) hx hb dX10_isNew_48 rfl ?_
      refine lv_goto (tgt := 53) hx hb dX10_isNew_49 rfl ?_
      exact ret 1 H40 locs40 _ _ dX10_isNew_53 (Or.inr rfl) ⟨hKp40, Or.inr rfl⟩ hC40 hS40
set_option maxRecDepth 100000 in
set_option maxHeartbeats 4000000 in
theorem m_X10_takeLimit (l : Launch) (X : xW) (Γ : Nat → Option Nat) (H0 : Heap) (hC0 : Conf X Γ H0) (h0 : Nat) (g0 : Γ h0 = some 3) (h1 : Nat) (g1 : Γ h1 = some 5) (p2 : Int32) {a2 : Int} (e2 : p2.toInt = a2) (o3 : Option Nat) (g3 : ∀ q, o3 = some q → Γ q = some 12) (p4 : Int32) {a4 : Int} (e4 : p4.toInt = a4) : Ctr l X Γ yX10_takeLimit cX10_takeLimit 5 (some .boolean) 3 [.ref h0, .ref h1, .int p2, va_rf o3, .int p4] H0 (QI X Γ (fun v H1 => Kp X Γ [0, 2, 3, 4, 5, 18, 21, 23, 25, 27] H0 H1 ∧ (v = 0 ∨ v = 1))) := by
  refine q_enterZ (own := "SnowForts$YardText") (by decide) rfl (by cases o3 <;> exact Nat.le_of_ble_eq_true rfl) ?_
  intro p e s m args below meth c ls Qz E hl ret hS0
  have hx := E.1; have hb := E.2.1
  have hKp0 : Kp X Γ [0, 2, 3, 4, 5, 18, 21, 23, 25, 27] H0 H0 := Kp.rf
  have hl : lv_has ls 5 [(0, .ref h0), (1, .ref h1), (2, .int p2), (3, va_rf o3), (4, .int p4)] := by revert hl; cases o3 <;> exact fun h => h
  refine lv_aload_n hx hb dX10_takeLimit_0 rfl (lv_at hl 0 rfl) ?_
  refine q_getR E hC0 g0 fa_RX10_21 dX10_takeLimit_1 (fun q21 eq21 gq21 => ?_)
  refine q_goV (q_runV (As := []) (rest := []) E hC0 hS0 (m_X4_advance l X Γ H0 hC0 q21 gq21) cw_X4_advance cl_RX10_154 gq21 ⟨rfl, rfl⟩ rfl hl.1 rfl (Nat.zero_le _) (by decide) dX10_takeLimit_4) hS0 (fun H22 locs22 hr22 hC22 hS22 => ?_)
  have hKp22 := hKp0.tr (hr22.mono rfl)
  refine lv_aload_n hx hb dX10_takeLimit_7 rfl (lv_at hl 0 rfl) ?_
  refine q_getR E hC22 g0 fa_RX10_21 dX10_takeLimit_8 (fun q23 eq23 gq23 => ?_)
  refine q_alq_n (o := o3) hx hb dX10_takeLimit_11 rfl (lv_at hl 3 rfl) ?_
  refine q_goI (q_runV (As := [va_rf o3]) (rest := []) E hC22 hS22 (m_X4_take l X Γ H22 hC22 q23 gq23 o3 g3) cw_X4_take cl_RX10_75 gq23 ⟨rfl, rfl⟩ rfl hl.1 rfl (Nat.zero_le _) (by decide) dX10_takeLimit_12) hS22 (fun v24 H24 locs24 hr24 hC24 hS24 => ?_)
  obtain ⟨hp24, hr24⟩ := hr24
  have hKp24 := hKp22.tr (hp24.mono rfl)
  rcases hr24 with rfl | rfl
  · refine q_if_eq hx hb (a := 0) (by decide) (tgt := 41) dX10_takeLimit_15 rfl (fun c25 => ?_) (fun c25 => absurd c25 (by omega))
    refine lv_iconst (v := 0) hx hb dX10_takeLimit_41 rfl ?_
    exact ret 0 H24 locs24 _ _ dX10_takeLimit_42 (Or.inl rfl) ⟨hKp24, Or.inl rfl⟩ hC24 hS24
  · refine q_if_eq hx hb (a := 1) (by decide) (tgt := 41) dX10_takeLimit_15 rfl (fun c26 => absurd c26 (by omega)) (fun c26 => ?_)
    refine lv_aload_n hx hb dX10_takeLimit_18 rfl (lv_at hl 0 rfl) ?_
    refine q_getR E hC24 g0 fa_RX10_21 dX10_takeLimit_19 (fun q27 eq27 gq27 => ?_)
    refine lv_iconst (v := 0) hx hb dX10_takeLimit_22 rfl ?_
    refine lv_iload hx hb dX10_takeLimit_23 (lv_at hl 4 rfl) ?_
    refine q_goI (q_runV (As := [.int 0, .int p4]) (rest := []) E hC24 hS24 (m_X4_takeNumber l X Γ H24 hC24 q27 gq27 0 (a1 := 0) (by decide) p4 (a2 := a4) e4) cw_X4_takeNumber cl_RX10_79 gq27 ⟨rfl, rfl⟩ rfl hl.1 rfl (Nat.zero_le _) (by decide) dX10_takeLimit_25) hS24 (fun v28 H28 locs28 hr28 hC28 hS28 => ?_)
    obtain ⟨hp28, hr28⟩ := hr28
    have hKp28 := hKp24.tr (hp28.mono rfl)
    rcases hr28 with rfl | rfl
    · refine q_if_eq hx hb (a := 0) (by decide) (tgt := 41) dX10_takeLimit_28 rfl (fun c29 => ?_) (fun c29 => absurd c29 (by omega))
      refine lv_iconst (v := 0) hx hb dX10_takeLimit_41 rfl ?_
      exact ret 0 H28 locs28 _ _ dX10_takeLimit_42 (Or.inl rfl) ⟨hKp28, Or.inl rfl⟩ hC28 hS28
    · refine q_if_eq hx hb (a := 1) (by decide) (tgt := 41) dX10_takeLimit_28 rfl (fun c30 => absurd c30 (by omega)) (fun c30 => ?_)
      refine lv_iload_n hx hb dX10_takeLimit_31 rfl (lv_at hl 2 rfl) ?_
      refine lv_i2l (v := p2.toInt64) hx hb dX10_takeLimit_32 rfl (lv_topl (fun v31 ev31 => ?_))
      have ev31i : v31.toInt = a2 := l_ofi ev31.symm e2
      refine lv_iconst (v := 0) hx hb dX10_takeLimit_33 rfl ?_
      refine lv_iconst (v := 3) hx hb dX10_takeLimit_34 rfl ?_
      refine q_goIp (q_runSN (As := [.long v31, .int 0, .int 3]) (rest := []) E hS28 (m_X11_isWithin l X Γ H28 hC28 v31 (a0 := a2) ev31i 0 (a1 := 0) (by decide) 3 (a2 := 3) (by decide)) cw_X11_isWithin cl_RX10_147 rfl hl.1 rfl (Nat.zero_le _) (by decide) dX10_takeLimit_35) hS28 (fun v32 locs32 hr32 hS32 => ?_)
      rcases hr32 with ⟨rfl, f32a0, f32a1⟩ | ⟨rfl, f32b⟩
      · refine q_if_ne hx hb (a := 1) (by decide) (tgt := 43) dX10_takeLimit_38 rfl (fun c33 => ?_) (fun c33 => absurd c33 (by omega))
        refine lv_aload_n hx hb dX10_takeLimit_43 rfl (lv_at hl 1 rfl) ?_
        refine q_getR E hC28 g1 fa_RX10_200 dX10_takeLimit_44 (fun q34 eq34 gq34 => ?_)
        refine lv_iload_n hx hb dX10_takeLimit_47 rfl (lv_at hl 2 rfl) ?_
        refine lv_aload_n hx hb dX10_takeLimit_48 rfl (lv_at hl 0 rfl) ?_
        refine q_getR E hC28 g0 fa_RX10_21 dX10_takeLimit_49 (fun q35 eq35 gq35 => ?_)
        refine q_getI E hC28 gq35 fa_RX10_83 dX10_takeLimit_52 (fun v36 ev36 _ _ => ?_)
        refine q_iast E hC28 hS32 gq34 (by decide) rfl rfl (i_in (a := a2) e2 (by omega) (by omega)) tv_F dX10_takeLimit_55 (fun H37 locs37 hC37 hS37 U37 => ?_)
        have hKp37 := Kp.upA gq34 rfl (by decide) rfl U37 hKp28
        refine lv_iconst (v := 1) hx hb dX10_takeLimit_56 rfl ?_
        exact ret 1 H37 locs37 _ _ dX10_takeLimit_57 (Or.inr rfl) ⟨hKp37, Or.inr rfl⟩ hC37 hS37
      · refine q_if_ne hx hb (a := 0) (by decide) (tgt := 43) dX10_takeLimit_38 rfl (fun c38 => absurd c38 (by omega)) (fun c38 => ?_)
        refine lv_iconst (v := 0) hx hb dX10_takeLimit_41 rfl ?_
        exact ret 0 H28 locs32 _ _ dX10_takeLimit_42 (Or.inl rfl) ⟨hKp28, Or.inl rfl⟩ hC28 hS32
set_option maxRecDepth 100000 in
set_option maxHeartbeats 4000000 in
theorem m_X10_takeArticle (l : Launch) (X : xW) (Γ : Nat → Option Nat) (H0 : Heap) (hC0 : Conf X Γ H0) (h0 : Nat) (g0 : Γ h0 = some 3) (h1 : Nat) (g1 : Γ h1 = some 5) : Ctr l X Γ yX10_takeArticle cX10_takeArticle 2 (some .boolean) 4 [.ref h0, .ref h1] H0 (QI X Γ (fun v H1 => Kp X Γ [0, 2, 3, 4, 5, 18, 21, 23, 25, 27] H0 H1 ∧ (v = 0 ∨ v = 1))) := by
  refine q_enterZ (own := "SnowForts$YardText") (by decide) rfl (Nat.le_of_ble_eq_true rfl) ?_
  intro p e s m args below meth c ls Qz E hl ret hS0
  have hx := E.1; have hb := E.2.1
  have hKp0 : Kp X Γ [0, 2, 3, 4, 5, 18, 21, 23, 25, 27] H0 H0 := Kp.rf
  have hl : lv_has ls 2 [(0, .ref h0), (1, .ref h1)] := hl
  refine lv_aload_n hx hb dX10_takeArticle_0 rfl (lv_at hl 0 rfl) ?_
  refine q_getR E hC0 g0 fa_RX10_21 dX10_takeArticle_1 (fun q21 eq21 gq21 => ?_)
  refine q_getQ E hC0 gq21 fa_RX10_101 dX10_takeArticle_4 (fun q22 eq22 gq22 => ?_)
  refine q_word E hS0 (i := 6) (by decide) w_671 dX10_takeArticle_7 (fun q23 gq23 => ?_)
  refine lv_acmp_ne (rx := q22) (ry := (some q23)) (tgt := 42) hx hb dX10_takeArticle_10 rfl (fun c24 => ?_) (fun c24 => ?_)
  · refine lv_aload_n hx hb dX10_takeArticle_42 rfl (lv_at hl 0 rfl) ?_
    refine q_getR E hC0 g0 fa_RX10_21 dX10_takeArticle_43 (fun q25 eq25 gq25 => ?_)
    refine q_getQ E hC0 gq25 fa_RX10_101 dX10_takeArticle_46 (fun q26 eq26 gq26 => ?_)
    refine q_word E hS0 (i := 12) (by decide) w_695 dX10_takeArticle_49 (fun q27 gq27 => ?_)
    refine lv_acmp_ne (rx := q26) (ry := (some q27)) (tgt := 84) hx hb dX10_takeArticle_52 rfl (fun c28 => ?_) (fun c28 => ?_)
    · refine lv_aload_n hx hb dX10_takeArticle_84 rfl (lv_at hl 0 rfl) ?_
      refine q_getR E hC0 g0 fa_RX10_21 dX10_takeArticle_85 (fun q29 eq29 gq29 => ?_)
      refine q_getQ E hC0 gq29 fa_RX10_101 dX10_takeArticle_88 (fun q30 eq30 gq30 => ?_)
      refine q_word E hS0 (i := 15) (by decide) w_699 dX10_takeArticle_91 (fun q31 gq31 => ?_)
      refine lv_acmp_ne (rx := q30) (ry := (some q31)) (tgt := 126) hx hb dX10_takeArticle_94 rfl (fun c32 => ?_) (fun c32 => ?_)
      · refine lv_aload_n hx hb dX10_takeArticle_126 rfl (lv_at hl 0 rfl) ?_
        refine q_getR E hC0 g0 fa_RX10_21 dX10_takeArticle_127 (fun q33 eq33 gq33 => ?_)
        refine q_getQ E hC0 gq33 fa_RX10_101 dX10_takeArticle_130 (fun q34 eq34 gq34 => ?_)
        refine q_word E hS0 (i := 14) (by decide) w_701 dX10_takeArticle_133 (fun q35 gq35 => ?_)
        refine lv_acmp_eq (rx := q34) (ry := (some q35)) (tgt := 147) hx hb dX10_takeArticle_136 rfl (fun c36 => ?_) (fun c36 => ?_)
        · refine lv_aload_n hx hb dX10_takeArticle_147 rfl (lv_at hl 0 rfl) ?_
          refine lv_aload_n hx hb dX10_takeArticle_148 rfl (lv_at hl 1 rfl) ?_
          refine lv_iconst (v := 2) hx hb dX10_takeArticle_149 rfl ?_
          refine q_goI (q_runV (As := [.ref h1, .int 2]) (rest := []) E hC0 hS0 (m_X10_isNew l X Γ H0 hC0 h0 g0 h1 g1 2 (a2 := 2) (by decide)) cw_X10_isNew cl_RX10_177 g0 ⟨rfl, rfl⟩ rfl hl.1 rfl (Nat.zero_le _) (by decide) dX10_takeArticle_150) hS0 (fun v37 H37 locs37 hr37 hC37 hS37 => ?_)
          obtain ⟨hp37, hr37⟩ := hr37
          have hKp37 := hKp0.tr (hp37.mono rfl)
          rcases hr37 with rfl | rfl
          · refine q_if_ne hx hb (a := 0) (by decide) (tgt := 158) dX10_takeArticle_153 rfl (fun c38 => absurd c38 (by omega)) (fun c38 => ?_)
            refine lv_iconst (v := 0) hx hb dX10_takeArticle_156 rfl ?_
            exact ret 0 H37 locs37 _ _ dX10_takeArticle_157 (Or.inl rfl) ⟨hKp37, Or.inl rfl⟩ hC37 hS37
          · refine q_if_ne hx hb (a := 1) (by decide) (tgt := 158) dX10_takeArticle_153 rfl (fun c39 => ?_) (fun c39 => absurd c39 (by omega))
            refine lv_aload_n hx hb dX10_takeArticle_158 rfl (lv_at hl 1 rfl) ?_
            refine q_getR E hC37 g1 fa_RX10_200 dX10_takeArticle_159 (fun q40 eq40 gq40 => ?_)
            refine lv_iconst (v := 2) hx hb dX10_takeArticle_162 rfl ?_
            refine lv_iconst (v := 0) hx hb dX10_takeArticle_163 rfl ?_
            refine q_iast E hC37 hS37 gq40 (by decide) rfl rfl (i_in (a := 2) (show (2 : Int32).toInt = 2 from by decide) (by omega) (by omega)) tv_F dX10_takeArticle_164 (fun H41 locs41 hC41 hS41 U41 => ?_)
            have hKp41 := Kp.upA gq40 rfl (by decide) rfl U41 hKp37
            refine lv_aload_n hx hb dX10_takeArticle_165 rfl (lv_at hl 0 rfl) ?_
            refine q_getR E hC41 g0 fa_RX10_21 dX10_takeArticle_166 (fun q42 eq42 gq42 => ?_)
            refine q_goV (q_runV (As := []) (rest := []) E hC41 hS41 (m_X4_advance l X Γ H41 hC41 q42 gq42) cw_X4_advance cl_RX10_154 gq42 ⟨rfl, rfl⟩ rfl hl.1 rfl (Nat.zero_le _) (by decide) dX10_takeArticle_169) hS41 (fun H43 locs43 hr43 hC43 hS43 => ?_)
            have hKp43 := hKp41.tr (hr43.mono rfl)
            refine lv_iconst (v := 1) hx hb dX10_takeArticle_172 rfl ?_
            exact ret 1 H43 locs43 _ _ dX10_takeArticle_173 (Or.inr rfl) ⟨hKp43, Or.inr rfl⟩ hC43 hS43
        · refine lv_aload_n hx hb dX10_takeArticle_139 rfl (lv_at hl 0 rfl) ?_
          refine q_getR E hC0 g0 fa_RX10_21 dX10_takeArticle_140 (fun q44 eq44 gq44 => ?_)
          refine q_goI (q_runV (As := []) (rest := []) E hC0 hS0 (m_X4_misfit l X Γ H0 hC0 q44 gq44) cw_X4_misfit cl_RX10_161 gq44 ⟨rfl, rfl⟩ rfl hl.1 rfl (Nat.zero_le _) (by decide) dX10_takeArticle_143) hS0 (fun v45 H45 locs45 hr45 hC45 hS45 => ?_)
          obtain ⟨hp45, hr45⟩ := hr45
          have hKp45 := hKp0.tr (hp45.mono rfl)
          rcases hr45 with rfl | rfl
          · exact ret 0 H45 locs45 _ _ dX10_takeArticle_146 (Or.inl rfl) ⟨hKp45, Or.inl rfl⟩ hC45 hS45
          · exact ret 1 H45 locs45 _ _ dX10_takeArticle_146 (Or.inr rfl) ⟨hKp45, Or.inr rfl⟩ hC45 hS45
      · refine lv_aload_n hx hb dX10_takeArticle_97 rfl (lv_at hl 0 rfl) ?_
        refine lv_aload_n hx hb dX10_takeArticle_98 rfl (lv_at hl 1 rfl) ?_
        refine lv_iconst (v := 3) hx hb dX10_takeArticle_99 rfl ?_
        refine q_goI (q_runV (As := [.ref h1, .int 3]) (rest := []) E hC0 hS0 (m_X10_isNew l X Γ H0 hC0 h0 g0 h1 g1 3 (a2 := 3) (by decide)) cw_X10_isNew cl_RX10_177 g0 ⟨rfl, rfl⟩ rfl hl.1 rfl (Nat.zero_le _) (by decide) dX10_takeArticle_100) hS0 (fun v46 H46 locs46 hr46 hC46 hS46 => ?_)
        obtain ⟨hp46, hr46⟩ := hr46
        have hKp46 := hKp0.tr (hp46.mono rfl)
        rcases hr46 with rfl | rfl
        · refine q_if_eq hx hb (a := 0) (by decide) (tgt := 124) dX10_takeArticle_103 rfl (fun c47 => ?_) (fun c47 => absurd c47 (by omega))
          refine lv_iconst (v := 0) hx hb dX10_takeArticle_124 rfl ?_
          exact ret 0 H46 locs46 _ _ dX10_takeArticle_125 (Or.inl rfl) ⟨hKp46, Or.inl rfl⟩ hC46 hS46
        · refine q_if_eq hx hb (a := 1) (by decide) (tgt := 124) dX10_takeArticle_103 rfl (fun c48 => absurd c48 (by omega)) (fun c48 => ?_)
          refine lv_aload_n hx hb dX10_takeArticle_106 rfl (lv_at hl 0 rfl) ?_
          refine lv_aload_n hx hb dX10_takeArticle_107 rfl (lv_at hl 1 rfl) ?_
          refine lv_iconst (v := 3) hx hb dX10_takeArticle_108 rfl ?_
          refine q_word E hS46 (i := 11) (by decide) w_689 dX10_takeArticle_109 (fun q49 gq49 => ?_)
          refine lv_bipush (v := 18) hx hb dX10_takeArticle_112 rfl ?_
          refine q_goI (q_runV (As := [.ref h1, .int 3, va_rf (some q49), .int 18]) (rest := []) E hC46 hS46 (m_X10_takeLimit l X Γ H46 hC46 h0 g0 h1 g1 3 (a2 := 3) (by decide) (some q49) (fun _ h => by cases h; exact gq49) 18 (a4 := 18) (by decide)) cw_X10_takeLimit cl_RX10_184 g0 ⟨rfl, rfl⟩ rfl hl.1 rfl (Nat.zero_le _) (by decide) dX10_takeArticle_114) hS46 (fun v50 H50 locs50 hr50 hC50 hS50 => ?_)
          obtain ⟨hp50, hr50⟩ := hr50
          have hKp50 := hKp46.tr (hp50.mono rfl)
          rcases hr50 with rfl | rfl
          · refine q_if_eq hx hb (a := 0) (by decide) (tgt := 124) dX10_takeArticle_117 rfl (fun c51 => ?_) (fun c51 => absurd c51 (by omega))
            refine lv_iconst (v := 0) hx hb dX10_takeArticle_124 rfl ?_
            exact ret 0 H50 locs50 _ _ dX10_takeArticle_125 (Or.inl rfl) ⟨hKp50, Or.inl rfl⟩ hC50 hS50
          · refine q_if_eq hx hb (a := 1) (by decide) (tgt := 124) dX10_takeArticle_117 rfl (fun c52 => absurd c52 (by omega)) (fun c52 => ?_)
            refine lv_iconst (v := 1) hx hb dX10_takeArticle_120 rfl ?_
            refine lv_goto (tgt := 125) hx hb dX10_takeArticle_121 rfl ?_
            exact ret 1 H50 locs50 _ _ dX10_takeArticle_125 (Or.inr rfl) ⟨hKp50, Or.inr rfl⟩ hC50 hS50
    · refine lv_aload_n hx hb dX10_takeArticle_55 rfl (lv_at hl 0 rfl) ?_
      refine lv_aload_n hx hb dX10_takeArticle_56 rfl (lv_at hl 1 rfl) ?_
      refine lv_iconst (v := 1) hx hb dX10_takeArticle_57 rfl ?_
      refine q_goI (q_runV (As := [.ref h1, .int 1]) (rest := []) E hC0 hS0 (m_X10_isNew l X Γ H0 hC0 h0 g0 h1 g1 1 (a2 := 1) (by decide)) cw_X10_isNew cl_RX10_177 g0 ⟨rfl, rfl⟩ rfl hl.1 rfl (Nat.zero_le _) (by decide) dX10_takeArticle_58) hS0 (fun v53 H53 locs53 hr53 hC53 hS53 => ?_)
      obtain ⟨hp53, hr53⟩ := hr53
      have hKp53 := hKp0.tr (hp53.mono rfl)
      rcases hr53 with rfl | rfl
      · refine q_if_eq hx hb (a := 0) (by decide) (tgt := 82) dX10_takeArticle_61 rfl (fun c54 => ?_) (fun c54 => absurd c54 (by omega))
        refine lv_iconst (v := 0) hx hb dX10_takeArticle_82 rfl ?_
        exact ret 0 H53 locs53 _ _ dX10_takeArticle_83 (Or.inl rfl) ⟨hKp53, Or.inl rfl⟩ hC53 hS53
      · refine q_if_eq hx hb (a := 1) (by decide) (tgt := 82) dX10_takeArticle_61 rfl (fun c55 => absurd c55 (by omega)) (fun c55 => ?_)
        refine lv_aload_n hx hb dX10_takeArticle_64 rfl (lv_at hl 0 rfl) ?_
        refine lv_aload_n hx hb dX10_takeArticle_65 rfl (lv_at hl 1 rfl) ?_
        refine lv_iconst (v := 1) hx hb dX10_takeArticle_66 rfl ?_
        refine q_word E hS53 (i := 13) (by decide) w_697 dX10_takeArticle_67 (fun q56 gq56 => ?_)
        refine lv_bipush (v := 40) hx hb dX10_takeArticle_70 rfl ?_
        refine q_goI (q_runV (As := [.ref h1, .int 1, va_rf (some q56), .int 40]) (rest := []) E hC53 hS53 (m_X10_takeLimit l X Γ H53 hC53 h0 g0 h1 g1 1 (a2 := 1) (by decide) (some q56) (fun _ h => by cases h; exact gq56) 40 (a4 := 40) (by decide)) cw_X10_takeLimit cl_RX10_184 g0 ⟨rfl, rfl⟩ rfl hl.1 rfl (Nat.zero_le _) (by decide) dX10_takeArticle_72) hS53 (fun v57 H57 locs57 hr57 hC57 hS57 => ?_)
        obtain ⟨hp57, hr57⟩ := hr57
        have hKp57 := hKp53.tr (hp57.mono rfl)
        rcases hr57 with rfl | rfl
        · refine q_if_eq hx hb (a := 0) (by decide) (tgt := 82) dX10_takeArticle_75 rfl (fun c58 => ?_) (fun c58 => absurd c58 (by omega))
          refine lv_iconst (v := 0) hx hb dX10_takeArticle_82 rfl ?_
          exact ret 0 H57 locs57 _ _ dX10_takeArticle_83 (Or.inl rfl) ⟨hKp57, Or.inl rfl⟩ hC57 hS57
        · refine q_if_eq hx hb (a := 1) (by decide) (tgt := 82) dX10_takeArticle_75 rfl (fun c59 => absurd c59 (by omega)) (fun c59 => ?_)
          refine lv_iconst (v := 1) hx hb dX10_takeArticle_78 rfl ?_
          refine lv_goto (tgt := 83) hx hb dX10_takeArticle_79 rfl ?_
          exact ret 1 H57 locs57 _ _ dX10_takeArticle_83 (Or.inr rfl) ⟨hKp57, Or.inr rfl⟩ hC57 hS57
  · refine lv_aload_n hx hb dX10_takeArticle_13 rfl (lv_at hl 0 rfl) ?_
    refine lv_aload_n hx hb dX10_takeArticle_14 rfl (lv_at hl 1 rfl) ?_
    refine lv_iconst (v := 0) hx hb dX10_takeArticle_15 rfl ?_
    refine q_goI (q_runV (As := [.ref h1, .int 0]) (rest := []) E hC0 hS0 (m_X10_isNew l X Γ H0 hC0 h0 g0 h1 g1 0 (a2 := 0) (by decide)) cw_X10_isNew cl_RX10_177 g0 ⟨rfl, rfl⟩ rfl hl.1 rfl (Nat.zero_le _) (by decide) dX10_takeArticle_16) hS0 (fun v60 H60 locs60 hr60 hC60 hS60 => ?_)
    obtain ⟨hp60, hr60⟩ := hr60
    have hKp60 := hKp0.tr (hp60.mono rfl)
    rcases hr60 with rfl | rfl
    · refine q_if_eq hx hb (a := 0) (by decide) (tgt := 40) dX10_takeArticle_19 rfl (fun c61 => ?_) (fun c61 => absurd c61 (by omega))
      refine lv_iconst (v := 0) hx hb dX10_takeArticle_40 rfl ?_
      exact ret 0 H60 locs60 _ _ dX10_takeArticle_41 (Or.inl rfl) ⟨hKp60, Or.inl rfl⟩ hC60 hS60
    · refine q_if_eq hx hb (a := 1) (by decide) (tgt := 40) dX10_takeArticle_19 rfl (fun c62 => absurd c62 (by omega)) (fun c62 => ?_)
      refine lv_aload_n hx hb dX10_takeArticle_22 rfl (lv_at hl 0 rfl) ?_
      refine lv_aload_n hx hb dX10_takeArticle_23 rfl (lv_at hl 1 rfl) ?_
      refine lv_iconst (v := 0) hx hb dX10_takeArticle_24 rfl ?_
      refine q_word E hS60 (i := 11) (by decide) w_689 dX10_takeArticle_25 (fun q63 gq63 => ?_)
      refine lv_bipush (v := 20) hx hb dX10_takeArticle_28 rfl ?_
      refine q_goI (q_runV (As := [.ref h1, .int 0, va_rf (some q63), .int 20]) (rest := []) E hC60 hS60 (m_X10_takeLimit l X Γ H60 hC60 h0 g0 h1 g1 0 (a2 := 0) (by decide) (some q63) (fun _ h => by cases h; exact gq63) 20 (a4 := 20) (by decide)) cw_X10_takeLimit cl_RX10_184 g0 ⟨rfl, rfl⟩ rfl hl.1 rfl (Nat.zero_le _) (by decide) dX10_takeArticle_30) hS60 (fun v64 H64 locs64 hr64 hC64 hS64 => ?_)
      obtain ⟨hp64, hr64⟩ := hr64
      have hKp64 := hKp60.tr (hp64.mono rfl)
      rcases hr64 with rfl | rfl
      · refine q_if_eq hx hb (a := 0) (by decide) (tgt := 40) dX10_takeArticle_33 rfl (fun c65 => ?_) (fun c65 => absurd c65 (by omega))
        refine lv_iconst (v := 0) hx hb dX10_takeArticle_40 rfl ?_
        exact ret 0 H64 locs64 _ _ dX10_takeArticle_41 (Or.inl rfl) ⟨hKp64, Or.inl rfl⟩ hC64 hS64
      · refine q_if_eq hx hb (a := 1) (by decide) (tgt := 40) dX10_takeArticle_33 rfl (fun c66 => absurd c66 (by omega)) (fun c66 => ?_)
        refine lv_iconst (v := 1) hx hb dX10_takeArticle_36 rfl ?_
        refine lv_goto (tgt := 41) hx hb dX10_takeArticle_37 rfl ?_
        exact ret 1 H64 locs64 _ _ dX10_takeArticle_41 (Or.inr rfl) ⟨hKp64, Or.inr rfl⟩ hC64 hS64
