set_option maxRecDepth 100000 in
set_option maxHeartbeats 4000000 in
theorem m_X11_isWithin (l : Launch) (X : xW) (Γ : Nat → Option Nat) (H0 : Heap) (hC0 : Conf X Γ H0) (p0 : Int64) {a0 : Int} (e0 : p0.toInt = a0) (p1 : Int32) {a1 : Int} (e1 : p1.toInt = a1) (p2 : Int32) {a2 : Int} (e2 : p2.toInt = a2) : Ctr l X Γ yX11_isWithin cX11_isWithin 4 (some .boolean) 0 [.long p0, .int p1, .int p2] H0 (QI X Γ (fun v H1 => H1 = H0 ∧ ((v = 1 ∧ (a1 ≤ a0 ∧ a0 ≤ a2)) ∨ (v = 0 ∧ (a0 < a1 ∨ a2 < a0))))) := by
  refine q_enterZ (own := "SnowForts") (by decide) rfl (Nat.le_of_ble_eq_true rfl) ?_
  intro p e s m args below meth c ls Qz E hl ret hS0
  have hx := E.1; have hb := E.2.1
  have hl : lv_has ls 4 [(0, .long p0), (2, .int p1), (3, .int p2)] := hl
  refine lv_lload_n hx hb dX11_isWithin_0 rfl (lv_at hl 0 rfl) ?_
  refine lv_iload_n hx hb dX11_isWithin_1 rfl (lv_at hl 1 rfl) ?_
  refine lv_i2l (v := p1.toInt64) hx hb dX11_isWithin_2 rfl (lv_topl (fun v21 ev21 => ?_))
  have ev21i : v21.toInt = a1 := l_ofi ev21.symm e1
  refine q_lcmp_lt hx hb (a := a0) (b := a1) e0 ev21i (tgt := 18) dX11_isWithin_3 dX11_isWithin_4 rfl (fun c22 => ?_) (fun c22 => ?_)
  · refine lv_iconst (v := 0) hx hb dX11_isWithin_18 rfl ?_
    exact ret 0 H0 [] _ _ dX11_isWithin_19 (Or.inl rfl) ⟨rfl, Or.inr ⟨rfl, by omega⟩⟩ hC0 hS0
  · refine lv_lload_n hx hb dX11_isWithin_7 rfl (lv_at hl 0 rfl) ?_
    refine lv_iload_n hx hb dX11_isWithin_8 rfl (lv_at hl 2 rfl) ?_
    refine lv_i2l (v := p2.toInt64) hx hb dX11_isWithin_9 rfl (lv_topl (fun v23 ev23 => ?_))
    have ev23i : v23.toInt = a2 := l_ofi ev23.symm e2
    refine q_lcmp_gt hx hb (a := a0) (b := a2) e0 ev23i (tgt := 18) dX11_isWithin_10 dX11_isWithin_11 rfl (fun c24 => ?_) (fun c24 => ?_)
    · refine lv_iconst (v := 0) hx hb dX11_isWithin_18 rfl ?_
      exact ret 0 H0 [] _ _ dX11_isWithin_19 (Or.inl rfl) ⟨rfl, Or.inr ⟨rfl, by omega⟩⟩ hC0 hS0
    · refine lv_iconst (v := 1) hx hb dX11_isWithin_14 rfl ?_
      refine lv_goto (tgt := 19) hx hb dX11_isWithin_15 rfl ?_
      exact ret 1 H0 [] _ _ dX11_isWithin_19 (Or.inr rfl) ⟨rfl, Or.inl ⟨rfl, by omega, by omega⟩⟩ hC0 hS0
set_option maxRecDepth 100000 in
set_option maxHeartbeats 4000000 in
theorem m_X11_isTray (l : Launch) (X : xW) (Γ : Nat → Option Nat) (H0 : Heap) (hC0 : Conf X Γ H0) (p0 : Int32) {a0 : Int} (e0 : p0.toInt = a0) : Ctr l X Γ yX11_isTray cX11_isTray 1 (some .boolean) 1 [.int p0] H0 (QI X Γ (fun v H1 => H1 = H0 ∧ ((v = 1 ∧ (0 ≤ a0 ∧ a0 ≤ 3)) ∨ (v = 0 ∧ (a0 < 0 ∨ 3 < a0))))) := by
  refine q_enterZ (own := "SnowForts") (by decide) rfl (Nat.le_of_ble_eq_true rfl) ?_
  intro p e s m args below meth c ls Qz E hl ret hS0
  have hx := E.1; have hb := E.2.1
  have hl : lv_has ls 1 [(0, .int p0)] := hl
  refine lv_iload_n hx hb dX11_isTray_0 rfl (lv_at hl 0 rfl) ?_
  refine lv_i2l (v := p0.toInt64) hx hb dX11_isTray_1 rfl (lv_topl (fun v21 ev21 => ?_))
  have ev21i : v21.toInt = a0 := l_ofi ev21.symm e0
  refine lv_iconst (v := 0) hx hb dX11_isTray_2 rfl ?_
  refine lv_iconst (v := 3) hx hb dX11_isTray_3 rfl ?_
  refine q_goIp (q_runS (As := [.long v21, .int 0, .int 3]) (rest := []) E hS0 (m_X11_isWithin l X Γ H0 hC0 v21 (a0 := a0) ev21i 0 (a1 := 0) (by decide) 3 (a2 := 3) (by decide)) cw_X11_isWithin cl_RX11_113 rfl hl.1 rfl (Nat.zero_le _) (by decide) dX11_isTray_4) hS0 (fun v22 locs22 hr22 hS22 => ?_)
  rcases hr22 with ⟨rfl, f22a0, f22a1⟩ | ⟨rfl, f22b⟩
  · exact ret 1 H0 locs22 _ _ dX11_isTray_7 (Or.inr rfl) ⟨rfl, Or.inl ⟨rfl, by omega, by omega⟩⟩ hC0 hS22
  · exact ret 0 H0 locs22 _ _ dX11_isTray_7 (Or.inl rfl) ⟨rfl, Or.inr ⟨rfl, by omega⟩⟩ hC0 hS22
set_option maxRecDepth 100000 in
set_option maxHeartbeats 4000000 in
theorem m_X6_isMissing (l : Launch) (X : xW) (Γ : Nat → Option Nat) (H0 : Heap) (hC0 : Conf X Γ H0) (h0 : Nat) (g0 : Γ h0 = some 1) : Ctr l X Γ yX6_isMissing cX6_isMissing 1 (some .boolean) 0 [.ref h0] H0 (QI X Γ (fun v H1 => H1 = H0 ∧ ((v = 1 ∧ ((sI H0 h0 (X.1.2 6 2)).toInt < 0)) ∨ (v = 0 ∧ (0 ≤ (sI H0 h0 (X.1.2 6 2)).toInt))))) := by
  refine q_enterZ (own := "SnowForts$Tray") (by decide) rfl (Nat.le_of_ble_eq_true rfl) ?_
  intro p e s m args below meth c ls Qz E hl ret hS0
  have hx := E.1; have hb := E.2.1
  have hl : lv_has ls 1 [(0, .ref h0)] := hl
  have hz1 := f_bd hC0 g0 (ci := 6) (k := 2) rfl rfl
  refine lv_aload_n hx hb dX6_isMissing_0 rfl (lv_at hl 0 rfl) ?_
  refine q_getI E hC0 g0 fa_RX6_15 dX6_isMissing_1 (fun v21 ev21 lv21 uv21 => ?_)
  have m22 : (sI H0 h0 (X.1.2 6 2)).toInt = v21.toInt := (congrArg Int32.toInt ev21).trans rfl
  refine q_if_ge hx hb (a := v21.toInt) rfl (tgt := 11) dX6_isMissing_4 rfl (fun c23 => ?_) (fun c23 => ?_)
  · refine lv_iconst (v := 0) hx hb dX6_isMissing_11 rfl ?_
    exact ret 0 H0 [] _ _ dX6_isMissing_12 (Or.inl rfl) ⟨rfl, Or.inr ⟨rfl, by omega⟩⟩ hC0 hS0
  · refine lv_iconst (v := 1) hx hb dX6_isMissing_7 rfl ?_
    refine lv_goto (tgt := 12) hx hb dX6_isMissing_8 rfl ?_
    exact ret 1 H0 [] _ _ dX6_isMissing_12 (Or.inr rfl) ⟨rfl, Or.inl ⟨rfl, by omega⟩⟩ hC0 hS0
set_option maxRecDepth 100000 in
set_option maxHeartbeats 4000000 in
theorem m_X6_hasPlace (l : Launch) (X : xW) (Γ : Nat → Option Nat) (H0 : Heap) (hC0 : Conf X Γ H0) (h0 : Nat) (g0 : Γ h0 = some 1) (p1 : Int32) {a1 : Int} (e1 : p1.toInt = a1) : Ctr l X Γ yX6_hasPlace cX6_hasPlace 2 (some .boolean) 0 [.ref h0, .int p1] H0 (QI X Γ (fun v H1 => H1 = H0 ∧ ((v = 1 ∧ (0 ≤ a1 ∧ a1 ≤ 59 ∧ a1 < (sI H0 h0 (X.1.2 6 2)).toInt)) ∨ (v = 0 ∧ (a1 < 0 ∨ (sI H0 h0 (X.1.2 6 2)).toInt ≤ a1))))) := by
  refine q_enterZ (own := "SnowForts$Tray") (by decide) rfl (Nat.le_of_ble_eq_true rfl) ?_
  intro p e s m args below meth c ls Qz E hl ret hS0
  have hx := E.1; have hb := E.2.1
  have hl : lv_has ls 2 [(0, .ref h0), (1, .int p1)] := hl
  have hz1 := f_bd hC0 g0 (ci := 6) (k := 2) rfl rfl
  refine lv_iload_n hx hb dX6_hasPlace_0 rfl (lv_at hl 1 rfl) ?_
  refine q_if_lt hx hb (a := a1) e1 (tgt := 22) dX6_hasPlace_1 rfl (fun c21 => ?_) (fun c21 => ?_)
  · refine lv_iconst (v := 0) hx hb dX6_hasPlace_22 rfl ?_
    exact ret 0 H0 [] _ _ dX6_hasPlace_23 (Or.inl rfl) ⟨rfl, Or.inr ⟨rfl, by omega⟩⟩ hC0 hS0
  · refine lv_iload_n hx hb dX6_hasPlace_4 rfl (lv_at hl 1 rfl) ?_
    refine lv_aload_n hx hb dX6_hasPlace_5 rfl (lv_at hl 0 rfl) ?_
    refine q_getI E hC0 g0 fa_RX6_15 dX6_hasPlace_6 (fun v22 ev22 lv22 uv22 => ?_)
    have m23 : (sI H0 h0 (X.1.2 6 2)).toInt = v22.toInt := (congrArg Int32.toInt ev22).trans rfl
    refine q_icmp_ge hx hb (a := a1) (b := v22.toInt) e1 rfl (tgt := 22) dX6_hasPlace_9 rfl (fun c24 => ?_) (fun c24 => ?_)
    · refine lv_iconst (v := 0) hx hb dX6_hasPlace_22 rfl ?_
      exact ret 0 H0 [] _ _ dX6_hasPlace_23 (Or.inl rfl) ⟨rfl, Or.inr ⟨rfl, by omega⟩⟩ hC0 hS0
    · refine lv_iload_n hx hb dX6_hasPlace_12 rfl (lv_at hl 1 rfl) ?_
      refine lv_bipush (v := 60) hx hb dX6_hasPlace_13 rfl ?_
      refine q_icmp_ge hx hb (a := a1) (b := 60) e1 (by decide) (tgt := 22) dX6_hasPlace_15 rfl (fun c25 => absurd c25 (by omega)) (fun c25 => ?_)
      refine lv_iconst (v := 1) hx hb dX6_hasPlace_18 rfl ?_
      refine lv_goto (tgt := 23) hx hb dX6_hasPlace_19 rfl ?_
      exact ret 1 H0 [] _ _ dX6_hasPlace_23 (Or.inr rfl) ⟨rfl, Or.inl ⟨rfl, by omega, by omega, by omega⟩⟩ hC0 hS0
set_option maxRecDepth 100000 in
set_option maxHeartbeats 4000000 in
theorem m_X11_refuse (l : Launch) (X : xW) (Γ : Nat → Option Nat) (H0 : Heap) (hC0 : Conf X Γ H0) (h0 : Nat) (g0 : Γ h0 = some 0) (p1 : Int32) {a1 : Int} (e1 : p1.toInt = a1) : Ctr l X Γ yX11_refuse cX11_refuse 2 (some .int) 0 [.ref h0, .int p1] H0 (QI X Γ (fun v H1 => Kp X Γ [0, 2, 3, 4, 5, 18, 21, 23, 25, 27] H0 H1 ∧ ((v.toInt = -1)))) := by
  refine q_enterI (own := "SnowForts") (by decide) rfl (Nat.le_of_ble_eq_true rfl) ?_
  intro p e s m args below meth c ls Qz E hl ret hS0
  have hx := E.1; have hb := E.2.1
  have hKp0 : Kp X Γ [0, 2, 3, 4, 5, 18, 21, 23, 25, 27] H0 H0 := Kp.rf
  have hl : lv_has ls 2 [(0, .ref h0), (1, .int p1)] := hl
  refine lv_aload_n hx hb dX11_refuse_0 rfl (lv_at hl 0 rfl) ?_
  refine lv_iload_n hx hb dX11_refuse_1 rfl (lv_at hl 1 rfl) ?_
  refine q_put E hC0 hS0 g0 fp_RX11_102 tv_F rfl rfl dX11_refuse_2 (fun H21 locs21 hC21 hS21 U21 => ?_)
  have hKp21 := Kp.upO E g0 fp_RX11_102 rfl U21 hKp0
  have e22 := up_I U21
  refine lv_iconst (v := (-1)) hx hb dX11_refuse_5 rfl ?_
  have c23 : ((-1) : Int32).toInt = (-1) := (by decide)
  exact ret (-1) H21 locs21 _ _ dX11_refuse_6 ⟨hKp21, by omega⟩ hC21 hS21
set_option maxRecDepth 100000 in
set_option maxHeartbeats 4000000 in
theorem m_X6_numberAt (l : Launch) (X : xW) (Γ : Nat → Option Nat) (H0 : Heap) (hC0 : Conf X Γ H0) (h0 : Nat) (g0 : Γ h0 = some 1) (p1 : Int32) {a1 : Int} (e1 : p1.toInt = a1) : Ctr l X Γ yX6_numberAt cX6_numberAt 2 (some .long) 1 [.ref h0, .int p1] H0 (QJ X Γ (fun v H1 => H1 = H0 ∧ ((∀ q, sR H0 h0 (X.1.2 6 0) = some q → 0 ≤ a1 → a1 < (sI H0 h0 (X.1.2 6 2)).toInt → v = sJ H0 q (a1 : Int).toNat)))) := by
  refine q_enterJ (own := "SnowForts$Tray") (by decide) rfl (Nat.le_of_ble_eq_true rfl) ?_
  intro p e s m args below meth c ls Qz E hl ret hS0
  have hx := E.1; have hb := E.2.1
  have hl : lv_has ls 2 [(0, .ref h0), (1, .int p1)] := hl
  refine lv_aload_n hx hb dX6_numberAt_0 rfl (lv_at hl 0 rfl) ?_
  refine lv_iload_n hx hb dX6_numberAt_1 rfl (lv_at hl 1 rfl) ?_
  refine q_goIp (q_runV (As := [.int p1]) (rest := []) E hC0 hS0 (m_X6_hasPlace l X Γ H0 hC0 h0 g0 p1 (a1 := a1) e1) cw_X6_hasPlace cl_RX6_28 g0 ⟨rfl, rfl⟩ rfl hl.1 rfl (Nat.zero_le _) (by decide) dX6_numberAt_2) hS0 (fun v21 locs21 hr21 hS21 => ?_)
  rcases hr21 with ⟨rfl, f21a0, f21a1, f21a2⟩ | ⟨rfl, f21b⟩
  · refine q_if_eq hx hb (a := 1) (by decide) (tgt := 17) dX6_numberAt_5 rfl (fun c22 => absurd c22 (by omega)) (fun c22 => ?_)
    refine lv_aload_n hx hb dX6_numberAt_8 rfl (lv_at hl 0 rfl) ?_
    refine q_getR E hC0 g0 fa_RX6_9 dX6_numberAt_9 (fun q23 eq23 gq23 => ?_)
    have eqn := eq23
    refine lv_iload_n hx hb dX6_numberAt_12 rfl (lv_at hl 1 rfl) ?_
    refine q_lald2 E hC0 gq23 rfl rfl (fun _ => rfl) (a := a1) e1 (by omega) (by omega) dX6_numberAt_13 (fun v24 ev24 => ?_)
    have hna : ∀ q, sR H0 h0 (X.1.2 6 0) = some q → 0 ≤ a1 → a1 < (sI H0 h0 (X.1.2 6 2)).toInt → (v24 : Int64) = sJ H0 q (a1 : Int).toNat := fun q hq _ _ => by cases Option.some.inj (eqn.symm.trans hq); exact ev24.symm
    refine lv_goto (tgt := 20) hx hb dX6_numberAt_14 rfl ?_
    exact ret v24 H0 locs21 _ _ dX6_numberAt_20 ⟨rfl, hna⟩ hC0 hS21
  · refine q_if_eq hx hb (a := 0) (by decide) (tgt := 17) dX6_numberAt_5 rfl (fun c25 => ?_) (fun c25 => absurd c25 (by omega))
    have hna : ∀ q, sR H0 h0 (X.1.2 6 0) = some q → 0 ≤ a1 → a1 < (sI H0 h0 (X.1.2 6 2)).toInt → (-1 : Int64) = sJ H0 q (a1 : Int).toNat := fun q hq h1 h2 => absurd h1 (by omega)
    refine lv_ldc2 (v := (-1)) hx hb E.2.2.2.1 (E.2.2.2.2.1 _ w_534) dX6_numberAt_17 ?_
    exact ret (-1) H0 locs21 _ _ dX6_numberAt_20 ⟨rfl, hna⟩ hC0 hS21
set_option maxRecDepth 100000 in
set_option maxHeartbeats 4000000 in
theorem m_X11_answer (l : Launch) (X : xW) (Γ : Nat → Option Nat) (H0 : Heap) (hC0 : Conf X Γ H0) (h0 : Nat) (g0 : Γ h0 = some 0) (p1 : Int32) {a1 : Int} (e1 : p1.toInt = a1) : Ctr l X Γ yX11_answer cX11_answer 2 (some .int) 0 [.ref h0, .int p1] H0 (QI X Γ (fun v H1 => Kp X Γ [0, 2, 3, 4, 5, 18, 21, 23, 25, 27] H0 H1 ∧ ((v.toInt = a1)))) := by
  refine q_enterI (own := "SnowForts") (by decide) rfl (Nat.le_of_ble_eq_true rfl) ?_
  intro p e s m args below meth c ls Qz E hl ret hS0
  have hx := E.1; have hb := E.2.1
  have hKp0 : Kp X Γ [0, 2, 3, 4, 5, 18, 21, 23, 25, 27] H0 H0 := Kp.rf
  have hl : lv_has ls 2 [(0, .ref h0), (1, .int p1)] := hl
  refine lv_aload_n hx hb dX11_answer_0 rfl (lv_at hl 0 rfl) ?_
  refine lv_iconst (v := 0) hx hb dX11_answer_1 rfl ?_
  refine q_put E hC0 hS0 g0 fp_RX11_102 tv_F rfl rfl dX11_answer_2 (fun H21 locs21 hC21 hS21 U21 => ?_)
  have hKp21 := Kp.upO E g0 fp_RX11_102 rfl U21 hKp0
  have e22 := up_I U21
  refine lv_iload_n hx hb dX11_answer_5 rfl (lv_at hl 1 rfl) ?_
  have c23 : p1.toInt = a1 := e1
  exact ret p1 H21 locs21 _ _ dX11_answer_6 ⟨hKp21, by omega⟩ hC21 hS21
set_option maxRecDepth 100000 in
set_option maxHeartbeats 4000000 in
theorem m_X6_holdsWithin (l : Launch) (X : xW) (Γ : Nat → Option Nat) (H0 : Heap) (hC0 : Conf X Γ H0) (h0 : Nat) (g0 : Γ h0 = some 1) (p1 : Int32) {a1 : Int} (e1 : p1.toInt = a1) (p2 : Int32) {a2 : Int} (e2 : p2.toInt = a2) : Ctr l X Γ yX6_holdsWithin cX6_holdsWithin 4 (some .boolean) 1 [.ref h0, .int p1, .int p2] H0 (QI X Γ (fun v H1 => H1 = H0 ∧ ((v = 1 ∧ (HW X H0 h0 a1 a2)) ∨ (v = 0 ∧ (NW X H0 h0 a1 a2))))) := by
  refine q_enterZ (own := "SnowForts$Tray") (by decide) rfl (Nat.le_of_ble_eq_true rfl) ?_
  intro p e s m args below meth c ls Qz E hl ret hS0
  have hx := E.1; have hb := E.2.1
  have hl : lv_has ls 4 [(0, .ref h0), (1, .int p1), (2, .int p2)] := hl
  refine lv_iconst (v := 0) hx hb dX6_holdsWithin_0 rfl ?_
  refine lv_istore_n hx hb dX6_holdsWithin_1 rfl hl (by decide) rfl (fun ls hl => ?_)
  have hl : lv_has ls 4 [(3, .int 0), (0, .ref h0), (1, .int p1), (2, .int p2)] := hl
  have L2 : ∀ (n22 : Nat) (locs22 : List Loc) (v21 : Int32) (z21 : Int) (ls : Array Slot), (a1 - z21).toNat < n22 → v21.toInt = z21 → 0 ≤ z21 → HW X H0 h0 z21 a2 → va_S (AΓ Γ) H0 H0 locs22 → lv_has ls 4 [(3, .int v21), (0, .ref h0), (1, .int p1), (2, .int p2)] → W p l e (rmL 1) s m args below meth c H0 locs22 0 0 Qz (F0 m 2 ls []) := by
    intro n22
    induction n22 with
    | zero => intro locs22 v21 z21 ls hm22 ev21 iv22_0 iv22_1 hS22 hl; exact absurd hm22 (Nat.not_lt_zero _)
    | succ n22 ih22 =>
      intro locs22 v21 z21 ls hm22 ev21 iv22_0 iv22_1 hS22 hl
      have hw := iv22_1
      refine lv_iload_n hx hb dX6_holdsWithin_2 rfl (lv_at hl 0 rfl) ?_
      refine lv_iload_n hx hb dX6_holdsWithin_3 rfl (lv_at hl 2 rfl) ?_
      have c23 := i_rng p1; rw [show p1.toInt = a1 from e1] at c23
      refine q_icmp_ge hx hb (a := z21) (b := a1) ev21 e1 (tgt := 37) dX6_holdsWithin_4 rfl (fun c24 => ?_) (fun c24 => ?_)
      · refine lv_iconst (v := 1) hx hb dX6_holdsWithin_37 rfl ?_
        have hwf : HW X H0 h0 a1 a2 := HW.le hw (by omega)
        exact ret 1 H0 locs22 _ _ dX6_holdsWithin_38 (Or.inr rfl) ⟨rfl, Or.inl ⟨rfl, hwf⟩⟩ hC0 hS22
      · refine lv_aload_n hx hb dX6_holdsWithin_7 rfl (lv_at hl 1 rfl) ?_
        refine lv_iload_n hx hb dX6_holdsWithin_8 rfl (lv_at hl 0 rfl) ?_
        refine q_goIp (q_runV (As := [.int v21]) (rest := []) E hC0 hS22 (m_X6_hasPlace l X Γ H0 hC0 h0 g0 v21 (a1 := z21) ev21) cw_X6_hasPlace cl_RX6_28 g0 ⟨rfl, rfl⟩ rfl hl.1 rfl (Nat.zero_le _) (by decide) dX6_holdsWithin_9) hS22 (fun v25 locs25 hr25 hS25 => ?_)
        rcases hr25 with ⟨rfl, f25a0, f25a1, f25a2⟩ | ⟨rfl, f25b⟩
        · refine q_if_eq hx hb (a := 1) (by decide) (tgt := 29) dX6_holdsWithin_12 rfl (fun c26 => absurd c26 (by omega)) (fun c26 => ?_)
          refine lv_aload_n hx hb dX6_holdsWithin_15 rfl (lv_at hl 1 rfl) ?_
          refine q_getR E hC0 g0 fa_RX6_9 dX6_holdsWithin_16 (fun q27 eq27 gq27 => ?_)
          have eqn := eq27
          refine lv_iload_n hx hb dX6_holdsWithin_19 rfl (lv_at hl 0 rfl) ?_
          refine q_lald2 E hC0 gq27 rfl rfl (fun _ => rfl) (a := z21) ev21 (by omega) (by omega) dX6_holdsWithin_20 (fun v28 ev28 => ?_)
          have hvv : nuN X H0 h0 (z21 : Int).toNat = v28.toInt := by unfold nuN; rw [nuA_eq eqn, ev28]
          refine lv_iconst (v := 0) hx hb dX6_holdsWithin_21 rfl ?_
          refine lv_iload_n hx hb dX6_holdsWithin_22 rfl (lv_at hl 3 rfl) ?_
          refine q_goIp (q_runSN (As := [.long v28, .int 0, .int p2]) (rest := []) E hS25 (m_X11_isWithin l X Γ H0 hC0 v28 (a0 := v28.toInt) rfl 0 (a1 := 0) (by decide) p2 (a2 := a2) e2) cw_X11_isWithin cl_RX6_38 rfl hl.1 rfl (Nat.zero_le _) (by decide) dX6_holdsWithin_23) hS25 (fun v29 locs29 hr29 hS29 => ?_)
          rcases hr29 with ⟨rfl, f29a0, f29a1⟩ | ⟨rfl, f29b⟩
          · refine q_if_ne hx hb (a := 1) (by decide) (tgt := 31) dX6_holdsWithin_26 rfl (fun c30 => ?_) (fun c30 => absurd c30 (by omega))
            have hwn : HW X H0 h0 (z21 + 1) a2 := HW.step hw (by omega) (by omega) (by omega) (by omega)
            obtain ⟨v31, ev31⟩ : ∃ z, z = v21 + Int32.ofInt 1 := ⟨_, rfl⟩
            have ev31i : v31.toInt = (z21 + 1) := i_add ev31 ev21 (by decide) (by omega) (by omega)
            refine lv_iinc hx hb dX6_holdsWithin_31 hl (k := 0) rfl ev31.symm (by decide) rfl (fun ls hl => ?_)
            have hl : lv_has ls 4 [(3, .int v31), (0, .ref h0), (1, .int p1), (2, .int p2)] := hl
            refine lv_goto (tgt := 2) hx hb dX6_holdsWithin_34 rfl ?_
            exact ih22 locs29 v31 ((z21 + 1)) ls (by omega) ev31i (by omega) (hwn) hS29 hl
          · refine q_if_ne hx hb (a := 0) (by decide) (tgt := 31) dX6_holdsWithin_26 rfl (fun c32 => absurd c32 (by omega)) (fun c32 => ?_)
            refine lv_iconst (v := 0) hx hb dX6_holdsWithin_29 rfl ?_
            have hnw : NW X H0 h0 a1 a2 := ⟨(z21 : Int).toNat, by omega, by omega⟩
            exact ret 0 H0 locs29 _ _ dX6_holdsWithin_30 (Or.inl rfl) ⟨rfl, Or.inr ⟨rfl, hnw⟩⟩ hC0 hS29
        · refine q_if_eq hx hb (a := 0) (by decide) (tgt := 29) dX6_holdsWithin_12 rfl (fun c33 => ?_) (fun c33 => absurd c33 (by omega))
          refine lv_iconst (v := 0) hx hb dX6_holdsWithin_29 rfl ?_
          have hnw : NW X H0 h0 a1 a2 := ⟨(z21 : Int).toNat, by omega, by omega⟩
          exact ret 0 H0 locs25 _ _ dX6_holdsWithin_30 (Or.inl rfl) ⟨rfl, Or.inr ⟨rfl, hnw⟩⟩ hC0 hS25
  exact L2 _ [] 0 0 ls (Nat.lt_succ_self _) (by decide) (by omega) (HW.nil) hS0 hl
set_option maxRecDepth 100000 in
set_option maxHeartbeats 4000000 in
theorem m_X0_explain (l : Launch) (X : xW) (Γ : Nat → Option Nat) (H0 : Heap) (hC0 : Conf X Γ H0) (h0 : Nat) (g0 : Γ h0 = some 8) (h1 : Nat) (g1 : Γ h1 = some 1) (h2 : Nat) (g2 : Γ h2 = some 1) (p3 : Int32) {a3 : Int} (e3 : p3.toInt = a3) (r0 : 2 ≤ a3) (r1 : a3 ≤ 12) (r2 : HW X H0 h1 a3 99) (r3 : HW X H0 h2 (a3 - 1) 20) : Ctr l X Γ yX0_explain cX0_explain 11 none 2 [.ref h0, .ref h1, .ref h2, .int p3] H0 (QV X Γ (fun H1 => Kp X Γ [0, 2, 3, 4, 18, 21, 23, 25, 27] H0 H1 ∧ ((MoS X H1 h0 (wA (nuN X H0 h1) (nuN X H0 h2) ((a3 - 1 : Int).toNat)) (wF (nuN X H0 h1) (nuN X H0 h2) ((a3 - 1 : Int).toNat)) (wG (nuN X H0 h1) (nuN X H0 h2) ((a3 - 1 : Int).toNat)) (wN (nuN X H0 h1) (nuN X H0 h2) ((a3 - 1 : Int).toNat)))))) := by
  refine q_enterV (own := "SnowForts$Mornings") (by decide) rfl (Nat.le_of_ble_eq_true rfl) ?_
  intro p e s m args below meth c ls Qz E hl ret hS0
  have hx := E.1; have hb := E.2.1
  have hKp0 : Kp X Γ [0, 2, 3, 4, 18, 21, 23, 25, 27] H0 H0 := Kp.rf
  have hl : lv_has ls 11 [(0, .ref h0), (1, .ref h1), (2, .ref h2), (3, .int p3)] := hl
  refine lv_aload_n hx hb dX0_explain_0 rfl (lv_at hl 0 rfl) ?_
  refine lv_lconst (v := 1) hx hb dX0_explain_1 rfl ?_
  refine q_put E hC0 hS0 g0 fp_RX0_9 tv_J rfl rfl dX0_explain_2 (fun H21 locs21 hC21 hS21 U21 => ?_)
  have hKp21 := Kp.upO E g0 fp_RX0_9 rfl U21 hKp0
  have m22 : (sI H21 h0 (X.1.2 0 1)).toInt = (sI H0 h0 (X.1.2 0 1)).toInt := congrArg Int32.toInt (up_nI U21 (ne_f E 0 1 0 rfl (by decide) (by decide) (by decide)))
  have m23 : (sI H21 h0 (X.1.2 0 2)).toInt = (sI H0 h0 (X.1.2 0 2)).toInt := congrArg Int32.toInt (up_nI U21 (ne_f E 0 2 0 rfl (by decide) (by decide) (by decide)))
  have m24 : (sI H21 h0 (X.1.2 0 3)).toInt = (sI H0 h0 (X.1.2 0 3)).toInt := congrArg Int32.toInt (up_nI U21 (ne_f E 0 3 0 rfl (by decide) (by decide) (by decide)))
  have hrow : (sJ H21 h0 (X.1.2 0 0)).toInt = 1 := (congrArg Int64.toInt (up_J U21)).trans (by decide)
  refine lv_aload_n hx hb dX0_explain_5 rfl (lv_at hl 0 rfl) ?_
  refine lv_iconst (v := 0) hx hb dX0_explain_6 rfl ?_
  refine q_put E hC21 hS21 g0 fp_RX0_15 tv_F rfl rfl dX0_explain_7 (fun H25 locs25 hC25 hS25 U25 => ?_)
  have hKp25 := Kp.upO E g0 fp_RX0_15 rfl U25 hKp21
  have e26 := up_I U25
  have m27 : (sI H25 h0 (X.1.2 0 1)).toInt = 0 := (congrArg Int32.toInt e26).trans (show (0 : Int32).toInt = 0 from by decide)
  have hrow : (sJ H25 h0 (X.1.2 0 0)).toInt = 1 := (congrArg Int64.toInt (up_nJ U25 (ne_f E 0 0 1 rfl (by decide) (by decide) (by decide)))).trans hrow
  have m28 : (sI H25 h0 (X.1.2 0 2)).toInt = (sI H21 h0 (X.1.2 0 2)).toInt := congrArg Int32.toInt (up_nI U25 (ne_f E 0 2 1 rfl (by decide) (by decide) (by decide)))
  have m29 : (sI H25 h0 (X.1.2 0 3)).toInt = (sI H21 h0 (X.1.2 0 3)).toInt := congrArg Int32.toInt (up_nI U25 (ne_f E 0 3 1 rfl (by decide) (by decide) (by decide)))
  refine lv_aload_n hx hb dX0_explain_10 rfl (lv_at hl 0 rfl) ?_
  refine lv_iconst (v := 0) hx hb dX0_explain_11 rfl ?_
  refine q_put E hC25 hS25 g0 fp_RX0_19 tv_F rfl rfl dX0_explain_12 (fun H30 locs30 hC30 hS30 U30 => ?_)
  have hKp30 := Kp.upO E g0 fp_RX0_19 rfl U30 hKp25
  have e31 := up_I U30
  have m32 : (sI H30 h0 (X.1.2 0 2)).toInt = 0 := (congrArg Int32.toInt e31).trans (show (0 : Int32).toInt = 0 from by decide)
  have hrow : (sJ H30 h0 (X.1.2 0 0)).toInt = 1 := (congrArg Int64.toInt (up_nJ U30 (ne_f E 0 0 2 rfl (by decide) (by decide) (by decide)))).trans hrow
  have m33 : (sI H30 h0 (X.1.2 0 1)).toInt = (sI H25 h0 (X.1.2 0 1)).toInt := congrArg Int32.toInt (up_nI U30 (ne_f E 0 1 2 rfl (by decide) (by decide) (by decide)))
  have m34 : (sI H30 h0 (X.1.2 0 3)).toInt = (sI H25 h0 (X.1.2 0 3)).toInt := congrArg Int32.toInt (up_nI U30 (ne_f E 0 3 2 rfl (by decide) (by decide) (by decide)))
  refine lv_aload_n hx hb dX0_explain_15 rfl (lv_at hl 0 rfl) ?_
  refine lv_iconst (v := 0) hx hb dX0_explain_16 rfl ?_
  refine q_put E hC30 hS30 g0 fp_RX0_22 tv_F rfl rfl dX0_explain_17 (fun H35 locs35 hC35 hS35 U35 => ?_)
  have hKp35 := Kp.upO E g0 fp_RX0_22 rfl U35 hKp30
  have e36 := up_I U35
  have m37 : (sI H35 h0 (X.1.2 0 3)).toInt = 0 := (congrArg Int32.toInt e36).trans (show (0 : Int32).toInt = 0 from by decide)
  have hrow : (sJ H35 h0 (X.1.2 0 0)).toInt = 1 := (congrArg Int64.toInt (up_nJ U35 (ne_f E 0 0 3 rfl (by decide) (by decide) (by decide)))).trans hrow
  have m38 : (sI H35 h0 (X.1.2 0 1)).toInt = (sI H30 h0 (X.1.2 0 1)).toInt := congrArg Int32.toInt (up_nI U35 (ne_f E 0 1 3 rfl (by decide) (by decide) (by decide)))
  have m39 : (sI H35 h0 (X.1.2 0 2)).toInt = (sI H30 h0 (X.1.2 0 2)).toInt := congrArg Int32.toInt (up_nI U35 (ne_f E 0 2 3 rfl (by decide) (by decide) (by decide)))
  refine lv_iconst (v := (-1)) hx hb dX0_explain_20 rfl ?_
  refine lv_istore hx hb dX0_explain_21 hl (by decide) rfl (fun ls hl => ?_)
  have hl : lv_has ls 11 [(4, .int (-1)), (0, .ref h0), (1, .ref h1), (2, .ref h2), (3, .int p3)] := hl
  refine lv_iconst (v := 0) hx hb dX0_explain_23 rfl ?_
  refine lv_istore hx hb dX0_explain_24 hl (by decide) rfl (fun ls hl => ?_)
  have hl : lv_has ls 11 [(5, .int 0), (4, .int (-1)), (0, .ref h0), (1, .ref h1), (2, .ref h2), (3, .int p3)] := hl
  have L26 : ∀ (n42 : Nat) (H42 : Heap) (locs42 : List Loc) (v40 : Int32) (z40 : Int) (v41 : Int32) (z41 : Int) (ls : Array Slot), (a3 - 1 - z40).toNat < n42 → v40.toInt = z40 → v41.toInt = z41 → 0 ≤ z40 → 0 ≤ z40 → z40 ≤ a3 - 1 → -1 ≤ z41 → z41 ≤ 9 → (sJ H42 h0 (X.1.2 0 0)).toInt = wA (nuN X H0 h1) (nuN X H0 h2) ((z40 : Int).toNat) → (sI H42 h0 (X.1.2 0 1)).toInt = wF (nuN X H0 h1) (nuN X H0 h2) ((z40 : Int).toNat) → (sI H42 h0 (X.1.2 0 2)).toInt = wG (nuN X H0 h1) (nuN X H0 h2) ((z40 : Int).toNat) → (sI H42 h0 (X.1.2 0 3)).toInt = wN (nuN X H0 h1) (nuN X H0 h2) ((z40 : Int).toNat) → z41 = wM (nuN X H0 h1) (nuN X H0 h2) ((z40 : Int).toNat) → Conf X Γ H42 → va_S (AΓ Γ) H0 H42 locs42 → Kp X Γ [0, 2, 3, 4, 18, 21, 23, 25, 27] H0 H42 → lv_has ls 11 [(5, .int v40), (4, .int v41), (0, .ref h0), (1, .ref h1), (2, .ref h2), (3, .int p3)] → W p l e (rmL 2) s m args below meth c H42 locs42 0 0 Qz (F0 m 26 ls []) := by
    intro n42
    induction n42 with
    | zero => intro H42 locs42 v40 z40 v41 z41 ls hm42 ev40 ev41 iv42_0 iv42_1 iv42_2 iv42_3 iv42_4 iv42_5 iv42_6 iv42_7 iv42_8 iv42_9 hC42 hS42 hKp42 hl; exact absurd hm42 (Nat.not_lt_zero _)
    | succ n42 ih42 =>
      intro H42 locs42 v40 z40 v41 z41 ls hm42 ev40 ev41 iv42_0 iv42_1 iv42_2 iv42_3 iv42_4 iv42_5 iv42_6 iv42_7 iv42_8 iv42_9 hC42 hS42 hKp42 hl
      have hrow := iv42_5
      have hrg := wFG_rng (h := (nuN X H0 h1)) (t := (nuN X H0 h2)) ((z40 : Int).toNat)
      refine lv_iload hx hb dX0_explain_26 (lv_at hl 0 rfl) ?_
      refine lv_iload_n hx hb dX0_explain_28 rfl (lv_at hl 5 rfl) ?_
      refine lv_iconst (v := 1) hx hb dX0_explain_29 rfl ?_
      refine lv_isub hx hb dX0_explain_30 (lv_topi (fun v43 ev43 => ?_))
      have ev43i : v43.toInt = (a3 - 1) := i_sub ev43 e3 (by decide) (by omega) (by omega)
      refine q_icmp_ge hx hb (a := z40) (b := (a3 - 1)) ev40 ev43i (tgt := 171) dX0_explain_31 rfl (fun c44 => ?_) (fun c44 => ?_)
      · have hkn : (a3 - 1 : Int).toNat = (z40 : Int).toNat := by omega
        have hmos : MoS X H42 h0 (wA (nuN X H0 h1) (nuN X H0 h2) ((a3 - 1 : Int).toNat)) (wF (nuN X H0 h1) (nuN X H0 h2) ((a3 - 1 : Int).toNat)) (wG (nuN X H0 h1) (nuN X H0 h2) ((a3 - 1 : Int).toNat)) (wN (nuN X H0 h1) (nuN X H0 h2) ((a3 - 1 : Int).toNat)) := by rw [hkn]; exact ⟨hrow, fun _ => ⟨by omega, by omega, by omega⟩⟩
        exact ret H42 locs42 _ _ dX0_explain_171 ⟨hKp42, hmos⟩ hC42 hS42
      · refine lv_aload_n hx hb dX0_explain_34 rfl (lv_at hl 3 rfl) ?_
        refine lv_iload hx hb dX0_explain_35 (lv_at hl 0 rfl) ?_
        refine q_goJp (q_runV (As := [.int v40]) (rest := []) E hC42 hS42 (m_X6_numberAt l X Γ H42 hC42 h1 g1 v40 (a1 := z40) ev40) cw_X6_numberAt cl_RX0_25 g1 ⟨rfl, rfl⟩ rfl hl.1 rfl (Nat.zero_le _) (by decide) dX0_explain_37) hS42 (fun v45 locs45 hr45 hS45 => ?_)
        have f45_0 := hr45
        have hx6 := nu_at hC0 hKp42 g1 rfl rfl rfl f45_0 (by omega) (by have := (r2 (z40 : Int).toNat (by omega)).1; omega)
        have hr6 := (r2 (z40 : Int).toNat (by omega)).2
        refine lv_l2i hx hb dX0_explain_40 rfl (lv_topi (fun v46 ev46 => ?_))
        have ev46i : v46.toInt = v45.toInt := l_toi ev46 rfl (by omega) (by omega)
        refine lv_istore hx hb dX0_explain_41 hl (by decide) rfl (fun ls hl => ?_)
        have hl : lv_has ls 11 [(6, .int v46), (5, .int v40), (4, .int v41), (0, .ref h0), (1, .ref h1), (2, .ref h2), (3, .int p3)] := hl
        refine lv_aload_n hx hb dX0_explain_43 rfl (lv_at hl 4 rfl) ?_
        refine lv_iload hx hb dX0_explain_44 (lv_at hl 1 rfl) ?_
        refine lv_iconst (v := 1) hx hb dX0_explain_46 rfl ?_
        refine lv_iadd hx hb dX0_explain_47 (lv_topi (fun v47 ev47 => ?_))
        have ev47i : v47.toInt = (z40 + 1) := i_add ev47 ev40 (by decide) (by omega) (by omega)
        refine q_goJp (q_runV (As := [.int v47]) (rest := []) E hC42 hS45 (m_X6_numberAt l X Γ H42 hC42 h1 g1 v47 (a1 := (z40 + 1)) ev47i) cw_X6_numberAt cl_RX0_25 g1 ⟨rfl, rfl⟩ rfl hl.1 rfl (Nat.zero_le _) (by decide) dX0_explain_48) hS45 (fun v48 locs48 hr48 hS48 => ?_)
        have f48_0 := hr48
        have hx7a := nu_at hC0 hKp42 g1 rfl rfl rfl f48_0 (by omega) (by have := (r2 (z40 + 1 : Int).toNat (by omega)).1; omega)
        have hx7 : v48.toInt = nuN X H0 h1 ((z40 : Int).toNat + 1) := by rw [show (z40 : Int).toNat + 1 = (z40 + 1 : Int).toNat from by omega]; exact hx7a
        have hr7 := (r2 ((z40 : Int).toNat + 1) (by omega)).2
        refine lv_l2i hx hb dX0_explain_51 rfl (lv_topi (fun v49 ev49 => ?_))
        have ev49i : v49.toInt = v48.toInt := l_toi ev49 rfl (by omega) (by omega)
        refine lv_istore hx hb dX0_explain_52 hl (by decide) rfl (fun ls hl => ?_)
        have hl : lv_has ls 11 [(7, .int v49), (6, .int v46), (5, .int v40), (4, .int v41), (0, .ref h0), (1, .ref h1), (2, .ref h2), (3, .int p3)] := hl
        refine lv_iload hx hb dX0_explain_54 (lv_at hl 0 rfl) ?_
        refine lv_aload_n hx hb dX0_explain_56 rfl (lv_at hl 6 rfl) ?_
        refine lv_iload hx hb dX0_explain_57 (lv_at hl 2 rfl) ?_
        refine q_goJp (q_runV (As := [.int v40]) (rest := [.int v49]) E hC42 hS48 (m_X6_numberAt l X Γ H42 hC42 h2 g2 v40 (a1 := z40) ev40) cw_X6_numberAt cl_RX0_25 g2 ⟨rfl, rfl⟩ rfl hl.1 rfl (show _ ≤ _ from by simp [Value.category]) (by decide) dX0_explain_59) hS48 (fun v50 locs50 hr50 hS50 => ?_)
        have f50_0 := hr50
        have hx8 := nu_at hC0 hKp42 g2 rfl rfl rfl f50_0 (by omega) (by have := (r3 (z40 : Int).toNat (by omega)).1; omega)
        have hr8 := (r3 (z40 : Int).toNat (by omega)).2
        refine lv_l2i hx hb dX0_explain_62 rfl (lv_topi (fun v51 ev51 => ?_))
        have ev51i : v51.toInt = v50.toInt := l_toi ev51 rfl (by omega) (by omega)
        refine lv_iadd hx hb dX0_explain_63 (lv_topi (fun v52 ev52 => ?_))
        have ev52i : v52.toInt = (v48.toInt + v50.toInt) := i_add ev52 ev49i ev51i (by omega) (by omega)
        refine lv_iload hx hb dX0_explain_64 (lv_at hl 1 rfl) ?_
        refine lv_isub hx hb dX0_explain_66 (lv_topi (fun v53 ev53 => ?_))
        have ev53i : v53.toInt = ((v48.toInt + v50.toInt) - v45.toInt) := i_sub ev53 ev52i ev46i (by omega) (by omega)
        refine lv_istore hx hb dX0_explain_67 hl (by decide) rfl (fun ls hl => ?_)
        have hl : lv_has ls 11 [(8, .int v53), (7, .int v49), (6, .int v46), (5, .int v40), (4, .int v41), (0, .ref h0), (1, .ref h1), (2, .ref h2), (3, .int p3)] := hl
        have hwe : ((v48.toInt + v50.toInt) - v45.toInt) = wE (nuN X H0 h1) (nuN X H0 h2) ((z40 : Int).toNat) := by unfold wE; omega
        refine lv_iload hx hb dX0_explain_69 (lv_at hl 1 rfl) ?_
        refine q_if_ne hx hb (a := v48.toInt) ev49i (tgt := 78) dX0_explain_71 rfl (fun c54 => ?_) (fun c54 => ?_)
        · refine lv_iload hx hb dX0_explain_78 (lv_at hl 0 rfl) ?_
          refine lv_istore hx hb dX0_explain_80 hl (by decide) rfl (fun ls hl => ?_)
          have hl : lv_has ls 11 [(9, .int v53), (8, .int v53), (7, .int v49), (6, .int v46), (5, .int v40), (4, .int v41), (0, .ref h0), (1, .ref h1), (2, .ref h2), (3, .int p3)] := hl
          have hwl : ((v48.toInt + v50.toInt) - v45.toInt) = wL (nuN X H0 h1) (nuN X H0 h2) ((z40 : Int).toNat) := by unfold wL; rw [← hwe]; split <;> omega
          refine lv_iload hx hb dX0_explain_82 (lv_at hl 1 rfl) ?_
          refine lv_bipush (v := 9) hx hb dX0_explain_84 rfl ?_
          refine q_mmin E hl.1 w_1157 mathw_min (a := ((v48.toInt + v50.toInt) - v45.toInt)) (b := 9) ev53i (show (9 : Int32).toInt = 9 from by decide) (by decide) (Nat.zero_le _) dX0_explain_86 (fun v55 mv55a mv55b mv55c => ?_)
          refine lv_istore hx hb dX0_explain_89 hl (by decide) rfl (fun ls hl => ?_)
          have hl : lv_has ls 11 [(10, .int v55), (9, .int v53), (8, .int v53), (7, .int v49), (6, .int v46), (5, .int v40), (4, .int v41), (0, .ref h0), (1, .ref h1), (2, .ref h2), (3, .int p3)] := hl
          have hwh : v55.toInt = wH (nuN X H0 h1) (nuN X H0 h2) ((z40 : Int).toNat) := by unfold wH; rw [← hwe]; split <;> omega
          refine lv_iload hx hb dX0_explain_91 (lv_at hl 1 rfl) ?_
          refine q_if_lt hx hb (a := ((v48.toInt + v50.toInt) - v45.toInt)) ev53i (tgt := 103) dX0_explain_93 rfl (fun c56 => ?_) (fun c56 => ?_)
          · have hz := wA_zero (h := (nuN X H0 h1)) (t := (nuN X H0 h2)) (j := (z40 : Int).toNat) (fun q => by have q1 := q.1; have q2 := q.2; omega) ((a3 - 1 : Int).toNat) (by omega)
            refine lv_aload_n hx hb dX0_explain_103 rfl (lv_at hl 7 rfl) ?_
            refine lv_lconst (v := 0) hx hb dX0_explain_104 rfl ?_
            refine q_put E hC42 hS50 g0 fp_RX0_9 tv_J rfl rfl dX0_explain_105 (fun H57 locs57 hC57 hS57 U57 => ?_)
            have hKp57 := Kp.upO E g0 fp_RX0_9 rfl U57 hKp42
            have m58 : (sI H57 h0 (X.1.2 0 1)).toInt = (sI H42 h0 (X.1.2 0 1)).toInt := congrArg Int32.toInt (up_nI U57 (ne_f E 0 1 0 rfl (by decide) (by decide) (by decide)))
            have m59 : (sI H57 h0 (X.1.2 0 2)).toInt = (sI H42 h0 (X.1.2 0 2)).toInt := congrArg Int32.toInt (up_nI U57 (ne_f E 0 2 0 rfl (by decide) (by decide) (by decide)))
            have m60 : (sI H57 h0 (X.1.2 0 3)).toInt = (sI H42 h0 (X.1.2 0 3)).toInt := congrArg Int32.toInt (up_nI U57 (ne_f E 0 3 0 rfl (by decide) (by decide) (by decide)))
            have hmos : MoS X H57 h0 (wA (nuN X H0 h1) (nuN X H0 h2) ((a3 - 1 : Int).toNat)) (wF (nuN X H0 h1) (nuN X H0 h2) ((a3 - 1 : Int).toNat)) (wG (nuN X H0 h1) (nuN X H0 h2) ((a3 - 1 : Int).toNat)) (wN (nuN X H0 h1) (nuN X H0 h2) ((a3 - 1 : Int).toNat)) := ⟨((congrArg Int64.toInt (up_J U57)).trans (by decide)).trans hz.symm, fun q => absurd hz q⟩
            exact ret H57 locs57 _ _ dX0_explain_108 ⟨hKp57, hmos⟩ hC57 hS57
          · refine lv_iload hx hb dX0_explain_96 (lv_at hl 1 rfl) ?_
            refine lv_iload hx hb dX0_explain_98 (lv_at hl 0 rfl) ?_
            refine q_icmp_le hx hb (a := ((v48.toInt + v50.toInt) - v45.toInt)) (b := v55.toInt) ev53i rfl (tgt := 109) dX0_explain_100 rfl (fun c61 => ?_) (fun c61 => ?_)
            · have hok : wOk (nuN X H0 h1) (nuN X H0 h2) ((z40 : Int).toNat) := ⟨by omega, by omega⟩
              have hwc : wC (nuN X H0 h1) (nuN X H0 h2) ((z40 : Int).toNat) = v55.toInt - ((v48.toInt + v50.toInt) - v45.toInt) + 1 := by unfold wC; rw [if_pos hok]; omega
              have hl0 : wL0 (nuN X H0 h1) (nuN X H0 h2) ((z40 : Int).toNat) = ((v48.toInt + v50.toInt) - v45.toInt) := by unfold wL0; rw [if_pos hok]; omega
              have hh0 : wH0 (nuN X H0 h1) (nuN X H0 h2) ((z40 : Int).toNat) = v55.toInt := by unfold wH0; rw [if_pos hok]; omega
              have hF1 : wF (nuN X H0 h1) (nuN X H0 h2) ((z40 : Int).toNat + 1) = wF (nuN X H0 h1) (nuN X H0 h2) ((z40 : Int).toNat) + wL0 (nuN X H0 h1) (nuN X H0 h2) ((z40 : Int).toNat) := wF_s
              have hG1 : wG (nuN X H0 h1) (nuN X H0 h2) ((z40 : Int).toNat + 1) = wG (nuN X H0 h1) (nuN X H0 h2) ((z40 : Int).toNat) + wH0 (nuN X H0 h1) (nuN X H0 h2) ((z40 : Int).toNat) := wG_s
              refine lv_aload_n hx hb dX0_explain_109 rfl (lv_at hl 7 rfl) ?_
              refine lv_dup hx hb dX0_explain_110 rfl ?_
              refine q_getJ E hC42 g0 fa_RX0_9 dX0_explain_111 (fun v62 ev62 => ?_)
              have hra : v62.toInt = wA (nuN X H0 h1) (nuN X H0 h2) ((z40 : Int).toNat) := by rw [← ev62]; exact hrow
              refine lv_iload hx hb dX0_explain_114 (lv_at hl 0 rfl) ?_
              refine lv_iload hx hb dX0_explain_116 (lv_at hl 1 rfl) ?_
              refine lv_isub hx hb dX0_explain_118 (lv_topi (fun v63 ev63 => ?_))
              have ev63i : v63.toInt = (v55.toInt - ((v48.toInt + v50.toInt) - v45.toInt)) := i_sub ev63 rfl ev53i (by omega) (by omega)
              refine lv_iconst (v := 1) hx hb dX0_explain_119 rfl ?_
              refine lv_iadd hx hb dX0_explain_120 (lv_topi (fun v64 ev64 => ?_))
              have ev64i : v64.toInt = ((v55.toInt - ((v48.toInt + v50.toInt) - v45.toInt)) + 1) := i_add ev64 ev63i (by decide) (by omega) (by omega)
              refine lv_i2l (v := v64.toInt64) hx hb dX0_explain_121 rfl (lv_topl (fun v65 ev65 => ?_))
              have ev65i : v65.toInt = ((v55.toInt - ((v48.toInt + v50.toInt) - v45.toInt)) + 1) := l_ofi ev65.symm ev64i
              refine lv_lmul hx hb dX0_explain_122 (lv_topl (fun v66 ev66 => ?_))
              have hmu := w_mul ev66 hra (ev65i.trans (by omega)) (by omega)
              refine q_put E hC42 hS50 g0 fp_RX0_9 tv_J rfl rfl dX0_explain_123 (fun H67 locs67 hC67 hS67 U67 => ?_)
              have hKp67 := Kp.upO E g0 fp_RX0_9 rfl U67 hKp42
              have m68 : (sI H67 h0 (X.1.2 0 1)).toInt = (sI H42 h0 (X.1.2 0 1)).toInt := congrArg Int32.toInt (up_nI U67 (ne_f E 0 1 0 rfl (by decide) (by decide) (by decide)))
              have m69 : (sI H67 h0 (X.1.2 0 2)).toInt = (sI H42 h0 (X.1.2 0 2)).toInt := congrArg Int32.toInt (up_nI U67 (ne_f E 0 2 0 rfl (by decide) (by decide) (by decide)))
              have m70 : (sI H67 h0 (X.1.2 0 3)).toInt = (sI H42 h0 (X.1.2 0 3)).toInt := congrArg Int32.toInt (up_nI U67 (ne_f E 0 3 0 rfl (by decide) (by decide) (by decide)))
              have hrow2 : (sJ H67 h0 (X.1.2 0 0)).toInt = wA (nuN X H0 h1) (nuN X H0 h2) ((z40 : Int).toNat + 1) := (congrArg Int64.toInt (up_J U67)).trans hmu
              refine lv_aload_n hx hb dX0_explain_126 rfl (lv_at hl 7 rfl) ?_
              refine lv_dup hx hb dX0_explain_127 rfl ?_
              refine q_getI E hC67 g0 fa_RX0_15 dX0_explain_128 (fun v71 ev71 _ _ => ?_)
              have m72 : (sI H67 h0 (X.1.2 0 1)).toInt = v71.toInt := (congrArg Int32.toInt ev71).trans rfl
              refine lv_iload hx hb dX0_explain_131 (lv_at hl 1 rfl) ?_
              refine lv_iadd hx hb dX0_explain_133 (lv_topi (fun v73 ev73 => ?_))
              have ev73i : v73.toInt = (v71.toInt + ((v48.toInt + v50.toInt) - v45.toInt)) := i_add ev73 rfl ev53i (by omega) (by omega)
              refine q_put E hC67 hS67 g0 fp_RX0_15 tv_F rfl rfl dX0_explain_134 (fun H74 locs74 hC74 hS74 U74 => ?_)
              have hKp74 := Kp.upO E g0 fp_RX0_15 rfl U74 hKp67
              have e75 := up_I U74
              have m76 : (sI H74 h0 (X.1.2 0 1)).toInt = (v71.toInt + ((v48.toInt + v50.toInt) - v45.toInt)) := (congrArg Int32.toInt e75).trans ev73i
              have hrow2 : (sJ H74 h0 (X.1.2 0 0)).toInt = wA (nuN X H0 h1) (nuN X H0 h2) ((z40 : Int).toNat + 1) := (congrArg Int64.toInt (up_nJ U74 (ne_f E 0 0 1 rfl (by decide) (by decide) (by decide)))).trans hrow2
              have m77 : (sI H74 h0 (X.1.2 0 2)).toInt = (sI H67 h0 (X.1.2 0 2)).toInt := congrArg Int32.toInt (up_nI U74 (ne_f E 0 2 1 rfl (by decide) (by decide) (by decide)))
              have m78 : (sI H74 h0 (X.1.2 0 3)).toInt = (sI H67 h0 (X.1.2 0 3)).toInt := congrArg Int32.toInt (up_nI U74 (ne_f E 0 3 1 rfl (by decide) (by decide) (by decide)))
              refine lv_aload_n hx hb dX0_explain_137 rfl (lv_at hl 7 rfl) ?_
              refine lv_dup hx hb dX0_explain_138 rfl ?_
              refine q_getI E hC74 g0 fa_RX0_19 dX0_explain_139 (fun v79 ev79 _ _ => ?_)
              have m80 : (sI H74 h0 (X.1.2 0 2)).toInt = v79.toInt := (congrArg Int32.toInt ev79).trans rfl
              refine lv_iload hx hb dX0_explain_142 (lv_at hl 0 rfl) ?_
              refine lv_iadd hx hb dX0_explain_144 (lv_topi (fun v81 ev81 => ?_))
              have ev81i : v81.toInt = (v79.toInt + v55.toInt) := i_add ev81 rfl rfl (by omega) (by omega)
              refine q_put E hC74 hS74 g0 fp_RX0_19 tv_F rfl rfl dX0_explain_145 (fun H82 locs82 hC82 hS82 U82 => ?_)
              have hKp82 := Kp.upO E g0 fp_RX0_19 rfl U82 hKp74
              have e83 := up_I U82
              have m84 : (sI H82 h0 (X.1.2 0 2)).toInt = (v79.toInt + v55.toInt) := (congrArg Int32.toInt e83).trans ev81i
              have hrow2 : (sJ H82 h0 (X.1.2 0 0)).toInt = wA (nuN X H0 h1) (nuN X H0 h2) ((z40 : Int).toNat + 1) := (congrArg Int64.toInt (up_nJ U82 (ne_f E 0 0 2 rfl (by decide) (by decide) (by decide)))).trans hrow2
              have m85 : (sI H82 h0 (X.1.2 0 1)).toInt = (sI H74 h0 (X.1.2 0 1)).toInt := congrArg Int32.toInt (up_nI U82 (ne_f E 0 1 2 rfl (by decide) (by decide) (by decide)))
              have m86 : (sI H82 h0 (X.1.2 0 3)).toInt = (sI H74 h0 (X.1.2 0 3)).toInt := congrArg Int32.toInt (up_nI U82 (ne_f E 0 3 2 rfl (by decide) (by decide) (by decide)))
              refine lv_iload hx hb dX0_explain_148 (lv_at hl 1 rfl) ?_
              refine lv_iload hx hb dX0_explain_150 (lv_at hl 6 rfl) ?_
              refine q_icmp_le hx hb (a := ((v48.toInt + v50.toInt) - v45.toInt)) (b := z41) ev53i ev41 (tgt := 165) dX0_explain_152 rfl (fun c87 => ?_) (fun c87 => ?_)
              · have hMf : z41 = wM (nuN X H0 h1) (nuN X H0 h2) ((z40 : Int).toNat + 1) := by first | (rw [show wM (nuN X H0 h1) (nuN X H0 h2) ((z40 : Int).toNat + 1) = wL0 (nuN X H0 h1) (nuN X H0 h2) ((z40 : Int).toNat) from if_pos (by omega)]; omega) | (rw [show wM (nuN X H0 h1) (nuN X H0 h2) ((z40 : Int).toNat + 1) = wM (nuN X H0 h1) (nuN X H0 h2) ((z40 : Int).toNat) from if_neg (by omega)]; omega)
                have hNf : (sI H82 h0 (X.1.2 0 3)).toInt = wN (nuN X H0 h1) (nuN X H0 h2) ((z40 : Int).toNat + 1) := by first | (rw [wN_p (by omega)]; omega) | (rw [wN_n (by omega)]; omega)
                have hk1 : (z40 + 1 : Int).toNat = (z40 : Int).toNat + 1 := by omega
                obtain ⟨v88, ev88⟩ : ∃ z, z = v40 + Int32.ofInt 1 := ⟨_, rfl⟩
                have ev88i : v88.toInt = (z40 + 1) := i_add ev88 ev40 (by decide) (by omega) (by omega)
                refine lv_iinc hx hb dX0_explain_165 hl (k := 5) rfl ev88.symm (by decide) rfl (fun ls hl => ?_)
                have hl : lv_has ls 11 [(5, .int v88), (10, .int v55), (9, .int v53), (8, .int v53), (7, .int v49), (6, .int v46), (4, .int v41), (0, .ref h0), (1, .ref h1), (2, .ref h2), (3, .int p3)] := hl
                refine lv_goto (tgt := 26) hx hb dX0_explain_168 rfl ?_
                exact ih42 H82 locs82 v88 ((z40 + 1)) v41 (z41) ls (by omega) ev88i ev41 (by omega) (by omega) (by omega) (by omega) (by omega) (by rw [hk1]; exact hrow2) (by rw [hk1]; omega) (by rw [hk1]; omega) (by rw [hk1]; exact hNf) (by rw [hk1]; exact hMf) hC82 hS82 hKp82 (lv_sub hl [0, 6, 7, 8, 9, 10] rfl)
              · refine lv_iload hx hb dX0_explain_155 (lv_at hl 1 rfl) ?_
                refine lv_istore hx hb dX0_explain_157 hl (by decide) rfl (fun ls hl => ?_)
                have hl : lv_has ls 11 [(4, .int v53), (10, .int v55), (9, .int v53), (8, .int v53), (7, .int v49), (6, .int v46), (5, .int v40), (0, .ref h0), (1, .ref h1), (2, .ref h2), (3, .int p3)] := hl
                refine lv_aload_n hx hb dX0_explain_159 rfl (lv_at hl 7 rfl) ?_
                refine lv_iload hx hb dX0_explain_160 (lv_at hl 6 rfl) ?_
                refine q_put E hC82 hS82 g0 fp_RX0_22 tv_F rfl rfl dX0_explain_162 (fun H89 locs89 hC89 hS89 U89 => ?_)
                have hKp89 := Kp.upO E g0 fp_RX0_22 rfl U89 hKp82
                have e90 := up_I U89
                have m91 : (sI H89 h0 (X.1.2 0 3)).toInt = z40 := (congrArg Int32.toInt e90).trans ev40
                have hrow2 : (sJ H89 h0 (X.1.2 0 0)).toInt = wA (nuN X H0 h1) (nuN X H0 h2) ((z40 : Int).toNat + 1) := (congrArg Int64.toInt (up_nJ U89 (ne_f E 0 0 3 rfl (by decide) (by decide) (by decide)))).trans hrow2
                have m92 : (sI H89 h0 (X.1.2 0 1)).toInt = (sI H82 h0 (X.1.2 0 1)).toInt := congrArg Int32.toInt (up_nI U89 (ne_f E 0 1 3 rfl (by decide) (by decide) (by decide)))
                have m93 : (sI H89 h0 (X.1.2 0 2)).toInt = (sI H82 h0 (X.1.2 0 2)).toInt := congrArg Int32.toInt (up_nI U89 (ne_f E 0 2 3 rfl (by decide) (by decide) (by decide)))
                have hMf : ((v48.toInt + v50.toInt) - v45.toInt) = wM (nuN X H0 h1) (nuN X H0 h2) ((z40 : Int).toNat + 1) := by first | (rw [show wM (nuN X H0 h1) (nuN X H0 h2) ((z40 : Int).toNat + 1) = wL0 (nuN X H0 h1) (nuN X H0 h2) ((z40 : Int).toNat) from if_pos (by omega)]; omega) | (rw [show wM (nuN X H0 h1) (nuN X H0 h2) ((z40 : Int).toNat + 1) = wM (nuN X H0 h1) (nuN X H0 h2) ((z40 : Int).toNat) from if_neg (by omega)]; omega)
                have hNf : (sI H89 h0 (X.1.2 0 3)).toInt = wN (nuN X H0 h1) (nuN X H0 h2) ((z40 : Int).toNat + 1) := by first | (rw [wN_p (by omega)]; omega) | (rw [wN_n (by omega)]; omega)
                have hk1 : (z40 + 1 : Int).toNat = (z40 : Int).toNat + 1 := by omega
                obtain ⟨v94, ev94⟩ : ∃ z, z = v40 + Int32.ofInt 1 := ⟨_, rfl⟩
                have ev94i : v94.toInt = (z40 + 1) := i_add ev94 ev40 (by decide) (by omega) (by omega)
                refine lv_iinc hx hb dX0_explain_165 hl (k := 6) rfl ev94.symm (by decide) rfl (fun ls hl => ?_)
                have hl : lv_has ls 11 [(5, .int v94), (4, .int v53), (10, .int v55), (9, .int v53), (8, .int v53), (7, .int v49), (6, .int v46), (0, .ref h0), (1, .ref h1), (2, .ref h2), (3, .int p3)] := hl
                refine lv_goto (tgt := 26) hx hb dX0_explain_168 rfl ?_
                exact ih42 H89 locs89 v94 ((z40 + 1)) v53 (((v48.toInt + v50.toInt) - v45.toInt)) ls (by omega) ev94i ev53i (by omega) (by omega) (by omega) (by omega) (by omega) (by rw [hk1]; exact hrow2) (by rw [hk1]; omega) (by rw [hk1]; omega) (by rw [hk1]; exact hNf) (by rw [hk1]; exact hMf) hC89 hS89 hKp89 (lv_sub hl [0, 1, 7, 8, 9, 10] rfl)
            · have hz := wA_zero (h := (nuN X H0 h1)) (t := (nuN X H0 h2)) (j := (z40 : Int).toNat) (fun q => by have q1 := q.1; have q2 := q.2; omega) ((a3 - 1 : Int).toNat) (by omega)
              refine lv_aload_n hx hb dX0_explain_103 rfl (lv_at hl 7 rfl) ?_
              refine lv_lconst (v := 0) hx hb dX0_explain_104 rfl ?_
              refine q_put E hC42 hS50 g0 fp_RX0_9 tv_J rfl rfl dX0_explain_105 (fun H95 locs95 hC95 hS95 U95 => ?_)
              have hKp95 := Kp.upO E g0 fp_RX0_9 rfl U95 hKp42
              have m96 : (sI H95 h0 (X.1.2 0 1)).toInt = (sI H42 h0 (X.1.2 0 1)).toInt := congrArg Int32.toInt (up_nI U95 (ne_f E 0 1 0 rfl (by decide) (by decide) (by decide)))
              have m97 : (sI H95 h0 (X.1.2 0 2)).toInt = (sI H42 h0 (X.1.2 0 2)).toInt := congrArg Int32.toInt (up_nI U95 (ne_f E 0 2 0 rfl (by decide) (by decide) (by decide)))
              have m98 : (sI H95 h0 (X.1.2 0 3)).toInt = (sI H42 h0 (X.1.2 0 3)).toInt := congrArg Int32.toInt (up_nI U95 (ne_f E 0 3 0 rfl (by decide) (by decide) (by decide)))
              have hmos : MoS X H95 h0 (wA (nuN X H0 h1) (nuN X H0 h2) ((a3 - 1 : Int).toNat)) (wF (nuN X H0 h1) (nuN X H0 h2) ((a3 - 1 : Int).toNat)) (wG (nuN X H0 h1) (nuN X H0 h2) ((a3 - 1 : Int).toNat)) (wN (nuN X H0 h1) (nuN X H0 h2) ((a3 - 1 : Int).toNat)) := ⟨((congrArg Int64.toInt (up_J U95)).trans (by decide)).trans hz.symm, fun q => absurd hz q⟩
              exact ret H95 locs95 _ _ dX0_explain_108 ⟨hKp95, hmos⟩ hC95 hS95
        · refine lv_iconst (v := 0) hx hb dX0_explain_74 rfl ?_
          refine lv_goto (tgt := 80) hx hb dX0_explain_75 rfl ?_
          refine lv_istore hx hb dX0_explain_80 hl (by decide) rfl (fun ls hl => ?_)
          have hl : lv_has ls 11 [(9, .int 0), (8, .int v53), (7, .int v49), (6, .int v46), (5, .int v40), (4, .int v41), (0, .ref h0), (1, .ref h1), (2, .ref h2), (3, .int p3)] := hl
          have hwl : 0 = wL (nuN X H0 h1) (nuN X H0 h2) ((z40 : Int).toNat) := by unfold wL; rw [← hwe]; split <;> omega
          refine lv_iload hx hb dX0_explain_82 (lv_at hl 1 rfl) ?_
          refine lv_bipush (v := 9) hx hb dX0_explain_84 rfl ?_
          refine q_mmin E hl.1 w_1157 mathw_min (a := ((v48.toInt + v50.toInt) - v45.toInt)) (b := 9) ev53i (show (9 : Int32).toInt = 9 from by decide) (by decide) (Nat.zero_le _) dX0_explain_86 (fun v99 mv99a mv99b mv99c => ?_)
          refine lv_istore hx hb dX0_explain_89 hl (by decide) rfl (fun ls hl => ?_)
          have hl : lv_has ls 11 [(10, .int v99), (9, .int 0), (8, .int v53), (7, .int v49), (6, .int v46), (5, .int v40), (4, .int v41), (0, .ref h0), (1, .ref h1), (2, .ref h2), (3, .int p3)] := hl
          have hwh : v99.toInt = wH (nuN X H0 h1) (nuN X H0 h2) ((z40 : Int).toNat) := by unfold wH; rw [← hwe]; split <;> omega
          refine lv_iload hx hb dX0_explain_91 (lv_at hl 1 rfl) ?_
          refine q_if_lt hx hb (a := 0) (by decide) (tgt := 103) dX0_explain_93 rfl (fun c100 => absurd c100 (by omega)) (fun c100 => ?_)
          refine lv_iload hx hb dX0_explain_96 (lv_at hl 1 rfl) ?_
          refine lv_iload hx hb dX0_explain_98 (lv_at hl 0 rfl) ?_
          refine q_icmp_le hx hb (a := 0) (b := v99.toInt) (by decide) rfl (tgt := 109) dX0_explain_100 rfl (fun c101 => ?_) (fun c101 => ?_)
          · have hok : wOk (nuN X H0 h1) (nuN X H0 h2) ((z40 : Int).toNat) := ⟨by omega, by omega⟩
            have hwc : wC (nuN X H0 h1) (nuN X H0 h2) ((z40 : Int).toNat) = v99.toInt - 0 + 1 := by unfold wC; rw [if_pos hok]; omega
            have hl0 : wL0 (nuN X H0 h1) (nuN X H0 h2) ((z40 : Int).toNat) = 0 := by unfold wL0; rw [if_pos hok]; omega
            have hh0 : wH0 (nuN X H0 h1) (nuN X H0 h2) ((z40 : Int).toNat) = v99.toInt := by unfold wH0; rw [if_pos hok]; omega
            have hF1 : wF (nuN X H0 h1) (nuN X H0 h2) ((z40 : Int).toNat + 1) = wF (nuN X H0 h1) (nuN X H0 h2) ((z40 : Int).toNat) + wL0 (nuN X H0 h1) (nuN X H0 h2) ((z40 : Int).toNat) := wF_s
            have hG1 : wG (nuN X H0 h1) (nuN X H0 h2) ((z40 : Int).toNat + 1) = wG (nuN X H0 h1) (nuN X H0 h2) ((z40 : Int).toNat) + wH0 (nuN X H0 h1) (nuN X H0 h2) ((z40 : Int).toNat) := wG_s
            refine lv_aload_n hx hb dX0_explain_109 rfl (lv_at hl 7 rfl) ?_
            refine lv_dup hx hb dX0_explain_110 rfl ?_
            refine q_getJ E hC42 g0 fa_RX0_9 dX0_explain_111 (fun v102 ev102 => ?_)
            have hra : v102.toInt = wA (nuN X H0 h1) (nuN X H0 h2) ((z40 : Int).toNat) := by rw [← ev102]; exact hrow
            refine lv_iload hx hb dX0_explain_114 (lv_at hl 0 rfl) ?_
            refine lv_iload hx hb dX0_explain_116 (lv_at hl 1 rfl) ?_
            refine lv_isub hx hb dX0_explain_118 (lv_topi (fun v103 ev103 => ?_))
            have ev103i : v103.toInt = (v99.toInt - 0) := i_sub ev103 rfl (by decide) (by omega) (by omega)
            refine lv_iconst (v := 1) hx hb dX0_explain_119 rfl ?_
            refine lv_iadd hx hb dX0_explain_120 (lv_topi (fun v104 ev104 => ?_))
            have ev104i : v104.toInt = ((v99.toInt - 0) + 1) := i_add ev104 ev103i (by decide) (by omega) (by omega)
            refine lv_i2l (v := v104.toInt64) hx hb dX0_explain_121 rfl (lv_topl (fun v105 ev105 => ?_))
            have ev105i : v105.toInt = ((v99.toInt - 0) + 1) := l_ofi ev105.symm ev104i
            refine lv_lmul hx hb dX0_explain_122 (lv_topl (fun v106 ev106 => ?_))
            have hmu := w_mul ev106 hra (ev105i.trans (by omega)) (by omega)
            refine q_put E hC42 hS50 g0 fp_RX0_9 tv_J rfl rfl dX0_explain_123 (fun H107 locs107 hC107 hS107 U107 => ?_)
            have hKp107 := Kp.upO E g0 fp_RX0_9 rfl U107 hKp42
            have m108 : (sI H107 h0 (X.1.2 0 1)).toInt = (sI H42 h0 (X.1.2 0 1)).toInt := congrArg Int32.toInt (up_nI U107 (ne_f E 0 1 0 rfl (by decide) (by decide) (by decide)))
            have m109 : (sI H107 h0 (X.1.2 0 2)).toInt = (sI H42 h0 (X.1.2 0 2)).toInt := congrArg Int32.toInt (up_nI U107 (ne_f E 0 2 0 rfl (by decide) (by decide) (by decide)))
            have m110 : (sI H107 h0 (X.1.2 0 3)).toInt = (sI H42 h0 (X.1.2 0 3)).toInt := congrArg Int32.toInt (up_nI U107 (ne_f E 0 3 0 rfl (by decide) (by decide) (by decide)))
            have hrow2 : (sJ H107 h0 (X.1.2 0 0)).toInt = wA (nuN X H0 h1) (nuN X H0 h2) ((z40 : Int).toNat + 1) := (congrArg Int64.toInt (up_J U107)).trans hmu
            refine lv_aload_n hx hb dX0_explain_126 rfl (lv_at hl 7 rfl) ?_
            refine lv_dup hx hb dX0_explain_127 rfl ?_
            refine q_getI E hC107 g0 fa_RX0_15 dX0_explain_128 (fun v111 ev111 _ _ => ?_)
            have m112 : (sI H107 h0 (X.1.2 0 1)).toInt = v111.toInt := (congrArg Int32.toInt ev111).trans rfl
            refine lv_iload hx hb dX0_explain_131 (lv_at hl 1 rfl) ?_
            refine lv_iadd hx hb dX0_explain_133 (lv_topi (fun v113 ev113 => ?_))
            have ev113i : v113.toInt = (v111.toInt + 0) := i_add ev113 rfl (by decide) (by omega) (by omega)
            refine q_put E hC107 hS107 g0 fp_RX0_15 tv_F rfl rfl dX0_explain_134 (fun H114 locs114 hC114 hS114 U114 => ?_)
            have hKp114 := Kp.upO E g0 fp_RX0_15 rfl U114 hKp107
            have e115 := up_I U114
            have m116 : (sI H114 h0 (X.1.2 0 1)).toInt = (v111.toInt + 0) := (congrArg Int32.toInt e115).trans ev113i
            have hrow2 : (sJ H114 h0 (X.1.2 0 0)).toInt = wA (nuN X H0 h1) (nuN X H0 h2) ((z40 : Int).toNat + 1) := (congrArg Int64.toInt (up_nJ U114 (ne_f E 0 0 1 rfl (by decide) (by decide) (by decide)))).trans hrow2
            have m117 : (sI H114 h0 (X.1.2 0 2)).toInt = (sI H107 h0 (X.1.2 0 2)).toInt := congrArg Int32.toInt (up_nI U114 (ne_f E 0 2 1 rfl (by decide) (by decide) (by decide)))
            have m118 : (sI H114 h0 (X.1.2 0 3)).toInt = (sI H107 h0 (X.1.2 0 3)).toInt := congrArg Int32.toInt (up_nI U114 (ne_f E 0 3 1 rfl (by decide) (by decide) (by decide)))
            refine lv_aload_n hx hb dX0_explain_137 rfl (lv_at hl 7 rfl) ?_
            refine lv_dup hx hb dX0_explain_138 rfl ?_
            refine q_getI E hC114 g0 fa_RX0_19 dX0_explain_139 (fun v119 ev119 _ _ => ?_)
            have m120 : (sI H114 h0 (X.1.2 0 2)).toInt = v119.toInt := (congrArg Int32.toInt ev119).trans rfl
            refine lv_iload hx hb dX0_explain_142 (lv_at hl 0 rfl) ?_
            refine lv_iadd hx hb dX0_explain_144 (lv_topi (fun v121 ev121 => ?_))
            have ev121i : v121.toInt = (v119.toInt + v99.toInt) := i_add ev121 rfl rfl (by omega) (by omega)
            refine q_put E hC114 hS114 g0 fp_RX0_19 tv_F rfl rfl dX0_explain_145 (fun H122 locs122 hC122 hS122 U122 => ?_)
            have hKp122 := Kp.upO E g0 fp_RX0_19 rfl U122 hKp114
            have e123 := up_I U122
            have m124 : (sI H122 h0 (X.1.2 0 2)).toInt = (v119.toInt + v99.toInt) := (congrArg Int32.toInt e123).trans ev121i
            have hrow2 : (sJ H122 h0 (X.1.2 0 0)).toInt = wA (nuN X H0 h1) (nuN X H0 h2) ((z40 : Int).toNat + 1) := (congrArg Int64.toInt (up_nJ U122 (ne_f E 0 0 2 rfl (by decide) (by decide) (by decide)))).trans hrow2
            have m125 : (sI H122 h0 (X.1.2 0 1)).toInt = (sI H114 h0 (X.1.2 0 1)).toInt := congrArg Int32.toInt (up_nI U122 (ne_f E 0 1 2 rfl (by decide) (by decide) (by decide)))
            have m126 : (sI H122 h0 (X.1.2 0 3)).toInt = (sI H114 h0 (X.1.2 0 3)).toInt := congrArg Int32.toInt (up_nI U122 (ne_f E 0 3 2 rfl (by decide) (by decide) (by decide)))
            refine lv_iload hx hb dX0_explain_148 (lv_at hl 1 rfl) ?_
            refine lv_iload hx hb dX0_explain_150 (lv_at hl 6 rfl) ?_
            refine q_icmp_le hx hb (a := 0) (b := z41) (by decide) ev41 (tgt := 165) dX0_explain_152 rfl (fun c127 => ?_) (fun c127 => ?_)
            · have hMf : z41 = wM (nuN X H0 h1) (nuN X H0 h2) ((z40 : Int).toNat + 1) := by first | (rw [show wM (nuN X H0 h1) (nuN X H0 h2) ((z40 : Int).toNat + 1) = wL0 (nuN X H0 h1) (nuN X H0 h2) ((z40 : Int).toNat) from if_pos (by omega)]; omega) | (rw [show wM (nuN X H0 h1) (nuN X H0 h2) ((z40 : Int).toNat + 1) = wM (nuN X H0 h1) (nuN X H0 h2) ((z40 : Int).toNat) from if_neg (by omega)]; omega)
              have hNf : (sI H122 h0 (X.1.2 0 3)).toInt = wN (nuN X H0 h1) (nuN X H0 h2) ((z40 : Int).toNat + 1) := by first | (rw [wN_p (by omega)]; omega) | (rw [wN_n (by omega)]; omega)
              have hk1 : (z40 + 1 : Int).toNat = (z40 : Int).toNat + 1 := by omega
              obtain ⟨v128, ev128⟩ : ∃ z, z = v40 + Int32.ofInt 1 := ⟨_, rfl⟩
              have ev128i : v128.toInt = (z40 + 1) := i_add ev128 ev40 (by decide) (by omega) (by omega)
              refine lv_iinc hx hb dX0_explain_165 hl (k := 5) rfl ev128.symm (by decide) rfl (fun ls hl => ?_)
              have hl : lv_has ls 11 [(5, .int v128), (10, .int v99), (9, .int 0), (8, .int v53), (7, .int v49), (6, .int v46), (4, .int v41), (0, .ref h0), (1, .ref h1), (2, .ref h2), (3, .int p3)] := hl
              refine lv_goto (tgt := 26) hx hb dX0_explain_168 rfl ?_
              exact ih42 H122 locs122 v128 ((z40 + 1)) v41 (z41) ls (by omega) ev128i ev41 (by omega) (by omega) (by omega) (by omega) (by omega) (by rw [hk1]; exact hrow2) (by rw [hk1]; omega) (by rw [hk1]; omega) (by rw [hk1]; exact hNf) (by rw [hk1]; exact hMf) hC122 hS122 hKp122 (lv_sub hl [0, 6, 7, 8, 9, 10] rfl)
            · refine lv_iload hx hb dX0_explain_155 (lv_at hl 1 rfl) ?_
              refine lv_istore hx hb dX0_explain_157 hl (by decide) rfl (fun ls hl => ?_)
              have hl : lv_has ls 11 [(4, .int 0), (10, .int v99), (9, .int 0), (8, .int v53), (7, .int v49), (6, .int v46), (5, .int v40), (0, .ref h0), (1, .ref h1), (2, .ref h2), (3, .int p3)] := hl
              refine lv_aload_n hx hb dX0_explain_159 rfl (lv_at hl 7 rfl) ?_
              refine lv_iload hx hb dX0_explain_160 (lv_at hl 6 rfl) ?_
              refine q_put E hC122 hS122 g0 fp_RX0_22 tv_F rfl rfl dX0_explain_162 (fun H129 locs129 hC129 hS129 U129 => ?_)
              have hKp129 := Kp.upO E g0 fp_RX0_22 rfl U129 hKp122
              have e130 := up_I U129
              have m131 : (sI H129 h0 (X.1.2 0 3)).toInt = z40 := (congrArg Int32.toInt e130).trans ev40
              have hrow2 : (sJ H129 h0 (X.1.2 0 0)).toInt = wA (nuN X H0 h1) (nuN X H0 h2) ((z40 : Int).toNat + 1) := (congrArg Int64.toInt (up_nJ U129 (ne_f E 0 0 3 rfl (by decide) (by decide) (by decide)))).trans hrow2
              have m132 : (sI H129 h0 (X.1.2 0 1)).toInt = (sI H122 h0 (X.1.2 0 1)).toInt := congrArg Int32.toInt (up_nI U129 (ne_f E 0 1 3 rfl (by decide) (by decide) (by decide)))
              have m133 : (sI H129 h0 (X.1.2 0 2)).toInt = (sI H122 h0 (X.1.2 0 2)).toInt := congrArg Int32.toInt (up_nI U129 (ne_f E 0 2 3 rfl (by decide) (by decide) (by decide)))
              have hMf : 0 = wM (nuN X H0 h1) (nuN X H0 h2) ((z40 : Int).toNat + 1) := by first | (rw [show wM (nuN X H0 h1) (nuN X H0 h2) ((z40 : Int).toNat + 1) = wL0 (nuN X H0 h1) (nuN X H0 h2) ((z40 : Int).toNat) from if_pos (by omega)]; omega) | (rw [show wM (nuN X H0 h1) (nuN X H0 h2) ((z40 : Int).toNat + 1) = wM (nuN X H0 h1) (nuN X H0 h2) ((z40 : Int).toNat) from if_neg (by omega)]; omega)
              have hNf : (sI H129 h0 (X.1.2 0 3)).toInt = wN (nuN X H0 h1) (nuN X H0 h2) ((z40 : Int).toNat + 1) := by first | (rw [wN_p (by omega)]; omega) | (rw [wN_n (by omega)]; omega)
              have hk1 : (z40 + 1 : Int).toNat = (z40 : Int).toNat + 1 := by omega
              obtain ⟨v134, ev134⟩ : ∃ z, z = v40 + Int32.ofInt 1 := ⟨_, rfl⟩
              have ev134i : v134.toInt = (z40 + 1) := i_add ev134 ev40 (by decide) (by omega) (by omega)
              refine lv_iinc hx hb dX0_explain_165 hl (k := 6) rfl ev134.symm (by decide) rfl (fun ls hl => ?_)
              have hl : lv_has ls 11 [(5, .int v134), (4, .int 0), (10, .int v99), (9, .int 0), (8, .int v53), (7, .int v49), (6, .int v46), (0, .ref h0), (1, .ref h1), (2, .ref h2), (3, .int p3)] := hl
              refine lv_goto (tgt := 26) hx hb dX0_explain_168 rfl ?_
              exact ih42 H129 locs129 v134 ((z40 + 1)) 0 (0) ls (by omega) ev134i (by decide) (by omega) (by omega) (by omega) (by omega) (by omega) (by rw [hk1]; exact hrow2) (by rw [hk1]; omega) (by rw [hk1]; omega) (by rw [hk1]; exact hNf) (by rw [hk1]; exact hMf) hC129 hS129 hKp129 (lv_sub hl [0, 1, 7, 8, 9, 10] rfl)
          · have hz := wA_zero (h := (nuN X H0 h1)) (t := (nuN X H0 h2)) (j := (z40 : Int).toNat) (fun q => by have q1 := q.1; have q2 := q.2; omega) ((a3 - 1 : Int).toNat) (by omega)
            refine lv_aload_n hx hb dX0_explain_103 rfl (lv_at hl 7 rfl) ?_
            refine lv_lconst (v := 0) hx hb dX0_explain_104 rfl ?_
            refine q_put E hC42 hS50 g0 fp_RX0_9 tv_J rfl rfl dX0_explain_105 (fun H135 locs135 hC135 hS135 U135 => ?_)
            have hKp135 := Kp.upO E g0 fp_RX0_9 rfl U135 hKp42
            have m136 : (sI H135 h0 (X.1.2 0 1)).toInt = (sI H42 h0 (X.1.2 0 1)).toInt := congrArg Int32.toInt (up_nI U135 (ne_f E 0 1 0 rfl (by decide) (by decide) (by decide)))
            have m137 : (sI H135 h0 (X.1.2 0 2)).toInt = (sI H42 h0 (X.1.2 0 2)).toInt := congrArg Int32.toInt (up_nI U135 (ne_f E 0 2 0 rfl (by decide) (by decide) (by decide)))
            have m138 : (sI H135 h0 (X.1.2 0 3)).toInt = (sI H42 h0 (X.1.2 0 3)).toInt := congrArg Int32.toInt (up_nI U135 (ne_f E 0 3 0 rfl (by decide) (by decide) (by decide)))
            have hmos : MoS X H135 h0 (wA (nuN X H0 h1) (nuN X H0 h2) ((a3 - 1 : Int).toNat)) (wF (nuN X H0 h1) (nuN X H0 h2) ((a3 - 1 : Int).toNat)) (wG (nuN X H0 h1) (nuN X H0 h2) ((a3 - 1 : Int).toNat)) (wN (nuN X H0 h1) (nuN X H0 h2) ((a3 - 1 : Int).toNat)) := ⟨((congrArg Int64.toInt (up_J U135)).trans (by decide)).trans hz.symm, fun q => absurd hz q⟩
            exact ret H135 locs135 _ _ dX0_explain_108 ⟨hKp135, hmos⟩ hC135 hS135
  exact L26 _ H35 locs35 0 0 (-1) (-1) ls (Nat.lt_succ_self _) (by decide) (by decide) (by omega) (by omega) (by omega) (by omega) (by omega) (by rw [wZ_A]; exact hrow) (by rw [wZ_F]; omega) (by rw [wZ_G]; omega) (by rw [wZ_N]; omega) (wZ_M.symm) hC35 hS35 hKp35 hl
