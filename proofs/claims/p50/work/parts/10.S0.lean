set_option maxRecDepth 100000 in
set_option maxHeartbeats 4000000 in
theorem m_X11_isWithin (l : Launch) (X : xW) (Γ : Nat → Option Nat) (H0 : Heap) (hC0 : Conf X Γ H0) (p0 : Int64) {a0 : Int} (e0 : p0.toInt = a0) (p1 : Int32) {a1 : Int} (e1 : p1.toInt = a1) (p2 : Int32) {a2 : Int} (e2 : p2.toInt = a2) : Ctr l X Γ yX11_isWithin cX11_isWithin 4 (some .boolean) 0 [.long p0, .int p1, .int p2] H0 (QI X Γ (fun v H1 => H1 = H0 ∧ ((v = 1 ∧ (a1 ≤ a0 ∧ a0 ≤ a2)) ∨ (v = 0 ∧ (a0 < a1 ∨ a2 < a0))))) := by
  refine q_enterZ (own := "SnowForts") (by decide) rfl (Nat.le_of_ble_eq_true rfl) ?_
  intro p e s m args below meth c ls Qz E hl ret hS0
  have hx := E.1; have hb := E.2.1
  have hl : lv_has ls 4 [(0, .long p0), (2, .int p1), (3, .int p2)] := hl
  refine lv_lload_n hx hb dX11_isWithin_0 rfl (lv_at hl 0 rfl) ?_
  refine lv_iload_n hx hb dX11_isWithin_1 rfl (lv_at hl 1 rfl) ?_
  refine lv_i2l (v := p1.toInt64) hx hb dX11_isWithin_2 rfl (lv_topl (fun v21 ev21 => ?_))
  have ev21i : v21.toInt = a1 := l_ofi ev21.symm e1
  refine q_lcmp_lt hx hb (a := a0) (b := a1) e0 ev21i (tgt := 18) dX11_isWithin_3 dX11_isWithin_4 rfl (fun c22 => ?_) (fun c22 => ?_)
  · refine lv_iconst (v := 0) hx hb dX11_isWithin_18 rfl ?_
    exact ret 0 H0 [] _ _ dX11_isWithin_19 (Or.inl rfl) ⟨rfl, Or.inr ⟨rfl, by omega⟩⟩ hC0 hS0
  · refine lv_lload_n hx hb dX11_isWithin_7 rfl (lv_at hl 0 rfl) ?_
    refine lv_iload_n hx hb dX11_isWithin_8 rfl (lv_at hl 2 rfl) ?_
    refine lv_i2l (v := p2.toInt64) hx hb dX11_isWithin_9 rfl (lv_topl (fun v23 ev23 => ?_))
    have ev23i : v23.toInt = a2 := l_ofi ev23.symm e2
    refine q_lcmp_gt hx hb (a := a0) (b := a2) e0 ev23i (tgt := 18) dX11_isWithin_10 dX11_isWithin_11 rfl (fun c24 => ?_) (fun c24 => ?_)
    · refine lv_iconst (v := 0) hx hb dX11_isWithin_18 rfl ?_
      exact ret 0 H0 [] _ _ dX11_isWithin_19 (Or.inl rfl) ⟨rfl, Or.inr ⟨rfl, by omega⟩⟩ hC0 hS0
    · refine lv_iconst (v := 1) hx hb dX11_isWithin_14 rfl ?_
      refine lv_goto (tgt := 19) hx hb dX11_isWithin_15 rfl ?_
      exact ret 1 H0 [] _ _ dX11_isWithin_19 (Or.inr rfl) ⟨rfl, Or.inl ⟨rfl, by omega, by omega⟩⟩ hC0 hS0
set_option maxRecDepth 100000 in
set_option maxHeartbeats 4000000 in
theorem m_X11_refuse (l : Launch) (X : xW) (Γ : Nat → Option Nat) (H0 : Heap) (hC0 : Conf X Γ H0) (h0 : Nat) (g0 : Γ h0 = some 0) (p1 : Int32) {a1 : Int} (e1 : p1.toInt = a1) : Ctr l X Γ yX11_refuse cX11_refuse 2 (some .int) 0 [.ref h0, .int p1] H0 (QI X Γ (fun v H1 => Kp X Γ [3, 29, 31, 32, 33, 34, 37, 39, 40, 50, 51, 52, 53, 54, 55, 56, 57, 58, 59, 60, 61, 62, 63, 65, 67, 68, 69, 70, 71] H0 H1 ∧ ((v.toInt = -1)))) := by
  refine q_enterI (own := "SnowForts") (by decide) rfl (Nat.le_of_ble_eq_true rfl) ?_
  intro p e s m args below meth c ls Qz E hl ret hS0
  have hx := E.1; have hb := E.2.1
  have hKp0 : Kp X Γ [3, 29, 31, 32, 33, 34, 37, 39, 40, 50, 51, 52, 53, 54, 55, 56, 57, 58, 59, 60, 61, 62, 63, 65, 67, 68, 69, 70, 71] H0 H0 := Kp.rf
  have hl : lv_has ls 2 [(0, .ref h0), (1, .int p1)] := hl
  refine lv_aload_n hx hb dX11_refuse_0 rfl (lv_at hl 0 rfl) ?_
  refine lv_iload_n hx hb dX11_refuse_1 rfl (lv_at hl 1 rfl) ?_
  refine q_put E hC0 hS0 g0 fp_RX11_102 tv_F rfl rfl dX11_refuse_2 (fun H21 locs21 hC21 hS21 U21 => ?_)
  have hKp21 := Kp.upO E g0 fp_RX11_102 rfl U21 hKp0
  have e22 := up_I U21
  refine lv_iconst (v := (-1)) hx hb dX11_refuse_5 rfl ?_
  have c23 : ((-1) : Int32).toInt = (-1) := (by decide)
  exact ret (-1) H21 locs21 _ _ dX11_refuse_6 ⟨hKp21, by omega⟩ hC21 hS21
set_option maxRecDepth 100000 in
set_option maxHeartbeats 4000000 in
theorem m_X9_allBreaches (l : Launch) (X : xW) (Γ : Nat → Option Nat) (H0 : Heap) (hC0 : Conf X Γ H0) (h0 : Nat) (g0 : Γ h0 = some 5) (sn wl su lw ic kn hd us br ar fi : Nat) (yn : YN X Γ H0 h0 sn wl su lw ic kn hd us br ar fi) : Ctr l X Γ yX9_allBreaches cX9_allBreaches 1 (some .int) 0 [.ref h0] H0 (QI X Γ (fun v H1 => H1 = H0 ∧ ((v = sI H0 br 0 + sI H0 br 1)))) := by
  refine q_enterI (own := "SnowForts$Yard") (by decide) rfl (Nat.le_of_ble_eq_true rfl) ?_
  intro p e s m args below meth c ls Qz E hl ret hS0
  have hx := E.1; have hb := E.2.1
  have hl : lv_has ls 1 [(0, .ref h0)] := hl
  have gsn := yn.sn.2; have gwl := yn.wl.2; have gsu := yn.su.2; have glw := yn.lw.2; have gic := yn.ic.2; have gkn := yn.kn.2; have ghd := yn.hd.2; have gus := yn.us.2; have gbr := yn.br.2; have gar := yn.ar.2; have gfi := yn.fi.2
  refine lv_aload_n hx hb dX9_allBreaches_0 rfl (lv_at hl 0 rfl) ?_
  refine q_getS E hC0 g0 fa_RX9_25 yn.br.1 dX9_allBreaches_1 (fun _ => ?_)
  refine lv_iconst (v := 0) hx hb dX9_allBreaches_4 rfl ?_
  refine q_iald E hC0 gbr rfl rfl (fun _ h => h) (i_in (a := 0) (show (0 : Int32).toInt = 0 from by decide) (by omega) (by omega)) dX9_allBreaches_5 (fun v21 ev21 _ _ => ?_)
  have m22 : aI H0 br (0) = v21.toInt := aI_of (show (0 : Int32).toInt = 0 from by decide) ev21
  have hb0 := ev21
  refine lv_aload_n hx hb dX9_allBreaches_6 rfl (lv_at hl 0 rfl) ?_
  refine q_getS E hC0 g0 fa_RX9_25 yn.br.1 dX9_allBreaches_7 (fun _ => ?_)
  refine lv_iconst (v := 1) hx hb dX9_allBreaches_10 rfl ?_
  refine q_iald E hC0 gbr rfl rfl (fun _ h => h) (i_in (a := 1) (show (1 : Int32).toInt = 1 from by decide) (by omega) (by omega)) dX9_allBreaches_11 (fun v23 ev23 _ _ => ?_)
  have m24 : aI H0 br (1) = v23.toInt := aI_of (show (1 : Int32).toInt = 1 from by decide) ev23
  have hb1 := ev23
  refine lv_iadd hx hb dX9_allBreaches_12 (lv_topi (fun v25 ev25 => ?_))
  have hab : v25 = sI H0 br 0 + sI H0 br 1 := by rw [ev25, ← hb0, ← hb1]; rfl
  have c26 : v25.toInt = v25.toInt := rfl
  exact ret v25 H0 [] _ _ dX9_allBreaches_13 ⟨rfl, hab⟩ hC0 hS0
set_option maxRecDepth 100000 in
set_option maxHeartbeats 4000000 in
theorem m_X9_sumOf_36 (l : Launch) (X : xW) (Γ : Nat → Option Nat) (H0 : Heap) (hC0 : Conf X Γ H0) (h0 : Nat) (g0 : Γ h0 = some 36) : Ctr l X Γ yX9_sumOf cX9_sumOf 6 (some .int) 0 [.ref h0] H0 (QI X Γ (fun v H1 => H1 = H0 ∧ ((v.toInt = SM H0 h0 36) ∧ (0 ≤ v.toInt) ∧ (v.toInt ≤ 3564)))) := by
  refine q_enterI (own := "SnowForts$Yard") (by decide) rfl (Nat.le_of_ble_eq_true rfl) ?_
  intro p e s m args below meth c ls Qz E hl ret hS0
  have hx := E.1; have hb := E.2.1
  have hl : lv_has ls 6 [(0, .ref h0)] := hl
  refine lv_iconst (v := 0) hx hb dX9_sumOf_0 rfl ?_
  refine lv_istore_n hx hb dX9_sumOf_1 rfl hl (by decide) rfl (fun ls hl => ?_)
  replace hl : lv_has ls 6 [(1, .int 0), (0, .ref h0)] := hl
  refine lv_aload_n hx hb dX9_sumOf_2 rfl (lv_at hl 1 rfl) ?_
  refine lv_astore_n hx hb dX9_sumOf_3 rfl hl (by decide) rfl (fun ls hl => ?_)
  replace hl : lv_has ls 6 [(2, .ref h0), (1, .int 0), (0, .ref h0)] := hl
  refine lv_aload_n hx hb dX9_sumOf_4 rfl (lv_at hl 0 rfl) ?_
  refine q_alen E hC0 g0 rfl rfl rfl (v := 36) rfl dX9_sumOf_5 ?_
  refine lv_istore_n hx hb dX9_sumOf_6 rfl hl (by decide) rfl (fun ls hl => ?_)
  replace hl : lv_has ls 6 [(3, .int 36), (2, .ref h0), (1, .int 0), (0, .ref h0)] := hl
  refine lv_iconst (v := 0) hx hb dX9_sumOf_7 rfl ?_
  refine lv_istore hx hb dX9_sumOf_8 hl (by decide) rfl (fun ls hl => ?_)
  replace hl : lv_has ls 6 [(4, .int 0), (3, .int 36), (2, .ref h0), (1, .int 0), (0, .ref h0)] := hl
  have L10 : ∀ (n23 : Nat) (locs23 : List Loc) (v21 : Int32) (z21 : Int) (v22 : Int32) (z22 : Int) (ls : Array Slot), (36 - z21).toNat < n23 → v21.toInt = z21 → v22.toInt = z22 → z21 ≤ 36 → 0 ≤ z21 → z22 = SM H0 h0 (z21).toNat → 0 ≤ z22 → z22 ≤ 99 * z21 → va_S (AΓ Γ) H0 H0 locs23 → lv_has ls 6 [(4, .int v21), (3, .int 36), (2, .ref h0), (1, .int v22), (0, .ref h0)] → W p l e (rmL 0) s m args below meth c H0 locs23 0 0 Qz (F0 m 10 ls []) := by
    intro n23
    induction n23 with
    | zero => intro locs23 v21 z21 v22 z22 ls hm23 ev21 ev22 iv23_0 iv23_1 iv23_2 iv23_3 iv23_4 hS23 hl; exact absurd hm23 (Nat.not_lt_zero _)
    | succ n23 ih23 =>
      intro locs23 v21 z21 v22 z22 ls hm23 ev21 ev22 iv23_0 iv23_1 iv23_2 iv23_3 iv23_4 hS23 hl
      have hs9 := iv23_2
      refine lv_iload hx hb dX9_sumOf_10 (lv_at hl 0 rfl) ?_
      refine lv_iload_n hx hb dX9_sumOf_12 rfl (lv_at hl 1 rfl) ?_
      refine q_icmp_ge hx hb (a := z21) (b := 36) ev21 (by decide) (tgt := 33) dX9_sumOf_13 rfl (fun c24 => ?_) (fun c24 => ?_)
      · refine lv_iload_n hx hb dX9_sumOf_33 rfl (lv_at hl 3 rfl) ?_
        have hz9 : (z21).toNat = 36 := by omega
        rw [hz9] at hs9
        have c25 : v22.toInt = z22 := ev22
        exact ret v22 H0 locs23 _ _ dX9_sumOf_34 ⟨rfl, ⟨by omega, by omega, by omega⟩⟩ hC0 hS23
      · refine lv_aload_n hx hb dX9_sumOf_16 rfl (lv_at hl 2 rfl) ?_
        refine lv_iload hx hb dX9_sumOf_17 (lv_at hl 0 rfl) ?_
        refine q_iald E hC0 g0 rfl rfl (fun _ h => h) (i_in (a := z21) ev21 (by omega) (by omega)) dX9_sumOf_19 (fun v26 ev26 lv26 uv26 => ?_)
        have m27 : aI H0 h0 z21 = v26.toInt := aI_of ev21 ev26
        refine lv_istore hx hb dX9_sumOf_20 hl (by decide) rfl (fun ls hl => ?_)
        replace hl : lv_has ls 6 [(5, .int v26), (4, .int v21), (3, .int 36), (2, .ref h0), (1, .int v22), (0, .ref h0)] := hl
        refine lv_iload_n hx hb dX9_sumOf_22 rfl (lv_at hl 4 rfl) ?_
        refine lv_iload hx hb dX9_sumOf_23 (lv_at hl 0 rfl) ?_
        refine lv_iadd hx hb dX9_sumOf_25 (lv_topi (fun v28 ev28 => ?_))
        have ev28i : v28.toInt = (z22 + v26.toInt) := i_add ev28 ev22 rfl (by omega) (by omega)
        refine lv_istore_n hx hb dX9_sumOf_26 rfl hl (by decide) rfl (fun ls hl => ?_)
        replace hl : lv_has ls 6 [(1, .int v28), (5, .int v26), (4, .int v21), (3, .int 36), (2, .ref h0), (0, .ref h0)] := hl
        obtain ⟨v29, ev29⟩ : ∃ z, z = v21 + Int32.ofInt 1 := ⟨_, rfl⟩
        have ev29i : v29.toInt = (z21 + 1) := i_add ev29 ev21 (by decide) (by omega) (by omega)
        refine lv_iinc hx hb dX9_sumOf_27 hl (k := 2) rfl ev29.symm (by decide) rfl (fun ls hl => ?_)
        replace hl : lv_has ls 6 [(4, .int v29), (1, .int v28), (5, .int v26), (3, .int 36), (2, .ref h0), (0, .ref h0)] := hl
        refine lv_goto (tgt := 10) hx hb dX9_sumOf_30 rfl ?_
        exact ih23 locs23 v29 ((z21 + 1)) v28 ((z22 + v26.toInt)) ls (ms_lt hm23 (by omega) (by omega)) ev29i ev28i (by omega) (by omega) (by rw [SM_nx (by omega)]; omega) (by omega) (by omega) hS23 (lv_sub hl [0, 3, 4, 1, 5] rfl)
  exact L10 _ [] 0 0 0 0 ls (Nat.lt_succ_self _) (by decide) (by decide) (by omega) (by omega) (rfl) (by omega) (by omega) hS0 hl
set_option maxRecDepth 100000 in
set_option maxHeartbeats 4000000 in
theorem m_X9_sumOf_80 (l : Launch) (X : xW) (Γ : Nat → Option Nat) (H0 : Heap) (hC0 : Conf X Γ H0) (h0 : Nat) (g0 : Γ h0 = some 80) : Ctr l X Γ yX9_sumOf cX9_sumOf 6 (some .int) 0 [.ref h0] H0 (QI X Γ (fun v H1 => H1 = H0 ∧ ((v.toInt = SM H0 h0 36) ∧ (0 ≤ v.toInt) ∧ (v.toInt ≤ 3564)))) := by
  refine q_enterI (own := "SnowForts$Yard") (by decide) rfl (Nat.le_of_ble_eq_true rfl) ?_
  intro p e s m args below meth c ls Qz E hl ret hS0
  have hx := E.1; have hb := E.2.1
  have hl : lv_has ls 6 [(0, .ref h0)] := hl
  refine lv_iconst (v := 0) hx hb dX9_sumOf_0 rfl ?_
  refine lv_istore_n hx hb dX9_sumOf_1 rfl hl (by decide) rfl (fun ls hl => ?_)
  replace hl : lv_has ls 6 [(1, .int 0), (0, .ref h0)] := hl
  refine lv_aload_n hx hb dX9_sumOf_2 rfl (lv_at hl 1 rfl) ?_
  refine lv_astore_n hx hb dX9_sumOf_3 rfl hl (by decide) rfl (fun ls hl => ?_)
  replace hl : lv_has ls 6 [(2, .ref h0), (1, .int 0), (0, .ref h0)] := hl
  refine lv_aload_n hx hb dX9_sumOf_4 rfl (lv_at hl 0 rfl) ?_
  refine q_alen E hC0 g0 rfl rfl rfl (v := 36) rfl dX9_sumOf_5 ?_
  refine lv_istore_n hx hb dX9_sumOf_6 rfl hl (by decide) rfl (fun ls hl => ?_)
  replace hl : lv_has ls 6 [(3, .int 36), (2, .ref h0), (1, .int 0), (0, .ref h0)] := hl
  refine lv_iconst (v := 0) hx hb dX9_sumOf_7 rfl ?_
  refine lv_istore hx hb dX9_sumOf_8 hl (by decide) rfl (fun ls hl => ?_)
  replace hl : lv_has ls 6 [(4, .int 0), (3, .int 36), (2, .ref h0), (1, .int 0), (0, .ref h0)] := hl
  have L10 : ∀ (n23 : Nat) (locs23 : List Loc) (v21 : Int32) (z21 : Int) (v22 : Int32) (z22 : Int) (ls : Array Slot), (36 - z21).toNat < n23 → v21.toInt = z21 → v22.toInt = z22 → z21 ≤ 36 → 0 ≤ z21 → z22 = SM H0 h0 (z21).toNat → 0 ≤ z22 → z22 ≤ 99 * z21 → va_S (AΓ Γ) H0 H0 locs23 → lv_has ls 6 [(4, .int v21), (3, .int 36), (2, .ref h0), (1, .int v22), (0, .ref h0)] → W p l e (rmL 0) s m args below meth c H0 locs23 0 0 Qz (F0 m 10 ls []) := by
    intro n23
    induction n23 with
    | zero => intro locs23 v21 z21 v22 z22 ls hm23 ev21 ev22 iv23_0 iv23_1 iv23_2 iv23_3 iv23_4 hS23 hl; exact absurd hm23 (Nat.not_lt_zero _)
    | succ n23 ih23 =>
      intro locs23 v21 z21 v22 z22 ls hm23 ev21 ev22 iv23_0 iv23_1 iv23_2 iv23_3 iv23_4 hS23 hl
      have hs9 := iv23_2
      refine lv_iload hx hb dX9_sumOf_10 (lv_at hl 0 rfl) ?_
      refine lv_iload_n hx hb dX9_sumOf_12 rfl (lv_at hl 1 rfl) ?_
      refine q_icmp_ge hx hb (a := z21) (b := 36) ev21 (by decide) (tgt := 33) dX9_sumOf_13 rfl (fun c24 => ?_) (fun c24 => ?_)
      · refine lv_iload_n hx hb dX9_sumOf_33 rfl (lv_at hl 3 rfl) ?_
        have hz9 : (z21).toNat = 36 := by omega
        rw [hz9] at hs9
        have c25 : v22.toInt = z22 := ev22
        exact ret v22 H0 locs23 _ _ dX9_sumOf_34 ⟨rfl, ⟨by omega, by omega, by omega⟩⟩ hC0 hS23
      · refine lv_aload_n hx hb dX9_sumOf_16 rfl (lv_at hl 2 rfl) ?_
        refine lv_iload hx hb dX9_sumOf_17 (lv_at hl 0 rfl) ?_
        refine q_iald E hC0 g0 rfl rfl (fun _ h => h) (i_in (a := z21) ev21 (by omega) (by omega)) dX9_sumOf_19 (fun v26 ev26 lv26 uv26 => ?_)
        have m27 : aI H0 h0 z21 = v26.toInt := aI_of ev21 ev26
        refine lv_istore hx hb dX9_sumOf_20 hl (by decide) rfl (fun ls hl => ?_)
        replace hl : lv_has ls 6 [(5, .int v26), (4, .int v21), (3, .int 36), (2, .ref h0), (1, .int v22), (0, .ref h0)] := hl
        refine lv_iload_n hx hb dX9_sumOf_22 rfl (lv_at hl 4 rfl) ?_
        refine lv_iload hx hb dX9_sumOf_23 (lv_at hl 0 rfl) ?_
        refine lv_iadd hx hb dX9_sumOf_25 (lv_topi (fun v28 ev28 => ?_))
        have ev28i : v28.toInt = (z22 + v26.toInt) := i_add ev28 ev22 rfl (by omega) (by omega)
        refine lv_istore_n hx hb dX9_sumOf_26 rfl hl (by decide) rfl (fun ls hl => ?_)
        replace hl : lv_has ls 6 [(1, .int v28), (5, .int v26), (4, .int v21), (3, .int 36), (2, .ref h0), (0, .ref h0)] := hl
        obtain ⟨v29, ev29⟩ : ∃ z, z = v21 + Int32.ofInt 1 := ⟨_, rfl⟩
        have ev29i : v29.toInt = (z21 + 1) := i_add ev29 ev21 (by decide) (by omega) (by omega)
        refine lv_iinc hx hb dX9_sumOf_27 hl (k := 2) rfl ev29.symm (by decide) rfl (fun ls hl => ?_)
        replace hl : lv_has ls 6 [(4, .int v29), (1, .int v28), (5, .int v26), (3, .int 36), (2, .ref h0), (0, .ref h0)] := hl
        refine lv_goto (tgt := 10) hx hb dX9_sumOf_30 rfl ?_
        exact ih23 locs23 v29 ((z21 + 1)) v28 ((z22 + v26.toInt)) ls (ms_lt hm23 (by omega) (by omega)) ev29i ev28i (by omega) (by omega) (by rw [SM_nx (by omega)]; omega) (by omega) (by omega) hS23 (lv_sub hl [0, 3, 4, 1, 5] rfl)
  exact L10 _ [] 0 0 0 0 ls (Nat.lt_succ_self _) (by decide) (by decide) (by omega) (by omega) (rfl) (by omega) (by omega) hS0 hl
set_option maxRecDepth 100000 in
set_option maxHeartbeats 4000000 in
theorem m_X9_tell (l : Launch) (X : xW) (Γ : Nat → Option Nat) (H0 : Heap) (hC0 : Conf X Γ H0) (h0 : Nat) (g0 : Γ h0 = some 5) (p1 : Int32) {a1 : Int} (e1 : p1.toInt = a1) (sn wl su lw ic kn hd us br ar fi : Nat) (yn : YN X Γ H0 h0 sn wl su lw ic kn hd us br ar fi) (r0 : 0 ≤ a1) (r1 : a1 ≤ 9) : Ctr l X Γ yX9_tell cX9_tell 2 (some .int) 1 [.ref h0, .int p1] H0 (QI X Γ (fun v H1 => H1 = H0 ∧ ((a1 = 4 → v = sI H0 br 0 + sI H0 br 1) ∧ (a1 = 5 → v.toInt = SM H0 sn 36) ∧ (a1 = 6 → v.toInt = SM H0 wl 36) ∧ (a1 = 7 → v.toInt = (sI H0 h0 (X.1.2 8 4)).toInt) ∧ (a1 = 8 → v.toInt = (sI H0 h0 (X.1.2 8 5)).toInt) ∧ (a1 = 9 → v.toInt = (sI H0 h0 (X.1.2 8 6)).toInt)))) := by
  refine q_enterI (own := "SnowForts$Yard") (by decide) rfl (Nat.le_of_ble_eq_true rfl) ?_
  intro p e s m args below meth c ls Qz E hl ret hS0
  have hx := E.1; have hb := E.2.1
  have hl : lv_has ls 2 [(0, .ref h0), (1, .int p1)] := hl
  have gsn := yn.sn.2; have gwl := yn.wl.2; have gsu := yn.su.2; have glw := yn.lw.2; have gic := yn.ic.2; have gkn := yn.kn.2; have ghd := yn.hd.2; have gus := yn.us.2; have gbr := yn.br.2; have gar := yn.ar.2; have gfi := yn.fi.2
  refine lv_iload_n hx hb dX9_tell_0 rfl (lv_at hl 1 rfl) ?_
  by_cases c21_0 : a1 = 0
  · have c21_x := (show p1.toInt = a1 from e1).trans c21_0
    refine lv_tableIn hx hb dX9_tell_1 (by rw [c21_x]; decide) (by rw [c21_x]; decide) (off := 51) (by rw [c21_x]; rfl) (tgt := 52) rfl ?_
    refine lv_aload_n hx hb dX9_tell_52 rfl (lv_at hl 0 rfl) ?_
    refine q_getI E hC0 g0 fa_RX9_9 dX9_tell_53 (fun v22 ev22 lv22 uv22 => ?_)
    have m23 : (sI H0 h0 (X.1.2 8 0)).toInt = v22.toInt := (congrArg Int32.toInt ev22).trans rfl
    have c24 : v22.toInt = v22.toInt := rfl
    exact ret v22 H0 [] _ _ dX9_tell_56 ⟨rfl, ⟨fun q => by first | (exfalso; omega) | exact htl, fun q => by omega, fun q => by omega, fun q => by omega, fun q => by omega, fun q => by omega⟩⟩ hC0 hS0
  by_cases c21_1 : a1 = 1
  · have c21_x := (show p1.toInt = a1 from e1).trans c21_1
    refine lv_tableIn hx hb dX9_tell_1 (by rw [c21_x]; decide) (by rw [c21_x]; decide) (off := 56) (by rw [c21_x]; rfl) (tgt := 57) rfl ?_
    refine lv_aload_n hx hb dX9_tell_57 rfl (lv_at hl 0 rfl) ?_
    refine q_getI E hC0 g0 fa_RX9_15 dX9_tell_58 (fun v25 ev25 lv25 uv25 => ?_)
    have m26 : (sI H0 h0 (X.1.2 8 1)).toInt = v25.toInt := (congrArg Int32.toInt ev25).trans rfl
    have c27 : v25.toInt = v25.toInt := rfl
    exact ret v25 H0 [] _ _ dX9_tell_61 ⟨rfl, ⟨fun q => by first | (exfalso; omega) | exact htl, fun q => by omega, fun q => by omega, fun q => by omega, fun q => by omega, fun q => by omega⟩⟩ hC0 hS0
  by_cases c21_2 : a1 = 2
  · have c21_x := (show p1.toInt = a1 from e1).trans c21_2
    refine lv_tableIn hx hb dX9_tell_1 (by rw [c21_x]; decide) (by rw [c21_x]; decide) (off := 61) (by rw [c21_x]; rfl) (tgt := 62) rfl ?_
    refine lv_aload_n hx hb dX9_tell_62 rfl (lv_at hl 0 rfl) ?_
    refine q_getI E hC0 g0 fa_RX9_52 dX9_tell_63 (fun v28 ev28 lv28 uv28 => ?_)
    have m29 : (sI H0 h0 (X.1.2 8 2)).toInt = v28.toInt := (congrArg Int32.toInt ev28).trans rfl
    have c30 : v28.toInt = v28.toInt := rfl
    exact ret v28 H0 [] _ _ dX9_tell_66 ⟨rfl, ⟨fun q => by first | (exfalso; omega) | exact htl, fun q => by omega, fun q => by omega, fun q => by omega, fun q => by omega, fun q => by omega⟩⟩ hC0 hS0
  by_cases c21_3 : a1 = 3
  · have c21_x := (show p1.toInt = a1 from e1).trans c21_3
    refine lv_tableIn hx hb dX9_tell_1 (by rw [c21_x]; decide) (by rw [c21_x]; decide) (off := 66) (by rw [c21_x]; rfl) (tgt := 67) rfl ?_
    refine lv_aload_n hx hb dX9_tell_67 rfl (lv_at hl 0 rfl) ?_
    refine q_getI E hC0 g0 fa_RX9_55 dX9_tell_68 (fun v31 ev31 lv31 uv31 => ?_)
    have c32 : v31.toInt = v31.toInt := rfl
    exact ret v31 H0 [] _ _ dX9_tell_71 ⟨rfl, ⟨fun q => by first | (exfalso; omega) | exact htl, fun q => by omega, fun q => by omega, fun q => by omega, fun q => by omega, fun q => by omega⟩⟩ hC0 hS0
  by_cases c21_4 : a1 = 4
  · have c21_x := (show p1.toInt = a1 from e1).trans c21_4
    refine lv_tableIn hx hb dX9_tell_1 (by rw [c21_x]; decide) (by rw [c21_x]; decide) (off := 71) (by rw [c21_x]; rfl) (tgt := 72) rfl ?_
    refine lv_aload_n hx hb dX9_tell_72 rfl (lv_at hl 0 rfl) ?_
    refine q_goIp (q_runV (As := []) (rest := []) E hC0 hS0 (m_X9_allBreaches l X Γ H0 hC0 h0 g0 sn wl su lw ic kn hd us br ar fi yn) cw_X9_allBreaches cl_RX9_91 g0 ⟨rfl, rfl⟩ rfl hl.1 rfl (Nat.zero_le _) (by decide) dX9_tell_73) hS0 (fun v33 locs33 hr33 hS33 => ?_)
    have f33_0 := hr33
    have htl := f33_0
    have c34 : v33.toInt = v33.toInt := rfl
    exact ret v33 H0 locs33 _ _ dX9_tell_76 ⟨rfl, ⟨fun q => by first | (exfalso; omega) | exact htl, fun q => by omega, fun q => by omega, fun q => by omega, fun q => by omega, fun q => by omega⟩⟩ hC0 hS33
  by_cases c21_5 : a1 = 5
  · have c21_x := (show p1.toInt = a1 from e1).trans c21_5
    refine lv_tableIn hx hb dX9_tell_1 (by rw [c21_x]; decide) (by rw [c21_x]; decide) (off := 76) (by rw [c21_x]; rfl) (tgt := 77) rfl ?_
    refine lv_aload_n hx hb dX9_tell_77 rfl (lv_at hl 0 rfl) ?_
    refine q_getS E hC0 g0 fa_RX9_34 yn.sn.1 dX9_tell_78 (fun _ => ?_)
    refine q_goIp (q_runS (As := [.ref sn]) (rest := []) E hS0 (m_X9_sumOf_36 l X Γ H0 hC0 sn gsn) cw_X9_sumOf cl_RX9_95 rfl hl.1 rfl (Nat.zero_le _) (by decide) dX9_tell_81) hS0 (fun v35 locs35 hr35 hS35 => ?_)
    obtain ⟨f35_0, f35_1, f35_2⟩ := hr35
    have c36 : v35.toInt = v35.toInt := rfl
    exact ret v35 H0 locs35 _ _ dX9_tell_84 ⟨rfl, ⟨fun q => by first | (exfalso; omega) | exact htl, fun q => by omega, fun q => by omega, fun q => by omega, fun q => by omega, fun q => by omega⟩⟩ hC0 hS35
  by_cases c21_6 : a1 = 6
  · have c21_x := (show p1.toInt = a1 from e1).trans c21_6
    refine lv_tableIn hx hb dX9_tell_1 (by rw [c21_x]; decide) (by rw [c21_x]; decide) (off := 84) (by rw [c21_x]; rfl) (tgt := 85) rfl ?_
    refine lv_aload_n hx hb dX9_tell_85 rfl (lv_at hl 0 rfl) ?_
    refine q_getS E hC0 g0 fa_RX9_37 yn.wl.1 dX9_tell_86 (fun _ => ?_)
    refine q_goIp (q_runS (As := [.ref wl]) (rest := []) E hS0 (m_X9_sumOf_80 l X Γ H0 hC0 wl gwl) cw_X9_sumOf cl_RX9_95 rfl hl.1 rfl (Nat.zero_le _) (by decide) dX9_tell_89) hS0 (fun v37 locs37 hr37 hS37 => ?_)
    obtain ⟨f37_0, f37_1, f37_2⟩ := hr37
    have c38 : v37.toInt = v37.toInt := rfl
    exact ret v37 H0 locs37 _ _ dX9_tell_92 ⟨rfl, ⟨fun q => by first | (exfalso; omega) | exact htl, fun q => by omega, fun q => by omega, fun q => by omega, fun q => by omega, fun q => by omega⟩⟩ hC0 hS37
  by_cases c21_7 : a1 = 7
  · have c21_x := (show p1.toInt = a1 from e1).trans c21_7
    refine lv_tableIn hx hb dX9_tell_1 (by rw [c21_x]; decide) (by rw [c21_x]; decide) (off := 92) (by rw [c21_x]; rfl) (tgt := 93) rfl ?_
    refine lv_aload_n hx hb dX9_tell_93 rfl (lv_at hl 0 rfl) ?_
    refine q_getI E hC0 g0 fa_RX9_58 dX9_tell_94 (fun v39 ev39 _ _ => ?_)
    have m40 : (sI H0 h0 (X.1.2 8 4)).toInt = v39.toInt := (congrArg Int32.toInt ev39).trans rfl
    have c41 : v39.toInt = v39.toInt := rfl
    exact ret v39 H0 [] _ _ dX9_tell_97 ⟨rfl, ⟨fun q => by first | (exfalso; omega) | exact htl, fun q => by omega, fun q => by omega, fun q => by omega, fun q => by omega, fun q => by omega⟩⟩ hC0 hS0
  by_cases c21_8 : a1 = 8
  · have c21_x := (show p1.toInt = a1 from e1).trans c21_8
    refine lv_tableIn hx hb dX9_tell_1 (by rw [c21_x]; decide) (by rw [c21_x]; decide) (off := 97) (by rw [c21_x]; rfl) (tgt := 98) rfl ?_
    refine lv_aload_n hx hb dX9_tell_98 rfl (lv_at hl 0 rfl) ?_
    refine q_getI E hC0 g0 fa_RX9_61 dX9_tell_99 (fun v42 ev42 _ _ => ?_)
    have m43 : (sI H0 h0 (X.1.2 8 5)).toInt = v42.toInt := (congrArg Int32.toInt ev42).trans rfl
    have c44 : v42.toInt = v42.toInt := rfl
    exact ret v42 H0 [] _ _ dX9_tell_102 ⟨rfl, ⟨fun q => by first | (exfalso; omega) | exact htl, fun q => by omega, fun q => by omega, fun q => by omega, fun q => by omega, fun q => by omega⟩⟩ hC0 hS0
  refine lv_tableOut hx hb dX9_tell_1 (by rw [show p1.toInt = a1 from e1]; omega) (tgt := 103) rfl ?_
  refine lv_aload_n hx hb dX9_tell_103 rfl (lv_at hl 0 rfl) ?_
  refine q_getI E hC0 g0 fa_RX9_64 dX9_tell_104 (fun v45 ev45 _ _ => ?_)
  have m46 : (sI H0 h0 (X.1.2 8 6)).toInt = v45.toInt := (congrArg Int32.toInt ev45).trans rfl
  have c47 : v45.toInt = v45.toInt := rfl
  exact ret v45 H0 [] _ _ dX9_tell_107 ⟨rfl, ⟨fun q => by first | (exfalso; omega) | exact htl, fun q => by omega, fun q => by omega, fun q => by omega, fun q => by omega, fun q => by omega⟩⟩ hC0 hS0
set_option maxRecDepth 100000 in
set_option maxHeartbeats 4000000 in
theorem m_X11_answer (l : Launch) (X : xW) (Γ : Nat → Option Nat) (H0 : Heap) (hC0 : Conf X Γ H0) (h0 : Nat) (g0 : Γ h0 = some 0) (p1 : Int32) {a1 : Int} (e1 : p1.toInt = a1) : Ctr l X Γ yX11_answer cX11_answer 2 (some .int) 0 [.ref h0, .int p1] H0 (QI X Γ (fun v H1 => Kp X Γ [3, 29, 31, 32, 33, 34, 37, 39, 40, 50, 51, 52, 53, 54, 55, 56, 57, 58, 59, 60, 61, 62, 63, 65, 67, 68, 69, 70, 71] H0 H1 ∧ ((v.toInt = a1) ∧ (v = p1)))) := by
  refine q_enterI (own := "SnowForts") (by decide) rfl (Nat.le_of_ble_eq_true rfl) ?_
  intro p e s m args below meth c ls Qz E hl ret hS0
  have hx := E.1; have hb := E.2.1
  have hKp0 : Kp X Γ [3, 29, 31, 32, 33, 34, 37, 39, 40, 50, 51, 52, 53, 54, 55, 56, 57, 58, 59, 60, 61, 62, 63, 65, 67, 68, 69, 70, 71] H0 H0 := Kp.rf
  have hl : lv_has ls 2 [(0, .ref h0), (1, .int p1)] := hl
  refine lv_aload_n hx hb dX11_answer_0 rfl (lv_at hl 0 rfl) ?_
  refine lv_iconst (v := 0) hx hb dX11_answer_1 rfl ?_
  refine q_put E hC0 hS0 g0 fp_RX11_102 tv_F rfl rfl dX11_answer_2 (fun H21 locs21 hC21 hS21 U21 => ?_)
  have hKp21 := Kp.upO E g0 fp_RX11_102 rfl U21 hKp0
  have e22 := up_I U21
  refine lv_iload_n hx hb dX11_answer_5 rfl (lv_at hl 1 rfl) ?_
  have c23 : p1.toInt = a1 := e1
  exact ret p1 H21 locs21 _ _ dX11_answer_6 ⟨hKp21, ⟨by omega, rfl⟩⟩ hC21 hS21
set_option maxRecDepth 100000 in
set_option maxHeartbeats 4000000 in
theorem m_X11_many (l : Launch) (X : xW) (Γ : Nat → Option Nat) (H0 : Heap) (hC0 : Conf X Γ H0) (h0 : Nat) (g0 : Γ h0 = some 0) (p1 : Int32) {a1 : Int} (e1 : p1.toInt = a1) (yd : Nat) (hyd : sR H0 h0 (X.1.2 10 5) = some yd) (gyd : Γ yd = some 5) (sn wl su lw ic kn hd us br ar fi : Nat) (yn : YN X Γ H0 yd sn wl su lw ic kn hd us br ar fi) (r0 : 0 ≤ a1) (r1 : a1 ≤ 9) : Ctr l X Γ yX11_many cX11_many 2 (some .int) 2 [.ref h0, .int p1] H0 (QI X Γ (fun v H1 => Kp X Γ [3, 29, 31, 32, 33, 34, 37, 39, 40, 50, 51, 52, 53, 54, 55, 56, 57, 58, 59, 60, 61, 62, 63, 65, 67, 68, 69, 70, 71] H0 H1 ∧ ((a1 = 4 → v = sI H0 br 0 + sI H0 br 1) ∧ (a1 = 5 → v.toInt = SM H0 sn 36) ∧ (a1 = 6 → v.toInt = SM H0 wl 36) ∧ (a1 = 7 → v.toInt = (sI H0 yd (X.1.2 8 4)).toInt) ∧ (a1 = 8 → v.toInt = (sI H0 yd (X.1.2 8 5)).toInt) ∧ (a1 = 9 → v.toInt = (sI H0 yd (X.1.2 8 6)).toInt)))) := by
  refine q_enterI (own := "SnowForts") (by decide) rfl (Nat.le_of_ble_eq_true rfl) ?_
  intro p e s m args below meth c ls Qz E hl ret hS0
  have hx := E.1; have hb := E.2.1
  have hKp0 : Kp X Γ [3, 29, 31, 32, 33, 34, 37, 39, 40, 50, 51, 52, 53, 54, 55, 56, 57, 58, 59, 60, 61, 62, 63, 65, 67, 68, 69, 70, 71] H0 H0 := Kp.rf
  have hl : lv_has ls 2 [(0, .ref h0), (1, .int p1)] := hl
  have gsn := yn.sn.2; have gwl := yn.wl.2; have gsu := yn.su.2; have glw := yn.lw.2; have gic := yn.ic.2; have gkn := yn.kn.2; have ghd := yn.hd.2; have gus := yn.us.2; have gbr := yn.br.2; have gar := yn.ar.2; have gfi := yn.fi.2
  refine lv_iload_n hx hb dX11_many_0 rfl (lv_at hl 1 rfl) ?_
  refine lv_i2l (v := p1.toInt64) hx hb dX11_many_1 rfl (lv_topl (fun v21 ev21 => ?_))
  have ev21i : v21.toInt = a1 := l_ofi ev21.symm e1
  refine lv_iconst (v := 0) hx hb dX11_many_2 rfl ?_
  refine lv_bipush (v := 9) hx hb dX11_many_3 rfl ?_
  refine q_goIp (q_runS (As := [.long v21, .int 0, .int 9]) (rest := []) E hS0 (m_X11_isWithin l X Γ H0 hC0 v21 (a0 := a1) ev21i 0 (a1 := 0) (by decide) 9 (a2 := 9) (by decide)) cw_X11_isWithin cl_RX11_113 rfl hl.1 rfl (Nat.zero_le _) (by decide) dX11_many_5) hS0 (fun v22 locs22 hr22 hS22 => ?_)
  rcases hr22 with ⟨rfl, f22a0, f22a1⟩ | ⟨rfl, f22b⟩
  · refine q_if_ne hx hb (a := 1) (by decide) (tgt := 17) dX11_many_8 rfl (fun c23 => ?_) (fun c23 => absurd c23 (by omega))
    refine lv_aload_n hx hb dX11_many_17 rfl (lv_at hl 0 rfl) ?_
    refine lv_aload_n hx hb dX11_many_18 rfl (lv_at hl 0 rfl) ?_
    refine q_getS E hC0 g0 fa_RX11_42 hyd dX11_many_19 (fun _ => ?_)
    refine lv_iload_n hx hb dX11_many_22 rfl (lv_at hl 1 rfl) ?_
    refine q_goIp (q_runV (As := [.int p1]) (rest := [.ref h0]) E hC0 hS22 (m_X9_tell l X Γ H0 hC0 yd gyd p1 (a1 := a1) e1 sn wl su lw ic kn hd us br ar fi yn (by omega) (by omega)) cw_X9_tell cl_RX11_206 gyd ⟨rfl, rfl⟩ rfl hl.1 rfl (show _ ≤ _ from by simp [Value.category]) (by decide) dX11_many_23) hS22 (fun v24 locs24 hr24 hS24 => ?_)
    obtain ⟨f24_0, f24_1, f24_2, f24_3, f24_4, f24_5⟩ := hr24
    have ht9 := f24_0
    refine q_goI (q_runV (As := [.int v24]) (rest := []) E hC0 hS24 (m_X11_answer l X Γ H0 hC0 h0 g0 v24 (a1 := v24.toInt) rfl) cw_X11_answer cl_RX11_191 g0 ⟨rfl, rfl⟩ rfl hl.1 rfl (Nat.zero_le _) (by decide) dX11_many_26) hS24 (fun v25 H25 locs25 hr25 hC25 hS25 => ?_)
    obtain ⟨hp25, hr25⟩ := hr25
    have hKp25 := hKp0.tr (hp25.mono rfl)
    have m26 : (sI H25 yd (X.1.2 8 0)).toInt = (sI H0 yd (X.1.2 8 0)).toInt := congrArg Int32.toInt (kp_I hp25 gyd (ci := 8) (k := 0) rfl (by decide) rfl)
    have m27 : (sI H25 yd (X.1.2 8 1)).toInt = (sI H0 yd (X.1.2 8 1)).toInt := congrArg Int32.toInt (kp_I hp25 gyd (ci := 8) (k := 1) rfl (by decide) rfl)
    have m28 : (sI H25 yd (X.1.2 8 2)).toInt = (sI H0 yd (X.1.2 8 2)).toInt := congrArg Int32.toInt (kp_I hp25 gyd (ci := 8) (k := 2) rfl (by decide) rfl)
    obtain ⟨f25_0, f25_1⟩ := hr25
    have hv9 := f25_1
    have c29 : v25.toInt = v25.toInt := rfl
    exact ret v25 H25 locs25 _ _ dX11_many_29 ⟨hKp25, ⟨fun q => hv9.trans (ht9 q), fun q => by omega, fun q => by omega, fun q => by omega, fun q => by omega, fun q => by omega⟩⟩ hC25 hS25
  · refine q_if_ne hx hb (a := 0) (by decide) (tgt := 17) dX11_many_8 rfl (fun c30 => absurd c30 (by omega)) (fun c30 => ?_)
    (exfalso; omega)
set_option maxRecDepth 100000 in
set_option maxHeartbeats 4000000 in
theorem m_X9_isCell (l : Launch) (X : xW) (Γ : Nat → Option Nat) (H0 : Heap) (hC0 : Conf X Γ H0) (h0 : Nat) (g0 : Γ h0 = some 5) (p1 : Int32) {a1 : Int} (e1 : p1.toInt = a1) (p2 : Int32) {a2 : Int} (e2 : p2.toInt = a2) : Ctr l X Γ yX9_isCell cX9_isCell 3 (some .boolean) 0 [.ref h0, .int p1, .int p2] H0 (QI X Γ (fun v H1 => H1 = H0 ∧ ((v = 1 ∧ (0 ≤ a1 ∧ a1 < (sI H0 h0 (X.1.2 8 0)).toInt ∧ a1 ≤ 5 ∧ 0 ≤ a2 ∧ a2 < (sI H0 h0 (X.1.2 8 1)).toInt ∧ a2 ≤ 5)) ∨ (v = 0 ∧ (a1 < 0 ∨ (sI H0 h0 (X.1.2 8 0)).toInt ≤ a1 ∨ 6 ≤ a1 ∨ a2 < 0 ∨ (sI H0 h0 (X.1.2 8 1)).toInt ≤ a2 ∨ 6 ≤ a2))))) := by
  refine q_enterZ (own := "SnowForts$Yard") (by decide) rfl (Nat.le_of_ble_eq_true rfl) ?_
  intro p e s m args below meth c ls Qz E hl ret hS0
  have hx := E.1; have hb := E.2.1
  have hl : lv_has ls 3 [(0, .ref h0), (1, .int p1), (2, .int p2)] := hl
  refine lv_iload_n hx hb dX9_isCell_0 rfl (lv_at hl 1 rfl) ?_
  refine q_if_lt hx hb (a := a1) e1 (tgt := 40) dX9_isCell_1 rfl (fun c21 => ?_) (fun c21 => ?_)
  · refine lv_iconst (v := 0) hx hb dX9_isCell_40 rfl ?_
    exact ret 0 H0 [] _ _ dX9_isCell_41 (Or.inl rfl) ⟨rfl, Or.inr ⟨rfl, by omega⟩⟩ hC0 hS0
  · refine lv_iload_n hx hb dX9_isCell_4 rfl (lv_at hl 1 rfl) ?_
    refine lv_aload_n hx hb dX9_isCell_5 rfl (lv_at hl 0 rfl) ?_
    refine q_getI E hC0 g0 fa_RX9_9 dX9_isCell_6 (fun v22 ev22 lv22 uv22 => ?_)
    have m23 : (sI H0 h0 (X.1.2 8 0)).toInt = v22.toInt := (congrArg Int32.toInt ev22).trans rfl
    refine q_icmp_ge hx hb (a := a1) (b := v22.toInt) e1 rfl (tgt := 40) dX9_isCell_9 rfl (fun c24 => ?_) (fun c24 => ?_)
    · refine lv_iconst (v := 0) hx hb dX9_isCell_40 rfl ?_
      exact ret 0 H0 [] _ _ dX9_isCell_41 (Or.inl rfl) ⟨rfl, Or.inr ⟨rfl, by omega⟩⟩ hC0 hS0
    · refine lv_iload_n hx hb dX9_isCell_12 rfl (lv_at hl 1 rfl) ?_
      refine lv_bipush (v := 6) hx hb dX9_isCell_13 rfl ?_
      refine q_icmp_ge hx hb (a := a1) (b := 6) e1 (by decide) (tgt := 40) dX9_isCell_15 rfl (fun c25 => absurd c25 (by omega)) (fun c25 => ?_)
      refine lv_iload_n hx hb dX9_isCell_18 rfl (lv_at hl 2 rfl) ?_
      refine q_if_lt hx hb (a := a2) e2 (tgt := 40) dX9_isCell_19 rfl (fun c26 => ?_) (fun c26 => ?_)
      · refine lv_iconst (v := 0) hx hb dX9_isCell_40 rfl ?_
        exact ret 0 H0 [] _ _ dX9_isCell_41 (Or.inl rfl) ⟨rfl, Or.inr ⟨rfl, by omega⟩⟩ hC0 hS0
      · refine lv_iload_n hx hb dX9_isCell_22 rfl (lv_at hl 2 rfl) ?_
        refine lv_aload_n hx hb dX9_isCell_23 rfl (lv_at hl 0 rfl) ?_
        refine q_getI E hC0 g0 fa_RX9_15 dX9_isCell_24 (fun v27 ev27 lv27 uv27 => ?_)
        have m28 : (sI H0 h0 (X.1.2 8 1)).toInt = v27.toInt := (congrArg Int32.toInt ev27).trans rfl
        refine q_icmp_ge hx hb (a := a2) (b := v27.toInt) e2 rfl (tgt := 40) dX9_isCell_27 rfl (fun c29 => ?_) (fun c29 => ?_)
        · refine lv_iconst (v := 0) hx hb dX9_isCell_40 rfl ?_
          exact ret 0 H0 [] _ _ dX9_isCell_41 (Or.inl rfl) ⟨rfl, Or.inr ⟨rfl, by omega⟩⟩ hC0 hS0
        · refine lv_iload_n hx hb dX9_isCell_30 rfl (lv_at hl 2 rfl) ?_
          refine lv_bipush (v := 6) hx hb dX9_isCell_31 rfl ?_
          refine q_icmp_ge hx hb (a := a2) (b := 6) e2 (by decide) (tgt := 40) dX9_isCell_33 rfl (fun c30 => absurd c30 (by omega)) (fun c30 => ?_)
          refine lv_iconst (v := 1) hx hb dX9_isCell_36 rfl ?_
          refine lv_goto (tgt := 41) hx hb dX9_isCell_37 rfl ?_
          exact ret 1 H0 [] _ _ dX9_isCell_41 (Or.inr rfl) ⟨rfl, Or.inl ⟨rfl, by omega, by omega, by omega, by omega, by omega, by omega⟩⟩ hC0 hS0
set_option maxRecDepth 100000 in
set_option maxHeartbeats 4000000 in
theorem m_X9_holds (l : Launch) (X : xW) (Γ : Nat → Option Nat) (H0 : Heap) (hC0 : Conf X Γ H0) (h0 : Nat) (g0 : Γ h0 = some 5) (p1 : Int32) {a1 : Int} (e1 : p1.toInt = a1) : Ctr l X Γ yX9_holds cX9_holds 2 (some .boolean) 1 [.ref h0, .int p1] H0 (QI X Γ (fun v H1 => H1 = H0 ∧ ((v = 1 ∧ (0 ≤ a1 ∧ a1 ≤ 35 ∧ a1 % 6 < (sI H0 h0 (X.1.2 8 0)).toInt ∧ a1 / 6 < (sI H0 h0 (X.1.2 8 1)).toInt)) ∨ (v = 0 ∧ (a1 < 0 ∨ 36 ≤ a1 ∨ (sI H0 h0 (X.1.2 8 0)).toInt ≤ a1 % 6 ∨ (sI H0 h0 (X.1.2 8 1)).toInt ≤ a1 / 6))))) := by
  refine q_enterZ (own := "SnowForts$Yard") (by decide) rfl (Nat.le_of_ble_eq_true rfl) ?_
  intro p e s m args below meth c ls Qz E hl ret hS0
  have hx := E.1; have hb := E.2.1
  have hl : lv_has ls 2 [(0, .ref h0), (1, .int p1)] := hl
  refine lv_iload_n hx hb dX9_holds_0 rfl (lv_at hl 1 rfl) ?_
  refine q_if_lt hx hb (a := a1) e1 (tgt := 29) dX9_holds_1 rfl (fun c21 => ?_) (fun c21 => ?_)
  · refine lv_iconst (v := 0) hx hb dX9_holds_29 rfl ?_
    exact ret 0 H0 [] _ _ dX9_holds_30 (Or.inl rfl) ⟨rfl, Or.inr ⟨rfl, by omega⟩⟩ hC0 hS0
  · refine lv_iload_n hx hb dX9_holds_4 rfl (lv_at hl 1 rfl) ?_
    refine lv_bipush (v := 36) hx hb dX9_holds_5 rfl ?_
    refine q_icmp_ge hx hb (a := a1) (b := 36) e1 (by decide) (tgt := 29) dX9_holds_7 rfl (fun c22 => ?_) (fun c22 => ?_)
    · refine lv_iconst (v := 0) hx hb dX9_holds_29 rfl ?_
      exact ret 0 H0 [] _ _ dX9_holds_30 (Or.inl rfl) ⟨rfl, Or.inr ⟨rfl, by omega⟩⟩ hC0 hS0
    · refine lv_aload_n hx hb dX9_holds_10 rfl (lv_at hl 0 rfl) ?_
      refine lv_iload_n hx hb dX9_holds_11 rfl (lv_at hl 1 rfl) ?_
      refine lv_bipush (v := 6) hx hb dX9_holds_12 rfl ?_
      refine lv_irem hx hb dX9_holds_14 (by decide) (lv_topi (fun v23 ev23 => ?_))
      have ev23i : v23.toInt = (a1 % 6) := i_rem ev23 e1 (by decide) (by omega) (by decide)
      refine lv_iload_n hx hb dX9_holds_15 rfl (lv_at hl 1 rfl) ?_
      refine lv_bipush (v := 6) hx hb dX9_holds_16 rfl ?_
      refine lv_idiv hx hb dX9_holds_18 (by decide) (lv_topi (fun v24 ev24 => ?_))
      have ev24i : v24.toInt = (a1 / 6) := i_div ev24 e1 (by decide) (by omega) (by decide)
      refine q_goIp (q_runV (As := [.int v23, .int v24]) (rest := []) E hC0 hS0 (m_X9_isCell l X Γ H0 hC0 h0 g0 v23 (a1 := (a1 % 6)) ev23i v24 (a2 := (a1 / 6)) ev24i) cw_X9_isCell cl_RX9_79 g0 ⟨rfl, rfl⟩ rfl hl.1 rfl (Nat.zero_le _) (by decide) dX9_holds_19) hS0 (fun v25 locs25 hr25 hS25 => ?_)
      rcases hr25 with ⟨rfl, f25a0, f25a1, f25a2, f25a3, f25a4, f25a5⟩ | ⟨rfl, f25b⟩
      · refine q_if_eq hx hb (a := 1) (by decide) (tgt := 29) dX9_holds_22 rfl (fun c26 => absurd c26 (by omega)) (fun c26 => ?_)
        refine lv_iconst (v := 1) hx hb dX9_holds_25 rfl ?_
        refine lv_goto (tgt := 30) hx hb dX9_holds_26 rfl ?_
        exact ret 1 H0 locs25 _ _ dX9_holds_30 (Or.inr rfl) ⟨rfl, Or.inl ⟨rfl, by omega, by omega, by omega, by omega⟩⟩ hC0 hS25
      · refine q_if_eq hx hb (a := 0) (by decide) (tgt := 29) dX9_holds_22 rfl (fun c27 => ?_) (fun c27 => absurd c27 (by omega))
        refine lv_iconst (v := 0) hx hb dX9_holds_29 rfl ?_
        exact ret 0 H0 locs25 _ _ dX9_holds_30 (Or.inl rfl) ⟨rfl, Or.inr ⟨rfl, by omega⟩⟩ hC0 hS25
set_option maxRecDepth 100000 in
set_option maxHeartbeats 4000000 in
theorem m_X9_halfOf (l : Launch) (X : xW) (Γ : Nat → Option Nat) (H0 : Heap) (hC0 : Conf X Γ H0) (h0 : Nat) (g0 : Γ h0 = some 5) (p1 : Int32) {a1 : Int} (e1 : p1.toInt = a1) (r0 : 0 ≤ a1) (r1 : a1 ≤ 35) : Ctr l X Γ yX9_halfOf cX9_halfOf 2 (some .int) 0 [.ref h0, .int p1] H0 (QI X Γ (fun v H1 => H1 = H0 ∧ ((0 ≤ v.toInt) ∧ (v.toInt ≤ 1) ∧ ((v.toInt = 0 ∧ a1 % 6 < (sI H0 h0 (X.1.2 8 0)).toInt / 2) ∨ (v.toInt = 1 ∧ (sI H0 h0 (X.1.2 8 0)).toInt / 2 ≤ a1 % 6))))) := by
  refine q_enterI (own := "SnowForts$Yard") (by decide) rfl (Nat.le_of_ble_eq_true rfl) ?_
  intro p e s m args below meth c ls Qz E hl ret hS0
  have hx := E.1; have hb := E.2.1
  have hl : lv_has ls 2 [(0, .ref h0), (1, .int p1)] := hl
  refine lv_iload_n hx hb dX9_halfOf_0 rfl (lv_at hl 1 rfl) ?_
  refine lv_bipush (v := 6) hx hb dX9_halfOf_1 rfl ?_
  refine lv_irem hx hb dX9_halfOf_3 (by decide) (lv_topi (fun v21 ev21 => ?_))
  have ev21i : v21.toInt = (a1 % 6) := i_rem ev21 e1 (by decide) (by omega) (by decide)
  refine lv_aload_n hx hb dX9_halfOf_4 rfl (lv_at hl 0 rfl) ?_
  refine q_getI E hC0 g0 fa_RX9_9 dX9_halfOf_5 (fun v22 ev22 lv22 uv22 => ?_)
  have m23 : (sI H0 h0 (X.1.2 8 0)).toInt = v22.toInt := (congrArg Int32.toInt ev22).trans rfl
  refine lv_iconst (v := 2) hx hb dX9_halfOf_8 rfl ?_
  refine lv_idiv hx hb dX9_halfOf_9 (by decide) (lv_topi (fun v24 ev24 => ?_))
  have ev24i : v24.toInt = (v22.toInt / 2) := i_div ev24 rfl (by decide) (by omega) (by decide)
  refine q_icmp_ge hx hb (a := (a1 % 6)) (b := (v22.toInt / 2)) ev21i ev24i (tgt := 17) dX9_halfOf_10 rfl (fun c25 => ?_) (fun c25 => ?_)
  · refine lv_iconst (v := 1) hx hb dX9_halfOf_17 rfl ?_
    have c26 : (1 : Int32).toInt = 1 := (by decide)
    exact ret 1 H0 [] _ _ dX9_halfOf_18 ⟨rfl, ⟨by omega, by omega, by omega⟩⟩ hC0 hS0
  · refine lv_iconst (v := 0) hx hb dX9_halfOf_13 rfl ?_
    refine lv_goto (tgt := 18) hx hb dX9_halfOf_14 rfl ?_
    have c27 : (0 : Int32).toInt = 0 := (by decide)
    exact ret 0 H0 [] _ _ dX9_halfOf_18 ⟨rfl, ⟨by omega, by omega, by omega⟩⟩ hC0 hS0
set_option maxRecDepth 100000 in
set_option maxHeartbeats 4000000 in
theorem m_X9_tellCell (l : Launch) (X : xW) (Γ : Nat → Option Nat) (H0 : Heap) (hC0 : Conf X Γ H0) (h0 : Nat) (g0 : Γ h0 = some 5) (p1 : Int32) {a1 : Int} (e1 : p1.toInt = a1) (p2 : Int32) {a2 : Int} (e2 : p2.toInt = a2) (sn wl su lw ic kn hd us br ar fi : Nat) (yn : YN X Γ H0 h0 sn wl su lw ic kn hd us br ar fi) (r0 : 0 ≤ a1) (r1 : a1 ≤ 35) (r2 : a1 % 6 < (sI H0 h0 (X.1.2 8 0)).toInt) (r3 : a1 / 6 < (sI H0 h0 (X.1.2 8 1)).toInt) (r4 : 0 ≤ a2) (r5 : a2 ≤ 5) : Ctr l X Γ yX9_tellCell cX9_tellCell 3 (some .int) 2 [.ref h0, .int p1, .int p2] H0 (QI X Γ (fun v H1 => H1 = H0 ∧ ((a2 = 0 → v.toInt = aI H0 sn a1) ∧ (a2 = 1 → v.toInt = aI H0 wl a1) ∧ (a2 = 4 → ((v.toInt = 0 ∧ a1 % 6 < (sI H0 h0 (X.1.2 8 0)).toInt / 2) ∨ (v.toInt = 1 ∧ (sI H0 h0 (X.1.2 8 0)).toInt / 2 ≤ a1 % 6))) ∧ (0 ≤ v.toInt) ∧ (v.toInt ≤ 99)))) := by
  refine q_enterI (own := "SnowForts$Yard") (by decide) rfl (Nat.le_of_ble_eq_true rfl) ?_
  intro p e s m args below meth c ls Qz E hl ret hS0
  have hx := E.1; have hb := E.2.1
  have hl : lv_has ls 3 [(0, .ref h0), (1, .int p1), (2, .int p2)] := hl
  have gsn := yn.sn.2; have gwl := yn.wl.2; have gsu := yn.su.2; have glw := yn.lw.2; have gic := yn.ic.2; have gkn := yn.kn.2; have ghd := yn.hd.2; have gus := yn.us.2; have gbr := yn.br.2; have gar := yn.ar.2; have gfi := yn.fi.2
  refine lv_aload_n hx hb dX9_tellCell_0 rfl (lv_at hl 0 rfl) ?_
  refine lv_iload_n hx hb dX9_tellCell_1 rfl (lv_at hl 1 rfl) ?_
  refine q_goIp (q_runV (As := [.int p1]) (rest := []) E hC0 hS0 (m_X9_holds l X Γ H0 hC0 h0 g0 p1 (a1 := a1) e1) cw_X9_holds cl_RX9_99 g0 ⟨rfl, rfl⟩ rfl hl.1 rfl (Nat.zero_le _) (by decide) dX9_tellCell_2) hS0 (fun v21 locs21 hr21 hS21 => ?_)
  rcases hr21 with ⟨rfl, f21a0, f21a1, f21a2, f21a3⟩ | ⟨rfl, f21b⟩
  · refine q_if_ne hx hb (a := 1) (by decide) (tgt := 10) dX9_tellCell_5 rfl (fun c22 => ?_) (fun c22 => absurd c22 (by omega))
    refine lv_iload_n hx hb dX9_tellCell_10 rfl (lv_at hl 2 rfl) ?_
    by_cases c23_0 : a2 = 0
    · have c23_x := (show p2.toInt = a2 from e2).trans c23_0
      refine lv_tableIn hx hb dX9_tellCell_11 (by rw [c23_x]; decide) (by rw [c23_x]; decide) (off := 33) (by rw [c23_x]; rfl) (tgt := 44) rfl ?_
      refine lv_aload_n hx hb dX9_tellCell_44 rfl (lv_at hl 0 rfl) ?_
      refine q_getS E hC0 g0 fa_RX9_34 yn.sn.1 dX9_tellCell_45 (fun _ => ?_)
      refine lv_iload_n hx hb dX9_tellCell_48 rfl (lv_at hl 1 rfl) ?_
      refine q_iald E hC0 gsn rfl rfl (fun _ h => h) (i_in (a := a1) e1 (by omega) (by omega)) dX9_tellCell_49 (fun v24 ev24 lv24 uv24 => ?_)
      have m25 : aI H0 sn a1 = v24.toInt := aI_of e1 ev24
      have c26 : v24.toInt = v24.toInt := rfl
      exact ret v24 H0 locs21 _ _ dX9_tellCell_50 ⟨rfl, ⟨fun q => by omega, fun q => by omega, fun q => by omega, by omega, by omega⟩⟩ hC0 hS21
    by_cases c23_1 : a2 = 1
    · have c23_x := (show p2.toInt = a2 from e2).trans c23_1
      refine lv_tableIn hx hb dX9_tellCell_11 (by rw [c23_x]; decide) (by rw [c23_x]; decide) (off := 40) (by rw [c23_x]; rfl) (tgt := 51) rfl ?_
      refine lv_aload_n hx hb dX9_tellCell_51 rfl (lv_at hl 0 rfl) ?_
      refine q_getS E hC0 g0 fa_RX9_37 yn.wl.1 dX9_tellCell_52 (fun _ => ?_)
      refine lv_iload_n hx hb dX9_tellCell_55 rfl (lv_at hl 1 rfl) ?_
      refine q_iald E hC0 gwl rfl rfl (fun _ h => h) (i_in (a := a1) e1 (by omega) (by omega)) dX9_tellCell_56 (fun v27 ev27 lv27 uv27 => ?_)
      have m28 : aI H0 wl a1 = v27.toInt := aI_of e1 ev27
      have c29 : v27.toInt = v27.toInt := rfl
      exact ret v27 H0 locs21 _ _ dX9_tellCell_57 ⟨rfl, ⟨fun q => by omega, fun q => by omega, fun q => by omega, by omega, by omega⟩⟩ hC0 hS21
    by_cases c23_2 : a2 = 2
    · have c23_x := (show p2.toInt = a2 from e2).trans c23_2
      refine lv_tableIn hx hb dX9_tellCell_11 (by rw [c23_x]; decide) (by rw [c23_x]; decide) (off := 47) (by rw [c23_x]; rfl) (tgt := 58) rfl ?_
      refine lv_aload_n hx hb dX9_tellCell_58 rfl (lv_at hl 0 rfl) ?_
      refine q_getS E hC0 g0 fa_RX9_40 yn.su.1 dX9_tellCell_59 (fun _ => ?_)
      refine lv_iload_n hx hb dX9_tellCell_62 rfl (lv_at hl 1 rfl) ?_
      refine q_iald E hC0 gsu rfl rfl (fun _ h => h) (i_in (a := a1) e1 (by omega) (by omega)) dX9_tellCell_63 (fun v30 ev30 lv30 uv30 => ?_)
      have m31 : aI H0 su a1 = v30.toInt := aI_of e1 ev30
      have c32 : v30.toInt = v30.toInt := rfl
      exact ret v30 H0 locs21 _ _ dX9_tellCell_64 ⟨rfl, ⟨fun q => by omega, fun q => by omega, fun q => by omega, by omega, by omega⟩⟩ hC0 hS21
    by_cases c23_3 : a2 = 3
    · have c23_x := (show p2.toInt = a2 from e2).trans c23_3
      refine lv_tableIn hx hb dX9_tellCell_11 (by rw [c23_x]; decide) (by rw [c23_x]; decide) (off := 54) (by rw [c23_x]; rfl) (tgt := 65) rfl ?_
      refine lv_aload_n hx hb dX9_tellCell_65 rfl (lv_at hl 0 rfl) ?_
      refine q_getS E hC0 g0 fa_RX9_43 yn.lw.1 dX9_tellCell_66 (fun _ => ?_)
      refine lv_iload_n hx hb dX9_tellCell_69 rfl (lv_at hl 1 rfl) ?_
      refine q_iald E hC0 glw rfl rfl (fun _ h => h) (i_in (a := a1) e1 (by omega) (by omega)) dX9_tellCell_70 (fun v33 ev33 lv33 uv33 => ?_)
      have m34 : aI H0 lw a1 = v33.toInt := aI_of e1 ev33
      have c35 : v33.toInt = v33.toInt := rfl
      exact ret v33 H0 locs21 _ _ dX9_tellCell_71 ⟨rfl, ⟨fun q => by omega, fun q => by omega, fun q => by omega, by omega, by omega⟩⟩ hC0 hS21
    by_cases c23_4 : a2 = 4
    · have c23_x := (show p2.toInt = a2 from e2).trans c23_4
      refine lv_tableIn hx hb dX9_tellCell_11 (by rw [c23_x]; decide) (by rw [c23_x]; decide) (off := 61) (by rw [c23_x]; rfl) (tgt := 72) rfl ?_
      refine lv_aload_n hx hb dX9_tellCell_72 rfl (lv_at hl 0 rfl) ?_
      refine lv_iload_n hx hb dX9_tellCell_73 rfl (lv_at hl 1 rfl) ?_
      refine q_goIp (q_runV (As := [.int p1]) (rest := []) E hC0 hS21 (m_X9_halfOf l X Γ H0 hC0 h0 g0 p1 (a1 := a1) e1 (by omega) (by omega)) cw_X9_halfOf cl_RX9_102 g0 ⟨rfl, rfl⟩ rfl hl.1 rfl (Nat.zero_le _) (by decide) dX9_tellCell_74) hS21 (fun v36 locs36 hr36 hS36 => ?_)
      obtain ⟨f36_0, f36_1, f36_2⟩ := hr36
      have c37 : v36.toInt = v36.toInt := rfl
      exact ret v36 H0 locs36 _ _ dX9_tellCell_77 ⟨rfl, ⟨fun q => by omega, fun q => by omega, fun q => by omega, by omega, by omega⟩⟩ hC0 hS36
    refine lv_tableOut hx hb dX9_tellCell_11 (by rw [show p2.toInt = a2 from e2]; omega) (tgt := 78) rfl ?_
    refine lv_aload_n hx hb dX9_tellCell_78 rfl (lv_at hl 0 rfl) ?_
    refine q_getS E hC0 g0 fa_RX9_46 yn.ic.1 dX9_tellCell_79 (fun _ => ?_)
    refine lv_iload_n hx hb dX9_tellCell_82 rfl (lv_at hl 1 rfl) ?_
    refine q_iald E hC0 gic rfl rfl (fun _ h => h) (i_in (a := a1) e1 (by omega) (by omega)) dX9_tellCell_83 (fun v38 ev38 lv38 uv38 => ?_)
    have m39 : aI H0 ic a1 = v38.toInt := aI_of e1 ev38
    have c40 : v38.toInt = v38.toInt := rfl
    exact ret v38 H0 locs21 _ _ dX9_tellCell_84 ⟨rfl, ⟨fun q => by omega, fun q => by omega, fun q => by omega, by omega, by omega⟩⟩ hC0 hS21
  · refine q_if_ne hx hb (a := 0) (by decide) (tgt := 10) dX9_tellCell_5 rfl (fun c41 => absurd c41 (by omega)) (fun c41 => ?_)
    (exfalso; omega)
set_option maxRecDepth 100000 in
set_option maxHeartbeats 4000000 in
theorem m_X11_cell (l : Launch) (X : xW) (Γ : Nat → Option Nat) (H0 : Heap) (hC0 : Conf X Γ H0) (h0 : Nat) (g0 : Γ h0 = some 0) (p1 : Int32) {a1 : Int} (e1 : p1.toInt = a1) (p2 : Int32) {a2 : Int} (e2 : p2.toInt = a2) (p3 : Int32) {a3 : Int} (e3 : p3.toInt = a3) (yd : Nat) (hyd : sR H0 h0 (X.1.2 10 5) = some yd) (gyd : Γ yd = some 5) (sn wl su lw ic kn hd us br ar fi : Nat) (yn : YN X Γ H0 yd sn wl su lw ic kn hd us br ar fi) (r0 : 0 ≤ a1) (r1 : a1 ≤ 5) (r2 : a1 < (sI H0 yd (X.1.2 8 0)).toInt) (r3 : 0 ≤ a2) (r4 : a2 ≤ 5) (r5 : a2 < (sI H0 yd (X.1.2 8 1)).toInt) (r6 : 0 ≤ a3) (r7 : a3 ≤ 5) : Ctr l X Γ yX11_cell cX11_cell 4 (some .int) 3 [.ref h0, .int p1, .int p2, .int p3] H0 (QI X Γ (fun v H1 => Kp X Γ [3, 29, 31, 32, 33, 34, 37, 39, 40, 50, 51, 52, 53, 54, 55, 56, 57, 58, 59, 60, 61, 62, 63, 65, 67, 68, 69, 70, 71] H0 H1 ∧ ((a3 = 0 → v.toInt = aI H0 sn (a2 * 6 + a1)) ∧ (a3 = 1 → v.toInt = aI H0 wl (a2 * 6 + a1)) ∧ (a3 = 4 → ((v.toInt = 0 ∧ a1 < (sI H0 yd (X.1.2 8 0)).toInt / 2) ∨ (v.toInt = 1 ∧ (sI H0 yd (X.1.2 8 0)).toInt / 2 ≤ a1))) ∧ (0 ≤ v.toInt) ∧ (v.toInt ≤ 99)))) := by
  refine q_enterI (own := "SnowForts") (by decide) rfl (Nat.le_of_ble_eq_true rfl) ?_
  intro p e s m args below meth c ls Qz E hl ret hS0
  have hx := E.1; have hb := E.2.1
  have hKp0 : Kp X Γ [3, 29, 31, 32, 33, 34, 37, 39, 40, 50, 51, 52, 53, 54, 55, 56, 57, 58, 59, 60, 61, 62, 63, 65, 67, 68, 69, 70, 71] H0 H0 := Kp.rf
  have hl : lv_has ls 4 [(0, .ref h0), (1, .int p1), (2, .int p2), (3, .int p3)] := hl
  have gsn := yn.sn.2; have gwl := yn.wl.2; have gsu := yn.su.2; have glw := yn.lw.2; have gic := yn.ic.2; have gkn := yn.kn.2; have ghd := yn.hd.2; have gus := yn.us.2; have gbr := yn.br.2; have gar := yn.ar.2; have gfi := yn.fi.2
  refine lv_aload_n hx hb dX11_cell_0 rfl (lv_at hl 0 rfl) ?_
  refine q_getS E hC0 g0 fa_RX11_42 hyd dX11_cell_1 (fun _ => ?_)
  refine lv_iload_n hx hb dX11_cell_4 rfl (lv_at hl 1 rfl) ?_
  refine lv_iload_n hx hb dX11_cell_5 rfl (lv_at hl 2 rfl) ?_
  refine q_goIp (q_runV (As := [.int p1, .int p2]) (rest := []) E hC0 hS0 (m_X9_isCell l X Γ H0 hC0 yd gyd p1 (a1 := a1) e1 p2 (a2 := a2) e2) cw_X9_isCell cl_RX11_209 gyd ⟨rfl, rfl⟩ rfl hl.1 rfl (Nat.zero_le _) (by decide) dX11_cell_6) hS0 (fun v21 locs21 hr21 hS21 => ?_)
  rcases hr21 with ⟨rfl, f21a0, f21a1, f21a2, f21a3, f21a4, f21a5⟩ | ⟨rfl, f21b⟩
  · refine q_if_ne hx hb (a := 1) (by decide) (tgt := 18) dX11_cell_9 rfl (fun c22 => ?_) (fun c22 => absurd c22 (by omega))
    refine lv_iload_n hx hb dX11_cell_18 rfl (lv_at hl 3 rfl) ?_
    refine lv_i2l (v := p3.toInt64) hx hb dX11_cell_19 rfl (lv_topl (fun v23 ev23 => ?_))
    have ev23i : v23.toInt = a3 := l_ofi ev23.symm e3
    refine lv_iconst (v := 0) hx hb dX11_cell_20 rfl ?_
    refine lv_iconst (v := 5) hx hb dX11_cell_21 rfl ?_
    refine q_goIp (q_runS (As := [.long v23, .int 0, .int 5]) (rest := []) E hS21 (m_X11_isWithin l X Γ H0 hC0 v23 (a0 := a3) ev23i 0 (a1 := 0) (by decide) 5 (a2 := 5) (by decide)) cw_X11_isWithin cl_RX11_113 rfl hl.1 rfl (Nat.zero_le _) (by decide) dX11_cell_22) hS21 (fun v24 locs24 hr24 hS24 => ?_)
    rcases hr24 with ⟨rfl, f24a0, f24a1⟩ | ⟨rfl, f24b⟩
    · refine q_if_ne hx hb (a := 1) (by decide) (tgt := 34) dX11_cell_25 rfl (fun c25 => ?_) (fun c25 => absurd c25 (by omega))
      refine lv_aload_n hx hb dX11_cell_34 rfl (lv_at hl 0 rfl) ?_
      refine lv_aload_n hx hb dX11_cell_35 rfl (lv_at hl 0 rfl) ?_
      refine q_getS E hC0 g0 fa_RX11_42 hyd dX11_cell_36 (fun _ => ?_)
      refine lv_iload_n hx hb dX11_cell_39 rfl (lv_at hl 2 rfl) ?_
      refine lv_bipush (v := 6) hx hb dX11_cell_40 rfl ?_
      refine lv_imul hx hb dX11_cell_42 (lv_topi (fun v26 ev26 => ?_))
      have ev26i : v26.toInt = (a2 * 6) := i_mul ev26 e2 (by decide) (by omega) (by omega)
      refine lv_iload_n hx hb dX11_cell_43 rfl (lv_at hl 1 rfl) ?_
      refine lv_iadd hx hb dX11_cell_44 (lv_topi (fun v27 ev27 => ?_))
      have ev27i : v27.toInt = ((a2 * 6) + a1) := i_add ev27 ev26i e1 (by omega) (by omega)
      refine lv_iload_n hx hb dX11_cell_45 rfl (lv_at hl 3 rfl) ?_
      refine q_goIp (q_runV (As := [.int v27, .int p3]) (rest := [.ref h0]) E hC0 hS24 (m_X9_tellCell l X Γ H0 hC0 yd gyd v27 (a1 := ((a2 * 6) + a1)) ev27i p3 (a2 := a3) e3 sn wl su lw ic kn hd us br ar fi yn (by omega) (by omega) (by omega) (by omega) (by omega) (by omega)) cw_X9_tellCell cl_RX11_212 gyd ⟨rfl, rfl⟩ rfl hl.1 rfl (show _ ≤ _ from by simp [Value.category]) (by decide) dX11_cell_46) hS24 (fun v28 locs28 hr28 hS28 => ?_)
      obtain ⟨f28_0, f28_1, f28_2, f28_3, f28_4⟩ := hr28
      refine q_goI (q_runV (As := [.int v28]) (rest := []) E hC0 hS28 (m_X11_answer l X Γ H0 hC0 h0 g0 v28 (a1 := v28.toInt) rfl) cw_X11_answer cl_RX11_191 g0 ⟨rfl, rfl⟩ rfl hl.1 rfl (Nat.zero_le _) (by decide) dX11_cell_49) hS28 (fun v29 H29 locs29 hr29 hC29 hS29 => ?_)
      obtain ⟨hp29, hr29⟩ := hr29
      have hKp29 := hKp0.tr (hp29.mono rfl)
      have m30 : (sI H29 yd (X.1.2 8 0)).toInt = (sI H0 yd (X.1.2 8 0)).toInt := congrArg Int32.toInt (kp_I hp29 gyd (ci := 8) (k := 0) rfl (by decide) rfl)
      have m31 : (sI H29 yd (X.1.2 8 1)).toInt = (sI H0 yd (X.1.2 8 1)).toInt := congrArg Int32.toInt (kp_I hp29 gyd (ci := 8) (k := 1) rfl (by decide) rfl)
      have m32 : (sI H29 yd (X.1.2 8 2)).toInt = (sI H0 yd (X.1.2 8 2)).toInt := congrArg Int32.toInt (kp_I hp29 gyd (ci := 8) (k := 2) rfl (by decide) rfl)
      obtain ⟨f29_0, f29_1⟩ := hr29
      have c33 : v29.toInt = v29.toInt := rfl
      exact ret v29 H29 locs29 _ _ dX11_cell_52 ⟨hKp29, ⟨fun q => by omega, fun q => by omega, fun q => by omega, by omega, by omega⟩⟩ hC29 hS29
    · refine q_if_ne hx hb (a := 0) (by decide) (tgt := 34) dX11_cell_25 rfl (fun c34 => absurd c34 (by omega)) (fun c34 => ?_)
      (exfalso; omega)
  · refine q_if_ne hx hb (a := 0) (by decide) (tgt := 18) dX11_cell_9 rfl (fun c35 => absurd c35 (by omega)) (fun c35 => ?_)
    (exfalso; omega)
set_option maxRecDepth 100000 in
set_option maxHeartbeats 4000000 in
theorem m_X9_isSchool (l : Launch) (X : xW) (Γ : Nat → Option Nat) (H0 : Heap) (hC0 : Conf X Γ H0) (h0 : Nat) (g0 : Γ h0 = some 5) (p1 : Int32) {a1 : Int} (e1 : p1.toInt = a1) : Ctr l X Γ yX9_isSchool cX9_isSchool 2 (some .boolean) 0 [.ref h0, .int p1] H0 (QI X Γ (fun v H1 => H1 = H0 ∧ ((v = 1 ∧ (0 ≤ a1 ∧ a1 < (sI H0 h0 (X.1.2 8 2)).toInt ∧ a1 ≤ 1)) ∨ (v = 0 ∧ (a1 < 0 ∨ (sI H0 h0 (X.1.2 8 2)).toInt ≤ a1 ∨ 2 ≤ a1))))) := by
  refine q_enterZ (own := "SnowForts$Yard") (by decide) rfl (Nat.le_of_ble_eq_true rfl) ?_
  intro p e s m args below meth c ls Qz E hl ret hS0
  have hx := E.1; have hb := E.2.1
  have hl : lv_has ls 2 [(0, .ref h0), (1, .int p1)] := hl
  refine lv_iload_n hx hb dX9_isSchool_0 rfl (lv_at hl 1 rfl) ?_
  refine q_if_lt hx hb (a := a1) e1 (tgt := 21) dX9_isSchool_1 rfl (fun c21 => ?_) (fun c21 => ?_)
  · refine lv_iconst (v := 0) hx hb dX9_isSchool_21 rfl ?_
    exact ret 0 H0 [] _ _ dX9_isSchool_22 (Or.inl rfl) ⟨rfl, Or.inr ⟨rfl, by omega⟩⟩ hC0 hS0
  · refine lv_iload_n hx hb dX9_isSchool_4 rfl (lv_at hl 1 rfl) ?_
    refine lv_aload_n hx hb dX9_isSchool_5 rfl (lv_at hl 0 rfl) ?_
    refine q_getI E hC0 g0 fa_RX9_52 dX9_isSchool_6 (fun v22 ev22 lv22 uv22 => ?_)
    have m23 : (sI H0 h0 (X.1.2 8 2)).toInt = v22.toInt := (congrArg Int32.toInt ev22).trans rfl
    refine q_icmp_ge hx hb (a := a1) (b := v22.toInt) e1 rfl (tgt := 21) dX9_isSchool_9 rfl (fun c24 => ?_) (fun c24 => ?_)
    · refine lv_iconst (v := 0) hx hb dX9_isSchool_21 rfl ?_
      exact ret 0 H0 [] _ _ dX9_isSchool_22 (Or.inl rfl) ⟨rfl, Or.inr ⟨rfl, by omega⟩⟩ hC0 hS0
    · refine lv_iload_n hx hb dX9_isSchool_12 rfl (lv_at hl 1 rfl) ?_
      refine lv_iconst (v := 2) hx hb dX9_isSchool_13 rfl ?_
      refine q_icmp_ge hx hb (a := a1) (b := 2) e1 (by decide) (tgt := 21) dX9_isSchool_14 rfl (fun c25 => absurd c25 (by omega)) (fun c25 => ?_)
      refine lv_iconst (v := 1) hx hb dX9_isSchool_17 rfl ?_
      refine lv_goto (tgt := 22) hx hb dX9_isSchool_18 rfl ?_
      exact ret 1 H0 [] _ _ dX9_isSchool_22 (Or.inr rfl) ⟨rfl, Or.inl ⟨rfl, by omega, by omega, by omega⟩⟩ hC0 hS0
set_option maxRecDepth 100000 in
set_option maxHeartbeats 4000000 in
theorem m_X9_isIn (l : Launch) (X : xW) (Γ : Nat → Option Nat) (H0 : Heap) (hC0 : Conf X Γ H0) (h0 : Nat) (g0 : Γ h0 = some 5) (p1 : Int32) {a1 : Int} (e1 : p1.toInt = a1) (p2 : Int32) {a2 : Int} (e2 : p2.toInt = a2) (r0 : 0 ≤ a2) (r1 : a2 ≤ 35) : Ctr l X Γ yX9_isIn cX9_isIn 5 (some .boolean) 0 [.ref h0, .int p1, .int p2] H0 (QI X Γ (fun v H1 => H1 = H0 ∧ ((v = 1 ∧ (inB (sI H0 h0 (X.1.2 8 0)).toInt (sI H0 h0 (X.1.2 8 1)).toInt a1 a2 = true)) ∨ (v = 0 ∧ (inB (sI H0 h0 (X.1.2 8 0)).toInt (sI H0 h0 (X.1.2 8 1)).toInt a1 a2 = false))))) := by
  refine q_enterZ (own := "SnowForts$Yard") (by decide) rfl (Nat.le_of_ble_eq_true rfl) ?_
  intro p e s m args below meth c ls Qz E hl ret hS0
  have hx := E.1; have hb := E.2.1
  have hl : lv_has ls 5 [(0, .ref h0), (1, .int p1), (2, .int p2)] := hl
  refine lv_iload_n hx hb dX9_isIn_0 rfl (lv_at hl 2 rfl) ?_
  refine lv_bipush (v := 6) hx hb dX9_isIn_1 rfl ?_
  refine lv_irem hx hb dX9_isIn_3 (by decide) (lv_topi (fun v21 ev21 => ?_))
  have ev21i : v21.toInt = (a2 % 6) := i_rem ev21 e2 (by decide) (by omega) (by decide)
  refine lv_istore_n hx hb dX9_isIn_4 rfl hl (by decide) rfl (fun ls hl => ?_)
  replace hl : lv_has ls 5 [(3, .int v21), (0, .ref h0), (1, .int p1), (2, .int p2)] := hl
  refine lv_iload_n hx hb dX9_isIn_5 rfl (lv_at hl 0 rfl) ?_
  refine lv_aload_n hx hb dX9_isIn_6 rfl (lv_at hl 1 rfl) ?_
  refine q_getI E hC0 g0 fa_RX9_9 dX9_isIn_7 (fun v22 ev22 lv22 uv22 => ?_)
  have m23 : (sI H0 h0 (X.1.2 8 0)).toInt = v22.toInt := (congrArg Int32.toInt ev22).trans rfl
  refine lv_iconst (v := 2) hx hb dX9_isIn_10 rfl ?_
  refine lv_idiv hx hb dX9_isIn_11 (by decide) (lv_topi (fun v24 ev24 => ?_))
  have ev24i : v24.toInt = (v22.toInt / 2) := i_div ev24 rfl (by decide) (by omega) (by decide)
  refine q_icmp_ge hx hb (a := (a2 % 6)) (b := (v22.toInt / 2)) ev21i ev24i (tgt := 19) dX9_isIn_12 rfl (fun c25 => ?_) (fun c25 => ?_)
  · refine lv_iconst (v := 0) hx hb dX9_isIn_19 rfl ?_
    refine lv_istore hx hb dX9_isIn_20 hl (by decide) rfl (fun ls hl => ?_)
    replace hl : lv_has ls 5 [(4, .int 0), (3, .int v21), (0, .ref h0), (1, .int p1), (2, .int p2)] := hl
    refine lv_iload_n hx hb dX9_isIn_22 rfl (lv_at hl 1 rfl) ?_
    refine lv_aload_n hx hb dX9_isIn_23 rfl (lv_at hl 2 rfl) ?_
    refine q_getI E hC0 g0 fa_RX9_9 dX9_isIn_24 (fun v26 ev26 lv26 uv26 => ?_)
    have qv26 := ev22.symm.trans ev26; subst qv26
    refine q_icmp_ge hx hb (a := (a2 % 6)) (b := v22.toInt) ev21i rfl (tgt := 59) dX9_isIn_27 rfl (fun c27 => ?_) (fun c27 => ?_)
    · refine lv_iconst (v := 0) hx hb dX9_isIn_59 rfl ?_
      exact ret 0 H0 [] _ _ dX9_isIn_60 (Or.inl rfl) ⟨rfl, Or.inr ⟨rfl, inB_f (by omega)⟩⟩ hC0 hS0
    · refine lv_iload_n hx hb dX9_isIn_30 rfl (lv_at hl 4 rfl) ?_
      refine lv_bipush (v := 6) hx hb dX9_isIn_31 rfl ?_
      refine lv_idiv hx hb dX9_isIn_33 (by decide) (lv_topi (fun v28 ev28 => ?_))
      have ev28i : v28.toInt = (a2 / 6) := i_div ev28 e2 (by decide) (by omega) (by decide)
      refine lv_aload_n hx hb dX9_isIn_34 rfl (lv_at hl 2 rfl) ?_
      refine q_getI E hC0 g0 fa_RX9_15 dX9_isIn_35 (fun v29 ev29 lv29 uv29 => ?_)
      have m30 : (sI H0 h0 (X.1.2 8 1)).toInt = v29.toInt := (congrArg Int32.toInt ev29).trans rfl
      refine q_icmp_ge hx hb (a := (a2 / 6)) (b := v29.toInt) ev28i rfl (tgt := 59) dX9_isIn_38 rfl (fun c31 => ?_) (fun c31 => ?_)
      · refine lv_iconst (v := 0) hx hb dX9_isIn_59 rfl ?_
        exact ret 0 H0 [] _ _ dX9_isIn_60 (Or.inl rfl) ⟨rfl, Or.inr ⟨rfl, inB_f (by omega)⟩⟩ hC0 hS0
      · refine lv_iload hx hb dX9_isIn_41 (lv_at hl 0 rfl) ?_
        refine lv_iload_n hx hb dX9_isIn_43 rfl (lv_at hl 3 rfl) ?_
        refine q_if_ne hx hb (a := a1) e1 (tgt := 51) dX9_isIn_44 rfl (fun c32 => ?_) (fun c32 => ?_)
        · refine lv_iconst (v := 0) hx hb dX9_isIn_51 rfl ?_
          refine q_icmp_ne hx hb (a := 0) (b := 0) (by decide) (by decide) (tgt := 59) dX9_isIn_52 rfl (fun c33 => absurd c33 (by omega)) (fun c33 => ?_)
          refine lv_iconst (v := 1) hx hb dX9_isIn_55 rfl ?_
          refine lv_goto (tgt := 60) hx hb dX9_isIn_56 rfl ?_
          exact ret 1 H0 [] _ _ dX9_isIn_60 (Or.inr rfl) ⟨rfl, Or.inl ⟨rfl, inB_t (by omega) (by omega) (by omega)⟩⟩ hC0 hS0
        · refine lv_iconst (v := 1) hx hb dX9_isIn_47 rfl ?_
          refine lv_goto (tgt := 52) hx hb dX9_isIn_48 rfl ?_
          refine q_icmp_ne hx hb (a := 0) (b := 1) (by decide) (by decide) (tgt := 59) dX9_isIn_52 rfl (fun c34 => ?_) (fun c34 => absurd c34 (by omega))
          refine lv_iconst (v := 0) hx hb dX9_isIn_59 rfl ?_
          exact ret 0 H0 [] _ _ dX9_isIn_60 (Or.inl rfl) ⟨rfl, Or.inr ⟨rfl, inB_f (by omega)⟩⟩ hC0 hS0
  · refine lv_iconst (v := 1) hx hb dX9_isIn_15 rfl ?_
    refine lv_goto (tgt := 20) hx hb dX9_isIn_16 rfl ?_
    refine lv_istore hx hb dX9_isIn_20 hl (by decide) rfl (fun ls hl => ?_)
    replace hl : lv_has ls 5 [(4, .int 1), (3, .int v21), (0, .ref h0), (1, .int p1), (2, .int p2)] := hl
    refine lv_iload_n hx hb dX9_isIn_22 rfl (lv_at hl 1 rfl) ?_
    refine lv_aload_n hx hb dX9_isIn_23 rfl (lv_at hl 2 rfl) ?_
    refine q_getI E hC0 g0 fa_RX9_9 dX9_isIn_24 (fun v35 ev35 lv35 uv35 => ?_)
    have qv35 := ev22.symm.trans ev35; subst qv35
    refine q_icmp_ge hx hb (a := (a2 % 6)) (b := v22.toInt) ev21i rfl (tgt := 59) dX9_isIn_27 rfl (fun c36 => ?_) (fun c36 => ?_)
    · refine lv_iconst (v := 0) hx hb dX9_isIn_59 rfl ?_
      exact ret 0 H0 [] _ _ dX9_isIn_60 (Or.inl rfl) ⟨rfl, Or.inr ⟨rfl, inB_f (by omega)⟩⟩ hC0 hS0
    · refine lv_iload_n hx hb dX9_isIn_30 rfl (lv_at hl 4 rfl) ?_
      refine lv_bipush (v := 6) hx hb dX9_isIn_31 rfl ?_
      refine lv_idiv hx hb dX9_isIn_33 (by decide) (lv_topi (fun v37 ev37 => ?_))
      have ev37i : v37.toInt = (a2 / 6) := i_div ev37 e2 (by decide) (by omega) (by decide)
      refine lv_aload_n hx hb dX9_isIn_34 rfl (lv_at hl 2 rfl) ?_
      refine q_getI E hC0 g0 fa_RX9_15 dX9_isIn_35 (fun v38 ev38 lv38 uv38 => ?_)
      have m39 : (sI H0 h0 (X.1.2 8 1)).toInt = v38.toInt := (congrArg Int32.toInt ev38).trans rfl
      refine q_icmp_ge hx hb (a := (a2 / 6)) (b := v38.toInt) ev37i rfl (tgt := 59) dX9_isIn_38 rfl (fun c40 => ?_) (fun c40 => ?_)
      · refine lv_iconst (v := 0) hx hb dX9_isIn_59 rfl ?_
        exact ret 0 H0 [] _ _ dX9_isIn_60 (Or.inl rfl) ⟨rfl, Or.inr ⟨rfl, inB_f (by omega)⟩⟩ hC0 hS0
      · refine lv_iload hx hb dX9_isIn_41 (lv_at hl 0 rfl) ?_
        refine lv_iload_n hx hb dX9_isIn_43 rfl (lv_at hl 3 rfl) ?_
        refine q_if_ne hx hb (a := a1) e1 (tgt := 51) dX9_isIn_44 rfl (fun c41 => ?_) (fun c41 => ?_)
        · refine lv_iconst (v := 0) hx hb dX9_isIn_51 rfl ?_
          refine q_icmp_ne hx hb (a := 1) (b := 0) (by decide) (by decide) (tgt := 59) dX9_isIn_52 rfl (fun c42 => ?_) (fun c42 => absurd c42 (by omega))
          refine lv_iconst (v := 0) hx hb dX9_isIn_59 rfl ?_
          exact ret 0 H0 [] _ _ dX9_isIn_60 (Or.inl rfl) ⟨rfl, Or.inr ⟨rfl, inB_f (by omega)⟩⟩ hC0 hS0
        · refine lv_iconst (v := 1) hx hb dX9_isIn_47 rfl ?_
          refine lv_goto (tgt := 52) hx hb dX9_isIn_48 rfl ?_
          refine q_icmp_ne hx hb (a := 1) (b := 1) (by decide) (by decide) (tgt := 59) dX9_isIn_52 rfl (fun c43 => absurd c43 (by omega)) (fun c43 => ?_)
          refine lv_iconst (v := 1) hx hb dX9_isIn_55 rfl ?_
          refine lv_goto (tgt := 60) hx hb dX9_isIn_56 rfl ?_
          exact ret 1 H0 [] _ _ dX9_isIn_60 (Or.inr rfl) ⟨rfl, Or.inl ⟨rfl, inB_t (by omega) (by omega) (by omega)⟩⟩ hC0 hS0
set_option maxRecDepth 100000 in
set_option maxHeartbeats 4000000 in
theorem m_X9_icedCells (l : Launch) (X : xW) (Γ : Nat → Option Nat) (H0 : Heap) (hC0 : Conf X Γ H0) (h0 : Nat) (g0 : Γ h0 = some 5) (p1 : Int32) {a1 : Int} (e1 : p1.toInt = a1) (sn wl su lw ic kn hd us br ar fi : Nat) (yn : YN X Γ H0 h0 sn wl su lw ic kn hd us br ar fi) (r0 : 0 ≤ a1) (r1 : a1 ≤ 1) : Ctr l X Γ yX9_icedCells cX9_icedCells 4 (some .int) 1 [.ref h0, .int p1] H0 (QI X Γ (fun v H1 => H1 = H0 ∧ ((0 ≤ v.toInt) ∧ (v.toInt ≤ 36)))) := by
  refine q_enterI (own := "SnowForts$Yard") (by decide) rfl (Nat.le_of_ble_eq_true rfl) ?_
  intro p e s m args below meth c ls Qz E hl ret hS0
  have hx := E.1; have hb := E.2.1
  have hl : lv_has ls 4 [(0, .ref h0), (1, .int p1)] := hl
  have gsn := yn.sn.2; have gwl := yn.wl.2; have gsu := yn.su.2; have glw := yn.lw.2; have gic := yn.ic.2; have gkn := yn.kn.2; have ghd := yn.hd.2; have gus := yn.us.2; have gbr := yn.br.2; have gar := yn.ar.2; have gfi := yn.fi.2
  refine lv_iconst (v := 0) hx hb dX9_icedCells_0 rfl ?_
  refine lv_istore_n hx hb dX9_icedCells_1 rfl hl (by decide) rfl (fun ls hl => ?_)
  replace hl : lv_has ls 4 [(2, .int 0), (0, .ref h0), (1, .int p1)] := hl
  refine lv_iconst (v := 0) hx hb dX9_icedCells_2 rfl ?_
  refine lv_istore_n hx hb dX9_icedCells_3 rfl hl (by decide) rfl (fun ls hl => ?_)
  replace hl : lv_has ls 4 [(3, .int 0), (2, .int 0), (0, .ref h0), (1, .int p1)] := hl
  have L4 : ∀ (n23 : Nat) (locs23 : List Loc) (v21 : Int32) (z21 : Int) (v22 : Int32) (z22 : Int) (ls : Array Slot), (36 - z21).toNat < n23 → v21.toInt = z21 → v22.toInt = z22 → z21 ≤ 36 → 0 ≤ z21 → 0 ≤ z22 → z22 ≤ z21 → va_S (AΓ Γ) H0 H0 locs23 → lv_has ls 4 [(3, .int v21), (2, .int v22), (0, .ref h0), (1, .int p1)] → W p l e (rmL 1) s m args below meth c H0 locs23 0 0 Qz (F0 m 4 ls []) := by
    intro n23
    induction n23 with
    | zero => intro locs23 v21 z21 v22 z22 ls hm23 ev21 ev22 iv23_0 iv23_1 iv23_2 iv23_3 hS23 hl; exact absurd hm23 (Nat.not_lt_zero _)
    | succ n23 ih23 =>
      intro locs23 v21 z21 v22 z22 ls hm23 ev21 ev22 iv23_0 iv23_1 iv23_2 iv23_3 hS23 hl
      refine lv_iload_n hx hb dX9_icedCells_4 rfl (lv_at hl 0 rfl) ?_
      refine lv_bipush (v := 36) hx hb dX9_icedCells_5 rfl ?_
      refine q_icmp_ge hx hb (a := z21) (b := 36) ev21 (by decide) (tgt := 38) dX9_icedCells_7 rfl (fun c24 => ?_) (fun c24 => ?_)
      · refine lv_iload_n hx hb dX9_icedCells_38 rfl (lv_at hl 1 rfl) ?_
        have c25 : v22.toInt = z22 := ev22
        exact ret v22 H0 locs23 _ _ dX9_icedCells_39 ⟨rfl, ⟨by omega, by omega⟩⟩ hC0 hS23
      · refine lv_iload_n hx hb dX9_icedCells_10 rfl (lv_at hl 1 rfl) ?_
        refine lv_aload_n hx hb dX9_icedCells_11 rfl (lv_at hl 2 rfl) ?_
        refine lv_iload_n hx hb dX9_icedCells_12 rfl (lv_at hl 3 rfl) ?_
        refine lv_iload_n hx hb dX9_icedCells_13 rfl (lv_at hl 0 rfl) ?_
        refine q_goIp (q_runV (As := [.int p1, .int v21]) (rest := [.int v22]) E hC0 hS23 (m_X9_isIn l X Γ H0 hC0 h0 g0 p1 (a1 := a1) e1 v21 (a2 := z21) ev21 (by omega) (by omega)) cw_X9_isIn cl_RX9_111 g0 ⟨rfl, rfl⟩ rfl hl.1 rfl (show _ ≤ _ from by simp [Value.category]) (by decide) dX9_icedCells_14) hS23 (fun v26 locs26 hr26 hS26 => ?_)
        rcases hr26 with ⟨rfl, hib⟩ | ⟨rfl, hib⟩
        · refine q_if_eq hx hb (a := 1) (by decide) (tgt := 29) dX9_icedCells_17 rfl (fun c27 => absurd c27 (by omega)) (fun c27 => ?_)
          refine lv_aload_n hx hb dX9_icedCells_20 rfl (lv_at hl 2 rfl) ?_
          refine q_getS E hC0 g0 fa_RX9_46 yn.ic.1 dX9_icedCells_21 (fun _ => ?_)
          refine lv_iload_n hx hb dX9_icedCells_24 rfl (lv_at hl 0 rfl) ?_
          refine q_iald E hC0 gic rfl rfl (fun _ h => h) (i_in (a := z21) ev21 (by omega) (by omega)) dX9_icedCells_25 (fun v28 ev28 lv28 uv28 => ?_)
          have m29 : aI H0 ic z21 = v28.toInt := aI_of ev21 ev28
          refine lv_goto (tgt := 30) hx hb dX9_icedCells_26 rfl ?_
          refine lv_iadd hx hb dX9_icedCells_30 (lv_topi (fun v30 ev30 => ?_))
          have ev30i : v30.toInt = (z22 + v28.toInt) := i_add ev30 ev22 rfl (by omega) (by omega)
          refine lv_istore_n hx hb dX9_icedCells_31 rfl hl (by decide) rfl (fun ls hl => ?_)
          replace hl : lv_has ls 4 [(2, .int v30), (3, .int v21), (0, .ref h0), (1, .int p1)] := hl
          obtain ⟨v31, ev31⟩ : ∃ z, z = v21 + Int32.ofInt 1 := ⟨_, rfl⟩
          have ev31i : v31.toInt = (z21 + 1) := i_add ev31 ev21 (by decide) (by omega) (by omega)
          refine lv_iinc hx hb dX9_icedCells_32 hl (k := 1) rfl ev31.symm (by decide) rfl (fun ls hl => ?_)
          replace hl : lv_has ls 4 [(3, .int v31), (2, .int v30), (0, .ref h0), (1, .int p1)] := hl
          refine lv_goto (tgt := 4) hx hb dX9_icedCells_35 rfl ?_
          exact ih23 locs26 v31 ((z21 + 1)) v30 ((z22 + v28.toInt)) ls (ms_lt hm23 (by omega) (by omega)) ev31i ev30i (by omega) (by omega) (by omega) (by omega) hS26 hl
        · refine q_if_eq hx hb (a := 0) (by decide) (tgt := 29) dX9_icedCells_17 rfl (fun c32 => ?_) (fun c32 => absurd c32 (by omega))
          refine lv_iconst (v := 0) hx hb dX9_icedCells_29 rfl ?_
          refine lv_iadd hx hb dX9_icedCells_30 (lv_topi (fun v33 ev33 => ?_))
          have ev33i : v33.toInt = (z22 + 0) := i_add ev33 ev22 (by decide) (by omega) (by omega)
          refine lv_istore_n hx hb dX9_icedCells_31 rfl hl (by decide) rfl (fun ls hl => ?_)
          replace hl : lv_has ls 4 [(2, .int v33), (3, .int v21), (0, .ref h0), (1, .int p1)] := hl
          obtain ⟨v34, ev34⟩ : ∃ z, z = v21 + Int32.ofInt 1 := ⟨_, rfl⟩
          have ev34i : v34.toInt = (z21 + 1) := i_add ev34 ev21 (by decide) (by omega) (by omega)
          refine lv_iinc hx hb dX9_icedCells_32 hl (k := 1) rfl ev34.symm (by decide) rfl (fun ls hl => ?_)
          replace hl : lv_has ls 4 [(3, .int v34), (2, .int v33), (0, .ref h0), (1, .int p1)] := hl
          refine lv_goto (tgt := 4) hx hb dX9_icedCells_35 rfl ?_
          exact ih23 locs26 v34 ((z21 + 1)) v33 ((z22 + 0)) ls (ms_lt hm23 (by omega) (by omega)) ev34i ev33i (by omega) (by omega) (by omega) (by omega) hS26 hl
  exact L4 _ [] 0 0 0 0 ls (Nat.lt_succ_self _) (by decide) (by decide) (by omega) (by omega) (by omega) (by omega) hS0 hl
set_option maxRecDepth 100000 in
set_option maxHeartbeats 4000000 in
theorem m_X9_wallsOf (l : Launch) (X : xW) (Γ : Nat → Option Nat) (H0 : Heap) (hC0 : Conf X Γ H0) (h0 : Nat) (g0 : Γ h0 = some 5) (p1 : Int32) {a1 : Int} (e1 : p1.toInt = a1) (sn wl su lw ic kn hd us br ar fi : Nat) (yn : YN X Γ H0 h0 sn wl su lw ic kn hd us br ar fi) (r0 : 0 ≤ a1) (r1 : a1 ≤ 1) : Ctr l X Γ yX9_wallsOf cX9_wallsOf 4 (some .int) 1 [.ref h0, .int p1] H0 (QI X Γ (fun v H1 => H1 = H0 ∧ ((v.toInt = sumF (inS (sI H0 h0 (X.1.2 8 0)).toInt (sI H0 h0 (X.1.2 8 1)).toInt a1 (aI H0 wl)) 36) ∧ (0 ≤ v.toInt) ∧ (v.toInt ≤ 3564)))) := by
  refine q_enterI (own := "SnowForts$Yard") (by decide) rfl (Nat.le_of_ble_eq_true rfl) ?_
  intro p e s m args below meth c ls Qz E hl ret hS0
  have hx := E.1; have hb := E.2.1
  have hl : lv_has ls 4 [(0, .ref h0), (1, .int p1)] := hl
  have gsn := yn.sn.2; have gwl := yn.wl.2; have gsu := yn.su.2; have glw := yn.lw.2; have gic := yn.ic.2; have gkn := yn.kn.2; have ghd := yn.hd.2; have gus := yn.us.2; have gbr := yn.br.2; have gar := yn.ar.2; have gfi := yn.fi.2
  refine lv_iconst (v := 0) hx hb dX9_wallsOf_0 rfl ?_
  refine lv_istore_n hx hb dX9_wallsOf_1 rfl hl (by decide) rfl (fun ls hl => ?_)
  replace hl : lv_has ls 4 [(2, .int 0), (0, .ref h0), (1, .int p1)] := hl
  refine lv_iconst (v := 0) hx hb dX9_wallsOf_2 rfl ?_
  refine lv_istore_n hx hb dX9_wallsOf_3 rfl hl (by decide) rfl (fun ls hl => ?_)
  replace hl : lv_has ls 4 [(3, .int 0), (2, .int 0), (0, .ref h0), (1, .int p1)] := hl
  have L4 : ∀ (n23 : Nat) (locs23 : List Loc) (v21 : Int32) (z21 : Int) (v22 : Int32) (z22 : Int) (ls : Array Slot), (36 - z21).toNat < n23 → v21.toInt = z21 → v22.toInt = z22 → z21 ≤ 36 → 0 ≤ z21 → z22 = sumF (inS (sI H0 h0 (X.1.2 8 0)).toInt (sI H0 h0 (X.1.2 8 1)).toInt a1 (aI H0 wl)) (z21).toNat → 0 ≤ z22 → z22 ≤ 99 * z21 → va_S (AΓ Γ) H0 H0 locs23 → lv_has ls 4 [(3, .int v21), (2, .int v22), (0, .ref h0), (1, .int p1)] → W p l e (rmL 1) s m args below meth c H0 locs23 0 0 Qz (F0 m 4 ls []) := by
    intro n23
    induction n23 with
    | zero => intro locs23 v21 z21 v22 z22 ls hm23 ev21 ev22 iv23_0 iv23_1 iv23_2 iv23_3 iv23_4 hS23 hl; exact absurd hm23 (Nat.not_lt_zero _)
    | succ n23 ih23 =>
      intro locs23 v21 z21 v22 z22 ls hm23 ev21 ev22 iv23_0 iv23_1 iv23_2 iv23_3 iv23_4 hS23 hl
      have hs9 := iv23_2
      refine lv_iload_n hx hb dX9_wallsOf_4 rfl (lv_at hl 0 rfl) ?_
      refine lv_bipush (v := 36) hx hb dX9_wallsOf_5 rfl ?_
      refine q_icmp_ge hx hb (a := z21) (b := 36) ev21 (by decide) (tgt := 34) dX9_wallsOf_7 rfl (fun c24 => ?_) (fun c24 => ?_)
      · refine lv_iload_n hx hb dX9_wallsOf_34 rfl (lv_at hl 1 rfl) ?_
        rw [show (z21).toNat = 36 by omega] at hs9
        have c25 : v22.toInt = z22 := ev22
        exact ret v22 H0 locs23 _ _ dX9_wallsOf_35 ⟨rfl, ⟨by omega, by omega, by omega⟩⟩ hC0 hS23
      · refine lv_aload_n hx hb dX9_wallsOf_10 rfl (lv_at hl 2 rfl) ?_
        refine lv_iload_n hx hb dX9_wallsOf_11 rfl (lv_at hl 3 rfl) ?_
        refine lv_iload_n hx hb dX9_wallsOf_12 rfl (lv_at hl 0 rfl) ?_
        refine q_goIp (q_runV (As := [.int p1, .int v21]) (rest := []) E hC0 hS23 (m_X9_isIn l X Γ H0 hC0 h0 g0 p1 (a1 := a1) e1 v21 (a2 := z21) ev21 (by omega) (by omega)) cw_X9_isIn cl_RX9_111 g0 ⟨rfl, rfl⟩ rfl hl.1 rfl (Nat.zero_le _) (by decide) dX9_wallsOf_13) hS23 (fun v26 locs26 hr26 hS26 => ?_)
        rcases hr26 with ⟨rfl, hib⟩ | ⟨rfl, hib⟩
        · refine q_if_eq hx hb (a := 1) (by decide) (tgt := 28) dX9_wallsOf_16 rfl (fun c27 => absurd c27 (by omega)) (fun c27 => ?_)
          refine lv_iload_n hx hb dX9_wallsOf_19 rfl (lv_at hl 1 rfl) ?_
          refine lv_aload_n hx hb dX9_wallsOf_20 rfl (lv_at hl 2 rfl) ?_
          refine q_getS E hC0 g0 fa_RX9_37 yn.wl.1 dX9_wallsOf_21 (fun _ => ?_)
          refine lv_iload_n hx hb dX9_wallsOf_24 rfl (lv_at hl 0 rfl) ?_
          refine q_iald E hC0 gwl rfl rfl (fun _ h => h) (i_in (a := z21) ev21 (by omega) (by omega)) dX9_wallsOf_25 (fun v28 ev28 lv28 uv28 => ?_)
          have m29 : aI H0 wl z21 = v28.toInt := aI_of ev21 ev28
          refine lv_iadd hx hb dX9_wallsOf_26 (lv_topi (fun v30 ev30 => ?_))
          have ev30i : v30.toInt = (z22 + v28.toInt) := i_add ev30 ev22 rfl (by omega) (by omega)
          refine lv_istore_n hx hb dX9_wallsOf_27 rfl hl (by decide) rfl (fun ls hl => ?_)
          replace hl : lv_has ls 4 [(2, .int v30), (3, .int v21), (0, .ref h0), (1, .int p1)] := hl
          have hn9 : (z22 + v28.toInt) = sumF (inS (sI H0 h0 (X.1.2 8 0)).toInt (sI H0 h0 (X.1.2 8 1)).toInt a1 (aI H0 wl)) (z21 + 1).toNat := by rw [show (z21 + 1).toNat = (z21).toNat + 1 by omega]; first | exact sumF_in hs9 (by omega) hib (by omega) | exact sumF_out hs9 (by omega) hib
          obtain ⟨v31, ev31⟩ : ∃ z, z = v21 + Int32.ofInt 1 := ⟨_, rfl⟩
          have ev31i : v31.toInt = (z21 + 1) := i_add ev31 ev21 (by decide) (by omega) (by omega)
          refine lv_iinc hx hb dX9_wallsOf_28 hl (k := 1) rfl ev31.symm (by decide) rfl (fun ls hl => ?_)
          replace hl : lv_has ls 4 [(3, .int v31), (2, .int v30), (0, .ref h0), (1, .int p1)] := hl
          refine lv_goto (tgt := 4) hx hb dX9_wallsOf_31 rfl ?_
          exact ih23 locs26 v31 ((z21 + 1)) v30 ((z22 + v28.toInt)) ls (ms_lt hm23 (by omega) (by omega)) ev31i ev30i (by omega) (by omega) (hn9) (by omega) (by omega) hS26 hl
        · refine q_if_eq hx hb (a := 0) (by decide) (tgt := 28) dX9_wallsOf_16 rfl (fun c32 => ?_) (fun c32 => absurd c32 (by omega))
          have hn9 : z22 = sumF (inS (sI H0 h0 (X.1.2 8 0)).toInt (sI H0 h0 (X.1.2 8 1)).toInt a1 (aI H0 wl)) (z21 + 1).toNat := by rw [show (z21 + 1).toNat = (z21).toNat + 1 by omega]; first | exact sumF_in hs9 (by omega) hib (by omega) | exact sumF_out hs9 (by omega) hib
          obtain ⟨v33, ev33⟩ : ∃ z, z = v21 + Int32.ofInt 1 := ⟨_, rfl⟩
          have ev33i : v33.toInt = (z21 + 1) := i_add ev33 ev21 (by decide) (by omega) (by omega)
          refine lv_iinc hx hb dX9_wallsOf_28 hl (k := 0) rfl ev33.symm (by decide) rfl (fun ls hl => ?_)
          replace hl : lv_has ls 4 [(3, .int v33), (2, .int v22), (0, .ref h0), (1, .int p1)] := hl
          refine lv_goto (tgt := 4) hx hb dX9_wallsOf_31 rfl ?_
          exact ih23 locs26 v33 ((z21 + 1)) v22 (z22) ls (ms_lt hm23 (by omega) (by omega)) ev33i ev22 (by omega) (by omega) (hn9) (by omega) (by omega) hS26 hl
  exact L4 _ [] 0 0 0 0 ls (Nat.lt_succ_self _) (by decide) (by decide) (by omega) (by omega) (rfl) (by omega) (by omega) hS0 hl
set_option maxRecDepth 100000 in
set_option maxHeartbeats 4000000 in
theorem m_X9_tellSchool (l : Launch) (X : xW) (Γ : Nat → Option Nat) (H0 : Heap) (hC0 : Conf X Γ H0) (h0 : Nat) (g0 : Γ h0 = some 5) (p1 : Int32) {a1 : Int} (e1 : p1.toInt = a1) (p2 : Int32) {a2 : Int} (e2 : p2.toInt = a2) (sn wl su lw ic kn hd us br ar fi : Nat) (yn : YN X Γ H0 h0 sn wl su lw ic kn hd us br ar fi) (r0 : 0 ≤ a1) (r1 : a1 ≤ 1) (r2 : a1 < (sI H0 h0 (X.1.2 8 2)).toInt) (r3 : 0 ≤ a2) (r4 : a2 ≤ 4) : Ctr l X Γ yX9_tellSchool cX9_tellSchool 3 (some .int) 2 [.ref h0, .int p1, .int p2] H0 (QI X Γ (fun v H1 => H1 = H0 ∧ ((a2 = 0 → v.toInt = aI H0 hd a1) ∧ (a2 = 1 → v.toInt = aI H0 us a1) ∧ (a2 = 2 → v = sI H0 br (a1 : Int).toNat) ∧ (a2 = 4 → v.toInt = sumF (inS (sI H0 h0 (X.1.2 8 0)).toInt (sI H0 h0 (X.1.2 8 1)).toInt a1 (aI H0 wl)) 36)))) := by
  refine q_enterI (own := "SnowForts$Yard") (by decide) rfl (Nat.le_of_ble_eq_true rfl) ?_
  intro p e s m args below meth c ls Qz E hl ret hS0
  have hx := E.1; have hb := E.2.1
  have hl : lv_has ls 3 [(0, .ref h0), (1, .int p1), (2, .int p2)] := hl
  have gsn := yn.sn.2; have gwl := yn.wl.2; have gsu := yn.su.2; have glw := yn.lw.2; have gic := yn.ic.2; have gkn := yn.kn.2; have ghd := yn.hd.2; have gus := yn.us.2; have gbr := yn.br.2; have gar := yn.ar.2; have gfi := yn.fi.2
  refine lv_aload_n hx hb dX9_tellSchool_0 rfl (lv_at hl 0 rfl) ?_
  refine lv_iload_n hx hb dX9_tellSchool_1 rfl (lv_at hl 1 rfl) ?_
  refine q_goIp (q_runV (As := [.int p1]) (rest := []) E hC0 hS0 (m_X9_isSchool l X Γ H0 hC0 h0 g0 p1 (a1 := a1) e1) cw_X9_isSchool cl_RX9_87 g0 ⟨rfl, rfl⟩ rfl hl.1 rfl (Nat.zero_le _) (by decide) dX9_tellSchool_2) hS0 (fun v21 locs21 hr21 hS21 => ?_)
  rcases hr21 with ⟨rfl, f21a0, f21a1, f21a2⟩ | ⟨rfl, f21b⟩
  · refine q_if_ne hx hb (a := 1) (by decide) (tgt := 10) dX9_tellSchool_5 rfl (fun c22 => ?_) (fun c22 => absurd c22 (by omega))
    refine lv_iload_n hx hb dX9_tellSchool_10 rfl (lv_at hl 2 rfl) ?_
    by_cases c23_0 : a2 = 0
    · have c23_x := (show p2.toInt = a2 from e2).trans c23_0
      refine lv_tableIn hx hb dX9_tellSchool_11 (by rw [c23_x]; decide) (by rw [c23_x]; decide) (off := 29) (by rw [c23_x]; rfl) (tgt := 40) rfl ?_
      refine lv_aload_n hx hb dX9_tellSchool_40 rfl (lv_at hl 0 rfl) ?_
      refine q_getS E hC0 g0 fa_RX9_18 yn.hd.1 dX9_tellSchool_41 (fun _ => ?_)
      refine lv_iload_n hx hb dX9_tellSchool_44 rfl (lv_at hl 1 rfl) ?_
      refine q_iald E hC0 ghd rfl rfl (fun _ h => h) (i_in (a := a1) e1 (by omega) (by omega)) dX9_tellSchool_45 (fun v24 ev24 lv24 uv24 => ?_)
      have m25 : aI H0 hd a1 = v24.toInt := aI_of e1 ev24
      have c26 : v24.toInt = v24.toInt := rfl
      exact ret v24 H0 locs21 _ _ dX9_tellSchool_46 ⟨rfl, ⟨fun q => by omega, fun q => by omega, fun q => by first | (exfalso; omega) | exact hbr9, fun q => by omega⟩⟩ hC0 hS21
    by_cases c23_1 : a2 = 1
    · have c23_x := (show p2.toInt = a2 from e2).trans c23_1
      refine lv_tableIn hx hb dX9_tellSchool_11 (by rw [c23_x]; decide) (by rw [c23_x]; decide) (off := 36) (by rw [c23_x]; rfl) (tgt := 47) rfl ?_
      refine lv_aload_n hx hb dX9_tellSchool_47 rfl (lv_at hl 0 rfl) ?_
      refine q_getS E hC0 g0 fa_RX9_22 yn.us.1 dX9_tellSchool_48 (fun _ => ?_)
      refine lv_iload_n hx hb dX9_tellSchool_51 rfl (lv_at hl 1 rfl) ?_
      refine q_iald E hC0 gus rfl rfl (fun _ h => h) (i_in (a := a1) e1 (by omega) (by omega)) dX9_tellSchool_52 (fun v27 ev27 lv27 uv27 => ?_)
      have m28 : aI H0 us a1 = v27.toInt := aI_of e1 ev27
      have c29 : v27.toInt = v27.toInt := rfl
      exact ret v27 H0 locs21 _ _ dX9_tellSchool_53 ⟨rfl, ⟨fun q => by omega, fun q => by omega, fun q => by first | (exfalso; omega) | exact hbr9, fun q => by omega⟩⟩ hC0 hS21
    by_cases c23_2 : a2 = 2
    · have c23_x := (show p2.toInt = a2 from e2).trans c23_2
      refine lv_tableIn hx hb dX9_tellSchool_11 (by rw [c23_x]; decide) (by rw [c23_x]; decide) (off := 43) (by rw [c23_x]; rfl) (tgt := 54) rfl ?_
      refine lv_aload_n hx hb dX9_tellSchool_54 rfl (lv_at hl 0 rfl) ?_
      refine q_getS E hC0 g0 fa_RX9_25 yn.br.1 dX9_tellSchool_55 (fun _ => ?_)
      refine lv_iload_n hx hb dX9_tellSchool_58 rfl (lv_at hl 1 rfl) ?_
      refine q_iald E hC0 gbr rfl rfl (fun _ h => h) (i_in (a := a1) e1 (by omega) (by omega)) dX9_tellSchool_59 (fun v30 ev30 _ _ => ?_)
      have m31 : aI H0 br a1 = v30.toInt := aI_of e1 ev30
      have hbr9 : v30 = sI H0 br (a1 : Int).toNat := by rw [← ev30, i_ix e1]
      have c32 : v30.toInt = v30.toInt := rfl
      exact ret v30 H0 locs21 _ _ dX9_tellSchool_60 ⟨rfl, ⟨fun q => by omega, fun q => by omega, fun q => by first | (exfalso; omega) | exact hbr9, fun q => by omega⟩⟩ hC0 hS21
    by_cases c23_3 : a2 = 3
    · have c23_x := (show p2.toInt = a2 from e2).trans c23_3
      refine lv_tableIn hx hb dX9_tellSchool_11 (by rw [c23_x]; decide) (by rw [c23_x]; decide) (off := 50) (by rw [c23_x]; rfl) (tgt := 61) rfl ?_
      refine lv_aload_n hx hb dX9_tellSchool_61 rfl (lv_at hl 0 rfl) ?_
      refine lv_iload_n hx hb dX9_tellSchool_62 rfl (lv_at hl 1 rfl) ?_
      refine q_goIp (q_runV (As := [.int p1]) (rest := []) E hC0 hS21 (m_X9_icedCells l X Γ H0 hC0 h0 g0 p1 (a1 := a1) e1 sn wl su lw ic kn hd us br ar fi yn (by omega) (by omega)) cw_X9_icedCells cl_RX9_105 g0 ⟨rfl, rfl⟩ rfl hl.1 rfl (Nat.zero_le _) (by decide) dX9_tellSchool_63) hS21 (fun v33 locs33 hr33 hS33 => ?_)
      obtain ⟨f33_0, f33_1⟩ := hr33
      have c34 : v33.toInt = v33.toInt := rfl
      exact ret v33 H0 locs33 _ _ dX9_tellSchool_66 ⟨rfl, ⟨fun q => by omega, fun q => by omega, fun q => by first | (exfalso; omega) | exact hbr9, fun q => by omega⟩⟩ hC0 hS33
    refine lv_tableOut hx hb dX9_tellSchool_11 (by rw [show p2.toInt = a2 from e2]; omega) (tgt := 67) rfl ?_
    refine lv_aload_n hx hb dX9_tellSchool_67 rfl (lv_at hl 0 rfl) ?_
    refine lv_iload_n hx hb dX9_tellSchool_68 rfl (lv_at hl 1 rfl) ?_
    refine q_goIp (q_runV (As := [.int p1]) (rest := []) E hC0 hS21 (m_X9_wallsOf l X Γ H0 hC0 h0 g0 p1 (a1 := a1) e1 sn wl su lw ic kn hd us br ar fi yn (by omega) (by omega)) cw_X9_wallsOf cl_RX9_108 g0 ⟨rfl, rfl⟩ rfl hl.1 rfl (Nat.zero_le _) (by decide) dX9_tellSchool_69) hS21 (fun v35 locs35 hr35 hS35 => ?_)
    obtain ⟨f35_0, f35_1, f35_2⟩ := hr35
    have c36 : v35.toInt = v35.toInt := rfl
    exact ret v35 H0 locs35 _ _ dX9_tellSchool_72 ⟨rfl, ⟨fun q => by omega, fun q => by omega, fun q => by first | (exfalso; omega) | exact hbr9, fun q => by omega⟩⟩ hC0 hS35
  · refine q_if_ne hx hb (a := 0) (by decide) (tgt := 10) dX9_tellSchool_5 rfl (fun c37 => absurd c37 (by omega)) (fun c37 => ?_)
    (exfalso; omega)
set_option maxRecDepth 100000 in
set_option maxHeartbeats 4000000 in
theorem m_X11_school (l : Launch) (X : xW) (Γ : Nat → Option Nat) (H0 : Heap) (hC0 : Conf X Γ H0) (h0 : Nat) (g0 : Γ h0 = some 0) (p1 : Int32) {a1 : Int} (e1 : p1.toInt = a1) (p2 : Int32) {a2 : Int} (e2 : p2.toInt = a2) (yd : Nat) (hyd : sR H0 h0 (X.1.2 10 5) = some yd) (gyd : Γ yd = some 5) (sn wl su lw ic kn hd us br ar fi : Nat) (yn : YN X Γ H0 yd sn wl su lw ic kn hd us br ar fi) (r0 : 0 ≤ a1) (r1 : a1 ≤ 1) (r2 : a1 < (sI H0 yd (X.1.2 8 2)).toInt) (r3 : 0 ≤ a2) (r4 : a2 ≤ 4) : Ctr l X Γ yX11_school cX11_school 3 (some .int) 3 [.ref h0, .int p1, .int p2] H0 (QI X Γ (fun v H1 => Kp X Γ [3, 29, 31, 32, 33, 34, 37, 39, 40, 50, 51, 52, 53, 54, 55, 56, 57, 58, 59, 60, 61, 62, 63, 65, 67, 68, 69, 70, 71] H0 H1 ∧ ((a2 = 0 → v.toInt = aI H0 hd a1) ∧ (a2 = 1 → v.toInt = aI H0 us a1) ∧ (a2 = 2 → v = sI H0 br (a1 : Int).toNat) ∧ (a2 = 4 → v.toInt = sumF (inS (sI H0 yd (X.1.2 8 0)).toInt (sI H0 yd (X.1.2 8 1)).toInt a1 (aI H0 wl)) 36)))) := by
  refine q_enterI (own := "SnowForts") (by decide) rfl (Nat.le_of_ble_eq_true rfl) ?_
  intro p e s m args below meth c ls Qz E hl ret hS0
  have hx := E.1; have hb := E.2.1
  have hKp0 : Kp X Γ [3, 29, 31, 32, 33, 34, 37, 39, 40, 50, 51, 52, 53, 54, 55, 56, 57, 58, 59, 60, 61, 62, 63, 65, 67, 68, 69, 70, 71] H0 H0 := Kp.rf
  have hl : lv_has ls 3 [(0, .ref h0), (1, .int p1), (2, .int p2)] := hl
  have gsn := yn.sn.2; have gwl := yn.wl.2; have gsu := yn.su.2; have glw := yn.lw.2; have gic := yn.ic.2; have gkn := yn.kn.2; have ghd := yn.hd.2; have gus := yn.us.2; have gbr := yn.br.2; have gar := yn.ar.2; have gfi := yn.fi.2
  refine lv_aload_n hx hb dX11_school_0 rfl (lv_at hl 0 rfl) ?_
  refine q_getS E hC0 g0 fa_RX11_42 hyd dX11_school_1 (fun _ => ?_)
  refine lv_iload_n hx hb dX11_school_4 rfl (lv_at hl 1 rfl) ?_
  refine q_goIp (q_runV (As := [.int p1]) (rest := []) E hC0 hS0 (m_X9_isSchool l X Γ H0 hC0 yd gyd p1 (a1 := a1) e1) cw_X9_isSchool cl_RX11_215 gyd ⟨rfl, rfl⟩ rfl hl.1 rfl (Nat.zero_le _) (by decide) dX11_school_5) hS0 (fun v21 locs21 hr21 hS21 => ?_)
  rcases hr21 with ⟨rfl, f21a0, f21a1, f21a2⟩ | ⟨rfl, f21b⟩
  · refine q_if_ne hx hb (a := 1) (by decide) (tgt := 17) dX11_school_8 rfl (fun c22 => ?_) (fun c22 => absurd c22 (by omega))
    refine lv_iload_n hx hb dX11_school_17 rfl (lv_at hl 2 rfl) ?_
    refine lv_i2l (v := p2.toInt64) hx hb dX11_school_18 rfl (lv_topl (fun v23 ev23 => ?_))
    have ev23i : v23.toInt = a2 := l_ofi ev23.symm e2
    refine lv_iconst (v := 0) hx hb dX11_school_19 rfl ?_
    refine lv_iconst (v := 4) hx hb dX11_school_20 rfl ?_
    refine q_goIp (q_runS (As := [.long v23, .int 0, .int 4]) (rest := []) E hS21 (m_X11_isWithin l X Γ H0 hC0 v23 (a0 := a2) ev23i 0 (a1 := 0) (by decide) 4 (a2 := 4) (by decide)) cw_X11_isWithin cl_RX11_113 rfl hl.1 rfl (Nat.zero_le _) (by decide) dX11_school_21) hS21 (fun v24 locs24 hr24 hS24 => ?_)
    rcases hr24 with ⟨rfl, f24a0, f24a1⟩ | ⟨rfl, f24b⟩
    · refine q_if_ne hx hb (a := 1) (by decide) (tgt := 33) dX11_school_24 rfl (fun c25 => ?_) (fun c25 => absurd c25 (by omega))
      refine lv_aload_n hx hb dX11_school_33 rfl (lv_at hl 0 rfl) ?_
      refine lv_aload_n hx hb dX11_school_34 rfl (lv_at hl 0 rfl) ?_
      refine q_getS E hC0 g0 fa_RX11_42 hyd dX11_school_35 (fun _ => ?_)
      refine lv_iload_n hx hb dX11_school_38 rfl (lv_at hl 1 rfl) ?_
      refine lv_iload_n hx hb dX11_school_39 rfl (lv_at hl 2 rfl) ?_
      refine q_goIp (q_runV (As := [.int p1, .int p2]) (rest := [.ref h0]) E hC0 hS24 (m_X9_tellSchool l X Γ H0 hC0 yd gyd p1 (a1 := a1) e1 p2 (a2 := a2) e2 sn wl su lw ic kn hd us br ar fi yn (by omega) (by omega) (by omega) (by omega) (by omega)) cw_X9_tellSchool cl_RX11_218 gyd ⟨rfl, rfl⟩ rfl hl.1 rfl (show _ ≤ _ from by simp [Value.category]) (by decide) dX11_school_40) hS24 (fun v26 locs26 hr26 hS26 => ?_)
      obtain ⟨f26_0, f26_1, f26_2, f26_3⟩ := hr26
      have ht9 := f26_2
      refine q_goI (q_runV (As := [.int v26]) (rest := []) E hC0 hS26 (m_X11_answer l X Γ H0 hC0 h0 g0 v26 (a1 := v26.toInt) rfl) cw_X11_answer cl_RX11_191 g0 ⟨rfl, rfl⟩ rfl hl.1 rfl (Nat.zero_le _) (by decide) dX11_school_43) hS26 (fun v27 H27 locs27 hr27 hC27 hS27 => ?_)
      obtain ⟨hp27, hr27⟩ := hr27
      have hKp27 := hKp0.tr (hp27.mono rfl)
      have m28 : (sI H27 yd (X.1.2 8 0)).toInt = (sI H0 yd (X.1.2 8 0)).toInt := congrArg Int32.toInt (kp_I hp27 gyd (ci := 8) (k := 0) rfl (by decide) rfl)
      have m29 : (sI H27 yd (X.1.2 8 1)).toInt = (sI H0 yd (X.1.2 8 1)).toInt := congrArg Int32.toInt (kp_I hp27 gyd (ci := 8) (k := 1) rfl (by decide) rfl)
      have m30 : (sI H27 yd (X.1.2 8 2)).toInt = (sI H0 yd (X.1.2 8 2)).toInt := congrArg Int32.toInt (kp_I hp27 gyd (ci := 8) (k := 2) rfl (by decide) rfl)
      obtain ⟨f27_0, f27_1⟩ := hr27
      have hv9 := f27_1
      have c31 : v27.toInt = v27.toInt := rfl
      exact ret v27 H27 locs27 _ _ dX11_school_46 ⟨hKp27, ⟨fun q => by omega, fun q => by omega, fun q => hv9.trans (ht9 q), fun q => by omega⟩⟩ hC27 hS27
    · refine q_if_ne hx hb (a := 0) (by decide) (tgt := 33) dX11_school_24 rfl (fun c32 => absurd c32 (by omega)) (fun c32 => ?_)
      (exfalso; omega)
  · refine q_if_ne hx hb (a := 0) (by decide) (tgt := 17) dX11_school_8 rfl (fun c33 => absurd c33 (by omega)) (fun c33 => ?_)
    (exfalso; omega)
set_option maxRecDepth 100000 in
set_option maxHeartbeats 4000000 in
theorem m_X9_heaps (l : Launch) (X : xW) (Γ : Nat → Option Nat) (H0 : Heap) (hC0 : Conf X Γ H0) (h0 : Nat) (g0 : Γ h0 = some 5) (p1 : Int32) {a1 : Int} (e1 : p1.toInt = a1) (p2 : Int32) {a2 : Int} (e2 : p2.toInt = a2) (sn wl su lw ic kn hd us br ar fi : Nat) (yn : YN X Γ H0 h0 sn wl su lw ic kn hd us br ar fi) (r0 : 0 ≤ a1) (r1 : a1 ≤ 35) (r2 : 0 ≤ a2) (r3 : a2 ≤ 40) (r4 : 0 ≤ (sI H0 h0 (X.1.2 8 5)).toInt) (r5 : (sI H0 h0 (X.1.2 8 5)).toInt ≤ 2000000) : Ctr l X Γ yX9_heaps cX9_heaps 4 (some .int) 1 [.ref h0, .int p1, .int p2] H0 (QI X Γ (fun v H1 => Kp X Γ [3, 29, 31, 32, 33, 34, 37, 39, 40, 50, 51, 52, 54, 56, 57, 58, 59, 60, 61, 62, 63, 65, 67, 68, 69, 70, 71, 72] H0 H1 ∧ ((0 ≤ v.toInt) ∧ (v.toInt ≤ a2) ∧ (aI H1 sn a1 = aI H0 sn a1 + a2 - v.toInt) ∧ ((sI H1 h0 (X.1.2 8 5)).toInt = (sI H0 h0 (X.1.2 8 5)).toInt + v.toInt) ∧ (OT H0 H1 sn a1)))) := by
  refine q_enterI (own := "SnowForts$Yard") (by decide) rfl (Nat.le_of_ble_eq_true rfl) ?_
  intro p e s m args below meth c ls Qz E hl ret hS0
  have hx := E.1; have hb := E.2.1
  have hKp0 : Kp X Γ [3, 29, 31, 32, 33, 34, 37, 39, 40, 50, 51, 52, 54, 56, 57, 58, 59, 60, 61, 62, 63, 65, 67, 68, 69, 70, 71, 72] H0 H0 := Kp.rf
  have hl : lv_has ls 4 [(0, .ref h0), (1, .int p1), (2, .int p2)] := hl
  have gsn := yn.sn.2; have gwl := yn.wl.2; have gsu := yn.su.2; have glw := yn.lw.2; have gic := yn.ic.2; have gkn := yn.kn.2; have ghd := yn.hd.2; have gus := yn.us.2; have gbr := yn.br.2; have gar := yn.ar.2; have gfi := yn.fi.2
  have osn : OT H0 H0 sn a1 := OT.rf
  refine lv_iconst (v := 0) hx hb dX9_heaps_0 rfl ?_
  refine lv_aload_n hx hb dX9_heaps_1 rfl (lv_at hl 0 rfl) ?_
  refine q_getS E hC0 g0 fa_RX9_34 yn.sn.1 dX9_heaps_2 (fun _ => ?_)
  refine lv_iload_n hx hb dX9_heaps_5 rfl (lv_at hl 1 rfl) ?_
  refine q_iald E hC0 gsn rfl rfl (fun _ h => h) (i_in (a := a1) e1 (by omega) (by omega)) dX9_heaps_6 (fun v21 ev21 lv21 uv21 => ?_)
  have m22 : aI H0 sn a1 = v21.toInt := aI_of e1 ev21
  refine lv_iload_n hx hb dX9_heaps_7 rfl (lv_at hl 2 rfl) ?_
  refine lv_iadd hx hb dX9_heaps_8 (lv_topi (fun v23 ev23 => ?_))
  have ev23i : v23.toInt = (v21.toInt + a2) := i_add ev23 rfl e2 (by omega) (by omega)
  refine lv_bipush (v := 99) hx hb dX9_heaps_9 rfl ?_
  refine lv_isub hx hb dX9_heaps_11 (lv_topi (fun v24 ev24 => ?_))
  have ev24i : v24.toInt = ((v21.toInt + a2) - 99) := i_sub ev24 ev23i (by decide) (by omega) (by omega)
  refine q_mmax E hl.1 w_511 mathw_max (a := 0) (b := ((v21.toInt + a2) - 99)) (show (0 : Int32).toInt = 0 from by decide) ev24i (by decide) (Nat.zero_le _) dX9_heaps_12 (fun v25 mv25a mv25b mv25c => ?_)
  refine lv_istore_n hx hb dX9_heaps_15 rfl hl (by decide) rfl (fun ls hl => ?_)
  replace hl : lv_has ls 4 [(3, .int v25), (0, .ref h0), (1, .int p1), (2, .int p2)] := hl
  refine lv_aload_n hx hb dX9_heaps_16 rfl (lv_at hl 1 rfl) ?_
  refine q_getS E hC0 g0 fa_RX9_34 yn.sn.1 dX9_heaps_17 (fun _ => ?_)
  refine lv_iload_n hx hb dX9_heaps_20 rfl (lv_at hl 2 rfl) ?_
  refine lv_dup2_11 hx hb dX9_heaps_21 rfl rfl ?_
  refine q_iald E hC0 gsn rfl rfl (fun _ h => h) (i_in (a := a1) e1 (by omega) (by omega)) dX9_heaps_22 (fun v26 ev26 lv26 uv26 => ?_)
  have m27 : aI H0 sn a1 = v26.toInt := aI_of e1 ev26
  refine lv_iload_n hx hb dX9_heaps_23 rfl (lv_at hl 3 rfl) ?_
  refine lv_iload_n hx hb dX9_heaps_24 rfl (lv_at hl 0 rfl) ?_
  refine lv_isub hx hb dX9_heaps_25 (lv_topi (fun v28 ev28 => ?_))
  have ev28i : v28.toInt = (a2 - v25.toInt) := i_sub ev28 e2 rfl (by omega) (by omega)
  refine lv_iadd hx hb dX9_heaps_26 (lv_topi (fun v29 ev29 => ?_))
  have ev29i : v29.toInt = (v26.toInt + (a2 - v25.toInt)) := i_add ev29 rfl ev28i (by omega) (by omega)
  refine q_iast E hC0 hS0 gsn (by decide) rfl rfl (i_in (a := a1) e1 (by omega) (by omega)) (tv_I ev29i (by omega) (by omega)) dX9_heaps_27 (fun H30 locs30 hC30 hS30 U30 => ?_)
  have hKp30 := Kp.upA gsn rfl (by decide) rfl U30 hKp0
  have m31 : aI H30 sn a1 = (v26.toInt + (a2 - v25.toInt)) := aI_up U30 e1 ev29i
  replace osn : OT H0 H30 sn a1 := osn.up U30 e1 (by omega)
  have m33 : (sI H30 h0 (X.1.2 8 0)).toInt = (sI H0 h0 (X.1.2 8 0)).toInt := congrArg Int32.toInt (up_nI U30 (ne_k g0 gsn (by decide)))
  have m34 : (sI H30 h0 (X.1.2 8 1)).toInt = (sI H0 h0 (X.1.2 8 1)).toInt := congrArg Int32.toInt (up_nI U30 (ne_k g0 gsn (by decide)))
  have m35 : (sI H30 h0 (X.1.2 8 2)).toInt = (sI H0 h0 (X.1.2 8 2)).toInt := congrArg Int32.toInt (up_nI U30 (ne_k g0 gsn (by decide)))
  have m36 : (sI H30 h0 (X.1.2 8 5)).toInt = (sI H0 h0 (X.1.2 8 5)).toInt := congrArg Int32.toInt (up_nI U30 (ne_k g0 gsn (by decide)))
  refine lv_aload_n hx hb dX9_heaps_28 rfl (lv_at hl 1 rfl) ?_
  refine lv_dup hx hb dX9_heaps_29 rfl ?_
  refine q_getI E hC30 g0 fa_RX9_61 dX9_heaps_30 (fun v37 ev37 _ _ => ?_)
  have m38 : (sI H30 h0 (X.1.2 8 5)).toInt = v37.toInt := (congrArg Int32.toInt ev37).trans rfl
  refine lv_iload_n hx hb dX9_heaps_33 rfl (lv_at hl 0 rfl) ?_
  refine lv_iadd hx hb dX9_heaps_34 (lv_topi (fun v39 ev39 => ?_))
  have ev39i : v39.toInt = (v37.toInt + v25.toInt) := i_add ev39 rfl rfl (by omega) (by omega)
  refine q_put E hC30 hS30 g0 fp_RX9_61 tv_F rfl rfl dX9_heaps_35 (fun H40 locs40 hC40 hS40 U40 => ?_)
  have hKp40 := Kp.upO E g0 fp_RX9_61 rfl U40 hKp30
  have e41 := up_I U40
  have m42 : (sI H40 h0 (X.1.2 8 5)).toInt = (v37.toInt + v25.toInt) := (congrArg Int32.toInt e41).trans ev39i
  have m43 : aI H40 sn a1 = aI H30 sn a1 := aI_ne U40 (nek g0 gsn (by decide))
  replace osn : OT H0 H40 sn a1 := osn.ne U40 (nek g0 gsn (by decide))
  have m44 : (sI H40 h0 (X.1.2 8 0)).toInt = (sI H30 h0 (X.1.2 8 0)).toInt := congrArg Int32.toInt (up_nI U40 (ne_f E 8 0 5 rfl (by decide) (by decide) (by decide)))
  have m45 : (sI H40 h0 (X.1.2 8 1)).toInt = (sI H30 h0 (X.1.2 8 1)).toInt := congrArg Int32.toInt (up_nI U40 (ne_f E 8 1 5 rfl (by decide) (by decide) (by decide)))
  have m46 : (sI H40 h0 (X.1.2 8 2)).toInt = (sI H30 h0 (X.1.2 8 2)).toInt := congrArg Int32.toInt (up_nI U40 (ne_f E 8 2 5 rfl (by decide) (by decide) (by decide)))
  refine lv_iload_n hx hb dX9_heaps_38 rfl (lv_at hl 0 rfl) ?_
  have c47 : v25.toInt = v25.toInt := rfl
  exact ret v25 H40 locs40 _ _ dX9_heaps_39 ⟨hKp40, ⟨by omega, by omega, by omega, by omega, osn⟩⟩ hC40 hS40
set_option maxRecDepth 100000 in
set_option maxHeartbeats 4000000 in
theorem m_X9_snowFalls (l : Launch) (X : xW) (Γ : Nat → Option Nat) (H0 : Heap) (hC0 : Conf X Γ H0) (h0 : Nat) (g0 : Γ h0 = some 5) (p1 : Int32) {a1 : Int} (e1 : p1.toInt = a1) (sn wl su lw ic kn hd us br ar fi : Nat) (yn : YN X Γ H0 h0 sn wl su lw ic kn hd us br ar fi) (r0 : 0 ≤ a1) (r1 : a1 ≤ 40) (r2 : 0 ≤ (sI H0 h0 (X.1.2 8 5)).toInt) (r3 : (sI H0 h0 (X.1.2 8 5)).toInt ≤ 1000000) (r4 : 0 ≤ (sI H0 h0 (X.1.2 8 6)).toInt) (r5 : (sI H0 h0 (X.1.2 8 6)).toInt ≤ 1000000) : Ctr l X Γ yX9_snowFalls cX9_snowFalls 4 (some .int) 2 [.ref h0, .int p1] H0 (QI X Γ (fun v H1 => Kp X Γ [3, 29, 31, 32, 33, 34, 37, 39, 40, 50, 51, 52, 56, 57, 58, 59, 60, 61, 62, 63, 65, 67, 68, 69, 70, 71, 72] H0 H1 ∧ ((0 ≤ v.toInt) ∧ (SM H1 sn 36 + (sI H1 h0 (X.1.2 8 5)).toInt - (sI H1 h0 (X.1.2 8 6)).toInt = SM H0 sn 36 + (sI H0 h0 (X.1.2 8 5)).toInt - (sI H0 h0 (X.1.2 8 6)).toInt) ∧ ((sI H0 h0 (X.1.2 8 6)).toInt ≤ (sI H1 h0 (X.1.2 8 6)).toInt) ∧ ((sI H1 h0 (X.1.2 8 6)).toInt ≤ (sI H0 h0 (X.1.2 8 6)).toInt + 1440) ∧ ((sI H0 h0 (X.1.2 8 5)).toInt ≤ (sI H1 h0 (X.1.2 8 5)).toInt) ∧ ((sI H1 h0 (X.1.2 8 5)).toInt ≤ (sI H0 h0 (X.1.2 8 5)).toInt + 1440)))) := by
  refine q_enterI (own := "SnowForts$Yard") (by decide) rfl (Nat.le_of_ble_eq_true rfl) ?_
  intro p e s m args below meth c ls Qz E hl ret hS0
  have hx := E.1; have hb := E.2.1
  have hKp0 : Kp X Γ [3, 29, 31, 32, 33, 34, 37, 39, 40, 50, 51, 52, 56, 57, 58, 59, 60, 61, 62, 63, 65, 67, 68, 69, 70, 71, 72] H0 H0 := Kp.rf
  have hl : lv_has ls 4 [(0, .ref h0), (1, .int p1)] := hl
  have gsn := yn.sn.2; have gwl := yn.wl.2; have gsu := yn.su.2; have glw := yn.lw.2; have gic := yn.ic.2; have gkn := yn.kn.2; have ghd := yn.hd.2; have gus := yn.us.2; have gbr := yn.br.2; have gar := yn.ar.2; have gfi := yn.fi.2
  refine lv_iconst (v := 0) hx hb dX9_snowFalls_0 rfl ?_
  refine lv_istore_n hx hb dX9_snowFalls_1 rfl hl (by decide) rfl (fun ls hl => ?_)
  replace hl : lv_has ls 4 [(2, .int 0), (0, .ref h0), (1, .int p1)] := hl
  refine lv_iconst (v := 0) hx hb dX9_snowFalls_2 rfl ?_
  refine lv_istore_n hx hb dX9_snowFalls_3 rfl hl (by decide) rfl (fun ls hl => ?_)
  replace hl : lv_has ls 4 [(3, .int 0), (2, .int 0), (0, .ref h0), (1, .int p1)] := hl
  have L4 : ∀ (n23 : Nat) (H23 : Heap) (locs23 : List Loc) (v21 : Int32) (z21 : Int) (v22 : Int32) (z22 : Int) (ls : Array Slot), (36 - z21).toNat < n23 → v21.toInt = z21 → v22.toInt = z22 → z21 ≤ 36 → 0 ≤ z21 → 0 ≤ z22 → z22 ≤ 40 * z21 → SM H23 sn 36 + (sI H23 h0 (X.1.2 8 5)).toInt - (sI H23 h0 (X.1.2 8 6)).toInt = SM H0 sn 36 + (sI H0 h0 (X.1.2 8 5)).toInt - (sI H0 h0 (X.1.2 8 6)).toInt → (sI H0 h0 (X.1.2 8 6)).toInt ≤ (sI H23 h0 (X.1.2 8 6)).toInt → (sI H23 h0 (X.1.2 8 6)).toInt ≤ (sI H0 h0 (X.1.2 8 6)).toInt + 40 * z21 → (sI H0 h0 (X.1.2 8 5)).toInt ≤ (sI H23 h0 (X.1.2 8 5)).toInt → (sI H23 h0 (X.1.2 8 5)).toInt ≤ (sI H0 h0 (X.1.2 8 5)).toInt + 40 * z21 → (sI H23 h0 (X.1.2 8 0)).toInt = (sI H0 h0 (X.1.2 8 0)).toInt → (sI H23 h0 (X.1.2 8 1)).toInt = (sI H0 h0 (X.1.2 8 1)).toInt → Conf X Γ H23 → va_S (AΓ Γ) H0 H23 locs23 → Kp X Γ [3, 29, 31, 32, 33, 34, 37, 39, 40, 50, 51, 52, 56, 57, 58, 59, 60, 61, 62, 63, 65, 67, 68, 69, 70, 71, 72] H0 H23 → lv_has ls 4 [(3, .int v21), (2, .int v22), (0, .ref h0), (1, .int p1)] → W p l e (rmL 2) s m args below meth c H23 locs23 0 0 Qz (F0 m 4 ls []) := by
    intro n23
    induction n23 with
    | zero => intro H23 locs23 v21 z21 v22 z22 ls hm23 ev21 ev22 iv23_0 iv23_1 iv23_2 iv23_3 iv23_4 iv23_5 iv23_6 iv23_7 iv23_8 iv23_9 iv23_10 hC23 hS23 hKp23 hl; exact absurd hm23 (Nat.not_lt_zero _)
    | succ n23 ih23 =>
      intro H23 locs23 v21 z21 v22 z22 ls hm23 ev21 ev22 iv23_0 iv23_1 iv23_2 iv23_3 iv23_4 iv23_5 iv23_6 iv23_7 iv23_8 iv23_9 iv23_10 hC23 hS23 hKp23 hl
      refine lv_iload_n hx hb dX9_snowFalls_4 rfl (lv_at hl 0 rfl) ?_
      refine lv_bipush (v := 36) hx hb dX9_snowFalls_5 rfl ?_
      refine q_icmp_ge hx hb (a := z21) (b := 36) ev21 (by decide) (tgt := 43) dX9_snowFalls_7 rfl (fun c24 => ?_) (fun c24 => ?_)
      · refine lv_iload_n hx hb dX9_snowFalls_43 rfl (lv_at hl 1 rfl) ?_
        have c25 : v22.toInt = z22 := ev22
        exact ret v22 H23 locs23 _ _ dX9_snowFalls_44 ⟨hKp23, ⟨by omega, by omega, by omega, by omega, by omega, by omega⟩⟩ hC23 hS23
      · refine lv_aload_n hx hb dX9_snowFalls_10 rfl (lv_at hl 2 rfl) ?_
        refine lv_iload_n hx hb dX9_snowFalls_11 rfl (lv_at hl 0 rfl) ?_
        refine q_goIp (q_runV (As := [.int v21]) (rest := []) E hC23 hS23 (m_X9_holds l X Γ H23 hC23 h0 g0 v21 (a1 := z21) ev21) cw_X9_holds cl_RX9_99 g0 ⟨rfl, rfl⟩ rfl hl.1 rfl (Nat.zero_le _) (by decide) dX9_snowFalls_12) hS23 (fun v26 locs26 hr26 hS26 => ?_)
        rcases hr26 with ⟨rfl, f26a0, f26a1, f26a2, f26a3⟩ | ⟨rfl, f26b⟩
        · refine q_if_eq hx hb (a := 1) (by decide) (tgt := 37) dX9_snowFalls_15 rfl (fun c27 => absurd c27 (by omega)) (fun c27 => ?_)
          refine lv_aload_n hx hb dX9_snowFalls_18 rfl (lv_at hl 2 rfl) ?_
          refine lv_dup hx hb dX9_snowFalls_19 rfl ?_
          refine q_getI E hC23 g0 fa_RX9_64 dX9_snowFalls_20 (fun v28 ev28 _ _ => ?_)
          have m29 : (sI H23 h0 (X.1.2 8 6)).toInt = v28.toInt := (congrArg Int32.toInt ev28).trans rfl
          refine lv_iload_n hx hb dX9_snowFalls_23 rfl (lv_at hl 3 rfl) ?_
          refine lv_iadd hx hb dX9_snowFalls_24 (lv_topi (fun v30 ev30 => ?_))
          have ev30i : v30.toInt = (v28.toInt + a1) := i_add ev30 rfl e1 (by omega) (by omega)
          refine q_put E hC23 hS26 g0 fp_RX9_64 tv_F rfl rfl dX9_snowFalls_25 (fun H31 locs31 hC31 hS31 U31 => ?_)
          have hKp31 := Kp.upO E g0 fp_RX9_64 rfl U31 hKp23
          have e32 := up_I U31
          have m33 : (sI H31 h0 (X.1.2 8 6)).toInt = (v28.toInt + a1) := (congrArg Int32.toInt e32).trans ev30i
          have m34 : SM H31 sn 36 = SM H23 sn 36 := SM_ne U31 (nek g0 gsn (by decide))
          have m35 : (sI H31 h0 (X.1.2 8 0)).toInt = (sI H23 h0 (X.1.2 8 0)).toInt := congrArg Int32.toInt (up_nI U31 (ne_f E 8 0 6 rfl (by decide) (by decide) (by decide)))
          have m36 : (sI H31 h0 (X.1.2 8 1)).toInt = (sI H23 h0 (X.1.2 8 1)).toInt := congrArg Int32.toInt (up_nI U31 (ne_f E 8 1 6 rfl (by decide) (by decide) (by decide)))
          have m37 : (sI H31 h0 (X.1.2 8 2)).toInt = (sI H23 h0 (X.1.2 8 2)).toInt := congrArg Int32.toInt (up_nI U31 (ne_f E 8 2 6 rfl (by decide) (by decide) (by decide)))
          have m38 : (sI H31 h0 (X.1.2 8 5)).toInt = (sI H23 h0 (X.1.2 8 5)).toInt := congrArg Int32.toInt (up_nI U31 (ne_f E 8 5 6 rfl (by decide) (by decide) (by decide)))
          refine lv_iload_n hx hb dX9_snowFalls_28 rfl (lv_at hl 1 rfl) ?_
          refine lv_aload_n hx hb dX9_snowFalls_29 rfl (lv_at hl 2 rfl) ?_
          refine lv_iload_n hx hb dX9_snowFalls_30 rfl (lv_at hl 0 rfl) ?_
          refine lv_iload_n hx hb dX9_snowFalls_31 rfl (lv_at hl 3 rfl) ?_
          refine q_goI (q_runV (As := [.int v21, .int p1]) (rest := [.int v22]) E hC31 hS31 (m_X9_heaps l X Γ H31 hC31 h0 g0 v21 (a1 := z21) ev21 p1 (a2 := a1) e1 sn wl su lw ic kn hd us br ar fi (yn.kp g0 hKp31 rfl) (by omega) (by omega) (by omega) (by omega) (by omega) (by omega)) cw_X9_heaps cl_RX9_114 g0 ⟨rfl, rfl⟩ rfl hl.1 rfl (show _ ≤ _ from by simp [Value.category]) (by decide) dX9_snowFalls_32) hS31 (fun v39 H39 locs39 hr39 hC39 hS39 => ?_)
          obtain ⟨hp39, hr39⟩ := hr39
          have hKp39 := hKp31.tr (hp39.mono rfl)
          have m41 : (sI H39 h0 (X.1.2 8 0)).toInt = (sI H31 h0 (X.1.2 8 0)).toInt := congrArg Int32.toInt (kp_I hp39 g0 (k := 0) rfl (by decide) rfl)
          have m42 : (sI H39 h0 (X.1.2 8 1)).toInt = (sI H31 h0 (X.1.2 8 1)).toInt := congrArg Int32.toInt (kp_I hp39 g0 (k := 1) rfl (by decide) rfl)
          have m43 : (sI H39 h0 (X.1.2 8 2)).toInt = (sI H31 h0 (X.1.2 8 2)).toInt := congrArg Int32.toInt (kp_I hp39 g0 (k := 2) rfl (by decide) rfl)
          have m44 : (sI H39 h0 (X.1.2 8 6)).toInt = (sI H31 h0 (X.1.2 8 6)).toInt := congrArg Int32.toInt (kp_I hp39 g0 (k := 6) rfl (by decide) rfl)
          obtain ⟨f39_0, f39_1, f39_2, f39_3, f39_4⟩ := hr39
          have q9 := f39_4.sm (n := 36) (by omega) (by omega)
          refine lv_iadd hx hb dX9_snowFalls_35 (lv_topi (fun v45 ev45 => ?_))
          have ev45i : v45.toInt = (z22 + v39.toInt) := i_add ev45 ev22 rfl (by omega) (by omega)
          refine lv_istore_n hx hb dX9_snowFalls_36 rfl hl (by decide) rfl (fun ls hl => ?_)
          replace hl : lv_has ls 4 [(2, .int v45), (3, .int v21), (0, .ref h0), (1, .int p1)] := hl
          obtain ⟨v46, ev46⟩ : ∃ z, z = v21 + Int32.ofInt 1 := ⟨_, rfl⟩
          have ev46i : v46.toInt = (z21 + 1) := i_add ev46 ev21 (by decide) (by omega) (by omega)
          refine lv_iinc hx hb dX9_snowFalls_37 hl (k := 1) rfl ev46.symm (by decide) rfl (fun ls hl => ?_)
          replace hl : lv_has ls 4 [(3, .int v46), (2, .int v45), (0, .ref h0), (1, .int p1)] := hl
          refine lv_goto (tgt := 4) hx hb dX9_snowFalls_40 rfl ?_
          exact ih23 H39 locs39 v46 ((z21 + 1)) v45 ((z22 + v39.toInt)) ls (ms_lt hm23 (by omega) (by omega)) ev46i ev45i (by omega) (by omega) (by omega) (by omega) (by omega) (by omega) (by omega) (by omega) (by omega) (by omega) (by omega) hC39 hS39 hKp39 hl
        · refine q_if_eq hx hb (a := 0) (by decide) (tgt := 37) dX9_snowFalls_15 rfl (fun c47 => ?_) (fun c47 => absurd c47 (by omega))
          obtain ⟨v48, ev48⟩ : ∃ z, z = v21 + Int32.ofInt 1 := ⟨_, rfl⟩
          have ev48i : v48.toInt = (z21 + 1) := i_add ev48 ev21 (by decide) (by omega) (by omega)
          refine lv_iinc hx hb dX9_snowFalls_37 hl (k := 0) rfl ev48.symm (by decide) rfl (fun ls hl => ?_)
          replace hl : lv_has ls 4 [(3, .int v48), (2, .int v22), (0, .ref h0), (1, .int p1)] := hl
          refine lv_goto (tgt := 4) hx hb dX9_snowFalls_40 rfl ?_
          exact ih23 H23 locs26 v48 ((z21 + 1)) v22 (z22) ls (ms_lt hm23 (by omega) (by omega)) ev48i ev22 (by omega) (by omega) (by omega) (by omega) (by omega) (by omega) (by omega) (by omega) (by omega) (by omega) (by omega) hC23 hS26 hKp23 hl
  exact L4 _ H0 [] 0 0 0 0 ls (Nat.lt_succ_self _) (by decide) (by decide) (by omega) (by omega) (by omega) (by omega) (by omega) (by omega) (by omega) (by omega) (by omega) (by omega) (by omega) hC0 hS0 hKp0 hl
set_option maxRecDepth 100000 in
set_option maxHeartbeats 4000000 in
theorem m_X11_fall (l : Launch) (X : xW) (Γ : Nat → Option Nat) (H0 : Heap) (hC0 : Conf X Γ H0) (h0 : Nat) (g0 : Γ h0 = some 0) (p1 : Int32) {a1 : Int} (e1 : p1.toInt = a1) (yd : Nat) (hyd : sR H0 h0 (X.1.2 10 5) = some yd) (gyd : Γ yd = some 5) (sn wl su lw ic kn hd us br ar fi : Nat) (yn : YN X Γ H0 yd sn wl su lw ic kn hd us br ar fi) (r0 : 0 ≤ a1) (r1 : a1 ≤ 40) (r2 : 0 ≤ (sI H0 yd (X.1.2 8 5)).toInt) (r3 : (sI H0 yd (X.1.2 8 5)).toInt ≤ 1000000) (r4 : 0 ≤ (sI H0 yd (X.1.2 8 6)).toInt) (r5 : (sI H0 yd (X.1.2 8 6)).toInt ≤ 1000000) : Ctr l X Γ yX11_fall cX11_fall 2 (some .int) 3 [.ref h0, .int p1] H0 (QI X Γ (fun v H1 => Kp X Γ [3, 29, 31, 32, 33, 34, 37, 39, 40, 50, 51, 52, 56, 57, 58, 59, 60, 61, 62, 63, 65, 67, 68, 69, 70, 71] H0 H1 ∧ ((0 ≤ v.toInt) ∧ (SM H1 sn 36 + (sI H1 yd (X.1.2 8 5)).toInt - (sI H1 yd (X.1.2 8 6)).toInt = SM H0 sn 36 + (sI H0 yd (X.1.2 8 5)).toInt - (sI H0 yd (X.1.2 8 6)).toInt) ∧ ((sI H0 yd (X.1.2 8 6)).toInt ≤ (sI H1 yd (X.1.2 8 6)).toInt) ∧ ((sI H1 yd (X.1.2 8 6)).toInt ≤ (sI H0 yd (X.1.2 8 6)).toInt + 1440) ∧ ((sI H0 yd (X.1.2 8 5)).toInt ≤ (sI H1 yd (X.1.2 8 5)).toInt) ∧ ((sI H1 yd (X.1.2 8 5)).toInt ≤ (sI H0 yd (X.1.2 8 5)).toInt + 1440)))) := by
  refine q_enterI (own := "SnowForts") (by decide) rfl (Nat.le_of_ble_eq_true rfl) ?_
  intro p e s m args below meth c ls Qz E hl ret hS0
  have hx := E.1; have hb := E.2.1
  have hKp0 : Kp X Γ [3, 29, 31, 32, 33, 34, 37, 39, 40, 50, 51, 52, 56, 57, 58, 59, 60, 61, 62, 63, 65, 67, 68, 69, 70, 71] H0 H0 := Kp.rf
  have hl : lv_has ls 2 [(0, .ref h0), (1, .int p1)] := hl
  have gsn := yn.sn.2; have gwl := yn.wl.2; have gsu := yn.su.2; have glw := yn.lw.2; have gic := yn.ic.2; have gkn := yn.kn.2; have ghd := yn.hd.2; have gus := yn.us.2; have gbr := yn.br.2; have gar := yn.ar.2; have gfi := yn.fi.2
  refine lv_iload_n hx hb dX11_fall_0 rfl (lv_at hl 1 rfl) ?_
  refine lv_i2l (v := p1.toInt64) hx hb dX11_fall_1 rfl (lv_topl (fun v21 ev21 => ?_))
  have ev21i : v21.toInt = a1 := l_ofi ev21.symm e1
  refine lv_iconst (v := 0) hx hb dX11_fall_2 rfl ?_
  refine lv_bipush (v := 40) hx hb dX11_fall_3 rfl ?_
  refine q_goIp (q_runS (As := [.long v21, .int 0, .int 40]) (rest := []) E hS0 (m_X11_isWithin l X Γ H0 hC0 v21 (a0 := a1) ev21i 0 (a1 := 0) (by decide) 40 (a2 := 40) (by decide)) cw_X11_isWithin cl_RX11_113 rfl hl.1 rfl (Nat.zero_le _) (by decide) dX11_fall_5) hS0 (fun v22 locs22 hr22 hS22 => ?_)
  rcases hr22 with ⟨rfl, f22a0, f22a1⟩ | ⟨rfl, f22b⟩
  · refine q_if_eq hx hb (a := 1) (by decide) (tgt := 26) dX11_fall_8 rfl (fun c23 => absurd c23 (by omega)) (fun c23 => ?_)
    refine lv_aload_n hx hb dX11_fall_11 rfl (lv_at hl 0 rfl) ?_
    refine lv_aload_n hx hb dX11_fall_12 rfl (lv_at hl 0 rfl) ?_
    refine q_getS E hC0 g0 fa_RX11_42 hyd dX11_fall_13 (fun _ => ?_)
    refine lv_iload_n hx hb dX11_fall_16 rfl (lv_at hl 1 rfl) ?_
    refine q_goI (q_runV (As := [.int p1]) (rest := [.ref h0]) E hC0 hS22 (m_X9_snowFalls l X Γ H0 hC0 yd gyd p1 (a1 := a1) e1 sn wl su lw ic kn hd us br ar fi yn (by omega) (by omega) (by omega) (by omega) (by omega) (by omega)) cw_X9_snowFalls cl_RX11_232 gyd ⟨rfl, rfl⟩ rfl hl.1 rfl (show _ ≤ _ from by simp [Value.category]) (by decide) dX11_fall_17) hS22 (fun v24 H24 locs24 hr24 hC24 hS24 => ?_)
    obtain ⟨hp24, hr24⟩ := hr24
    have hKp24 := hKp0.tr (hp24.mono rfl)
    have m25 : (sI H24 yd (X.1.2 8 0)).toInt = (sI H0 yd (X.1.2 8 0)).toInt := congrArg Int32.toInt (kp_I hp24 gyd (ci := 8) (k := 0) rfl (by decide) rfl)
    have m26 : (sI H24 yd (X.1.2 8 1)).toInt = (sI H0 yd (X.1.2 8 1)).toInt := congrArg Int32.toInt (kp_I hp24 gyd (ci := 8) (k := 1) rfl (by decide) rfl)
    have m27 : (sI H24 yd (X.1.2 8 2)).toInt = (sI H0 yd (X.1.2 8 2)).toInt := congrArg Int32.toInt (kp_I hp24 gyd (ci := 8) (k := 2) rfl (by decide) rfl)
    obtain ⟨f24_0, f24_1, f24_2, f24_3, f24_4, f24_5⟩ := hr24
    refine q_goI (q_runV (As := [.int v24]) (rest := []) E hC24 hS24 (m_X11_answer l X Γ H24 hC24 h0 g0 v24 (a1 := v24.toInt) rfl) cw_X11_answer cl_RX11_191 g0 ⟨rfl, rfl⟩ rfl hl.1 rfl (Nat.zero_le _) (by decide) dX11_fall_20) hS24 (fun v31 H31 locs31 hr31 hC31 hS31 => ?_)
    obtain ⟨hp31, hr31⟩ := hr31
    have hKp31 := hKp24.tr (hp31.mono rfl)
    have m32 : (sI H31 yd (X.1.2 8 0)).toInt = (sI H24 yd (X.1.2 8 0)).toInt := congrArg Int32.toInt (kp_I hp31 gyd (ci := 8) (k := 0) rfl (by decide) rfl)
    have m33 : (sI H31 yd (X.1.2 8 1)).toInt = (sI H24 yd (X.1.2 8 1)).toInt := congrArg Int32.toInt (kp_I hp31 gyd (ci := 8) (k := 1) rfl (by decide) rfl)
    have m34 : (sI H31 yd (X.1.2 8 2)).toInt = (sI H24 yd (X.1.2 8 2)).toInt := congrArg Int32.toInt (kp_I hp31 gyd (ci := 8) (k := 2) rfl (by decide) rfl)
    have m35 : (sI H31 yd (X.1.2 8 5)).toInt = (sI H24 yd (X.1.2 8 5)).toInt := congrArg Int32.toInt (kp_I hp31 gyd (ci := 8) (k := 5) rfl (by decide) rfl)
    have m36 : (sI H31 yd (X.1.2 8 6)).toInt = (sI H24 yd (X.1.2 8 6)).toInt := congrArg Int32.toInt (kp_I hp31 gyd (ci := 8) (k := 6) rfl (by decide) rfl)
    have m37 : SM H31 sn 36 = SM H24 sn 36 := SM_kp hp31 gsn rfl rfl
    obtain ⟨f31_0, f31_1⟩ := hr31
    refine lv_goto (tgt := 31) hx hb dX11_fall_23 rfl ?_
    have c38 : v31.toInt = v31.toInt := rfl
    exact ret v31 H31 locs31 _ _ dX11_fall_31 ⟨hKp31, ⟨by omega, by omega, by omega, by omega, by omega, by omega⟩⟩ hC31 hS31
  · refine q_if_eq hx hb (a := 0) (by decide) (tgt := 26) dX11_fall_8 rfl (fun c39 => ?_) (fun c39 => absurd c39 (by omega))
    (exfalso; omega)
set_option maxRecDepth 100000 in
set_option maxHeartbeats 4000000 in
theorem m_X9_meltsAt (l : Launch) (X : xW) (Γ : Nat → Option Nat) (H0 : Heap) (hC0 : Conf X Γ H0) (h0 : Nat) (g0 : Γ h0 = some 5) (p1 : Int32) {a1 : Int} (e1 : p1.toInt = a1) (p2 : Int32) {a2 : Int} (e2 : p2.toInt = a2) (sn wl su lw ic kn hd us br ar fi : Nat) (yn : YN X Γ H0 h0 sn wl su lw ic kn hd us br ar fi) (r0 : 0 ≤ a1) (r1 : a1 ≤ 35) (r2 : 0 ≤ a2) (r3 : a2 ≤ 60) : Ctr l X Γ yX9_meltsAt cX9_meltsAt 5 (some .int) 1 [.ref h0, .int p1, .int p2] H0 (QI X Γ (fun v H1 => Kp X Γ [3, 29, 31, 32, 33, 34, 37, 39, 40, 50, 51, 52, 53, 54, 57, 58, 61, 62, 63, 65, 67, 68, 69, 70, 71, 72] H0 H1 ∧ ((0 ≤ v.toInt) ∧ (v.toInt ≤ 198) ∧ (aI H1 sn a1 + aI H1 wl a1 + v.toInt = aI H0 sn a1 + aI H0 wl a1) ∧ (OT H0 H1 sn a1) ∧ (OT H0 H1 wl a1)))) := by
  refine q_enterI (own := "SnowForts$Yard") (by decide) rfl (Nat.le_of_ble_eq_true rfl) ?_
  intro p e s m args below meth c ls Qz E hl ret hS0
  have hx := E.1; have hb := E.2.1
  have hKp0 : Kp X Γ [3, 29, 31, 32, 33, 34, 37, 39, 40, 50, 51, 52, 53, 54, 57, 58, 61, 62, 63, 65, 67, 68, 69, 70, 71, 72] H0 H0 := Kp.rf
  have hl : lv_has ls 5 [(0, .ref h0), (1, .int p1), (2, .int p2)] := hl
  have gsn := yn.sn.2; have gwl := yn.wl.2; have gsu := yn.su.2; have glw := yn.lw.2; have gic := yn.ic.2; have gkn := yn.kn.2; have ghd := yn.hd.2; have gus := yn.us.2; have gbr := yn.br.2; have gar := yn.ar.2; have gfi := yn.fi.2
  have osn : OT H0 H0 sn a1 := OT.rf
  have owl : OT H0 H0 wl a1 := OT.rf
  refine lv_iload_n hx hb dX9_meltsAt_0 rfl (lv_at hl 2 rfl) ?_
  refine lv_aload_n hx hb dX9_meltsAt_1 rfl (lv_at hl 0 rfl) ?_
  refine q_getS E hC0 g0 fa_RX9_34 yn.sn.1 dX9_meltsAt_2 (fun _ => ?_)
  refine lv_iload_n hx hb dX9_meltsAt_5 rfl (lv_at hl 1 rfl) ?_
  refine q_iald E hC0 gsn rfl rfl (fun _ h => h) (i_in (a := a1) e1 (by omega) (by omega)) dX9_meltsAt_6 (fun v21 ev21 lv21 uv21 => ?_)
  have m22 : aI H0 sn a1 = v21.toInt := aI_of e1 ev21
  refine q_mmin E hl.1 w_526 mathw_min (a := a2) (b := v21.toInt) e2 rfl (by decide) (Nat.zero_le _) dX9_meltsAt_7 (fun v23 mv23a mv23b mv23c => ?_)
  refine lv_istore_n hx hb dX9_meltsAt_10 rfl hl (by decide) rfl (fun ls hl => ?_)
  replace hl : lv_has ls 5 [(3, .int v23), (0, .ref h0), (1, .int p1), (2, .int p2)] := hl
  refine lv_aload_n hx hb dX9_meltsAt_11 rfl (lv_at hl 1 rfl) ?_
  refine q_getS E hC0 g0 fa_RX9_46 yn.ic.1 dX9_meltsAt_12 (fun _ => ?_)
  refine lv_iload_n hx hb dX9_meltsAt_15 rfl (lv_at hl 2 rfl) ?_
  refine q_iald E hC0 gic rfl rfl (fun _ h => h) (i_in (a := a1) e1 (by omega) (by omega)) dX9_meltsAt_16 (fun v24 ev24 lv24 uv24 => ?_)
  have m25 : aI H0 ic a1 = v24.toInt := aI_of e1 ev24
  refine lv_iconst (v := 1) hx hb dX9_meltsAt_17 rfl ?_
  refine q_icmp_ne hx hb (a := v24.toInt) (b := 1) rfl (by decide) (tgt := 25) dX9_meltsAt_18 rfl (fun c26 => ?_) (fun c26 => ?_)
  · refine lv_iload_n hx hb dX9_meltsAt_25 rfl (lv_at hl 3 rfl) ?_
    refine lv_iload_n hx hb dX9_meltsAt_26 rfl (lv_at hl 0 rfl) ?_
    refine lv_isub hx hb dX9_meltsAt_27 (lv_topi (fun v27 ev27 => ?_))
    have ev27i : v27.toInt = (a2 - v23.toInt) := i_sub ev27 e2 rfl (by omega) (by omega)
    refine lv_aload_n hx hb dX9_meltsAt_28 rfl (lv_at hl 1 rfl) ?_
    refine q_getS E hC0 g0 fa_RX9_37 yn.wl.1 dX9_meltsAt_29 (fun _ => ?_)
    refine lv_iload_n hx hb dX9_meltsAt_32 rfl (lv_at hl 2 rfl) ?_
    refine q_iald E hC0 gwl rfl rfl (fun _ h => h) (i_in (a := a1) e1 (by omega) (by omega)) dX9_meltsAt_33 (fun v28 ev28 lv28 uv28 => ?_)
    have m29 : aI H0 wl a1 = v28.toInt := aI_of e1 ev28
    refine q_mmin E hl.1 w_526 mathw_min (a := (a2 - v23.toInt)) (b := v28.toInt) ev27i rfl (by decide) (Nat.zero_le _) dX9_meltsAt_34 (fun v30 mv30a mv30b mv30c => ?_)
    refine lv_istore hx hb dX9_meltsAt_37 hl (by decide) rfl (fun ls hl => ?_)
    replace hl : lv_has ls 5 [(4, .int v30), (3, .int v23), (0, .ref h0), (1, .int p1), (2, .int p2)] := hl
    refine lv_aload_n hx hb dX9_meltsAt_39 rfl (lv_at hl 2 rfl) ?_
    refine q_getS E hC0 g0 fa_RX9_34 yn.sn.1 dX9_meltsAt_40 (fun _ => ?_)
    refine lv_iload_n hx hb dX9_meltsAt_43 rfl (lv_at hl 3 rfl) ?_
    refine lv_dup2_11 hx hb dX9_meltsAt_44 rfl rfl ?_
    refine q_iald E hC0 gsn rfl rfl (fun _ h => h) (i_in (a := a1) e1 (by omega) (by omega)) dX9_meltsAt_45 (fun v31 ev31 lv31 uv31 => ?_)
    have m32 : aI H0 sn a1 = v31.toInt := aI_of e1 ev31
    refine lv_iload_n hx hb dX9_meltsAt_46 rfl (lv_at hl 1 rfl) ?_
    refine lv_isub hx hb dX9_meltsAt_47 (lv_topi (fun v33 ev33 => ?_))
    have ev33i : v33.toInt = (v31.toInt - v23.toInt) := i_sub ev33 rfl rfl (by omega) (by omega)
    refine q_iast E hC0 hS0 gsn (by decide) rfl rfl (i_in (a := a1) e1 (by omega) (by omega)) (tv_I ev33i (by omega) (by omega)) dX9_meltsAt_48 (fun H34 locs34 hC34 hS34 U34 => ?_)
    have hKp34 := Kp.upA gsn rfl (by decide) rfl U34 hKp0
    have m35 : aI H34 sn a1 = (v31.toInt - v23.toInt) := aI_up U34 e1 ev33i
    have m37 : aI H34 wl a1 = aI H0 wl a1 := aI_ne U34 (nek gsn gwl (by decide))
    replace osn : OT H0 H34 sn a1 := osn.up U34 e1 (by omega)
    replace owl : OT H0 H34 wl a1 := owl.ne U34 (nek gsn gwl (by decide))
    have m38 : (sI H34 h0 (X.1.2 8 0)).toInt = (sI H0 h0 (X.1.2 8 0)).toInt := congrArg Int32.toInt (up_nI U34 (ne_k g0 gsn (by decide)))
    have m39 : (sI H34 h0 (X.1.2 8 1)).toInt = (sI H0 h0 (X.1.2 8 1)).toInt := congrArg Int32.toInt (up_nI U34 (ne_k g0 gsn (by decide)))
    have m40 : (sI H34 h0 (X.1.2 8 2)).toInt = (sI H0 h0 (X.1.2 8 2)).toInt := congrArg Int32.toInt (up_nI U34 (ne_k g0 gsn (by decide)))
    refine lv_aload_n hx hb dX9_meltsAt_49 rfl (lv_at hl 2 rfl) ?_
    refine q_getS E hC34 g0 fa_RX9_37 (yn.kp g0 hKp34 rfl).wl.1 dX9_meltsAt_50 (fun _ => ?_)
    refine lv_iload_n hx hb dX9_meltsAt_53 rfl (lv_at hl 3 rfl) ?_
    refine lv_dup2_11 hx hb dX9_meltsAt_54 rfl rfl ?_
    refine q_iald E hC34 gwl rfl rfl (fun _ h => h) (i_in (a := a1) e1 (by omega) (by omega)) dX9_meltsAt_55 (fun v41 ev41 lv41 uv41 => ?_)
    have m42 : aI H34 wl a1 = v41.toInt := aI_of e1 ev41
    refine lv_iload hx hb dX9_meltsAt_56 (lv_at hl 0 rfl) ?_
    refine lv_isub hx hb dX9_meltsAt_58 (lv_topi (fun v43 ev43 => ?_))
    have ev43i : v43.toInt = (v41.toInt - v30.toInt) := i_sub ev43 rfl rfl (by omega) (by omega)
    refine q_iast E hC34 hS34 gwl (by decide) rfl rfl (i_in (a := a1) e1 (by omega) (by omega)) (tv_I ev43i (by omega) (by omega)) dX9_meltsAt_59 (fun H44 locs44 hC44 hS44 U44 => ?_)
    have hKp44 := Kp.upA gwl rfl (by decide) rfl U44 hKp34
    have m45 : aI H44 wl a1 = (v41.toInt - v30.toInt) := aI_up U44 e1 ev43i
    have m46 : aI H44 sn a1 = aI H34 sn a1 := aI_ne U44 (nek gwl gsn (by decide))
    replace osn : OT H0 H44 sn a1 := osn.ne U44 (nek gwl gsn (by decide))
    replace owl : OT H0 H44 wl a1 := owl.up U44 e1 (by omega)
    have m48 : (sI H44 h0 (X.1.2 8 0)).toInt = (sI H34 h0 (X.1.2 8 0)).toInt := congrArg Int32.toInt (up_nI U44 (ne_k g0 gwl (by decide)))
    have m49 : (sI H44 h0 (X.1.2 8 1)).toInt = (sI H34 h0 (X.1.2 8 1)).toInt := congrArg Int32.toInt (up_nI U44 (ne_k g0 gwl (by decide)))
    have m50 : (sI H44 h0 (X.1.2 8 2)).toInt = (sI H34 h0 (X.1.2 8 2)).toInt := congrArg Int32.toInt (up_nI U44 (ne_k g0 gwl (by decide)))
    refine lv_aload_n hx hb dX9_meltsAt_60 rfl (lv_at hl 2 rfl) ?_
    refine q_getS E hC44 g0 fa_RX9_46 (yn.kp g0 hKp44 rfl).ic.1 dX9_meltsAt_61 (fun _ => ?_)
    refine lv_iload_n hx hb dX9_meltsAt_64 rfl (lv_at hl 3 rfl) ?_
    refine lv_iconst (v := 0) hx hb dX9_meltsAt_65 rfl ?_
    refine q_iast E hC44 hS44 gic (by decide) rfl rfl (i_in (a := a1) e1 (by omega) (by omega)) (tv_I (show (0 : Int32).toInt = 0 from by decide) (by omega) (by omega)) dX9_meltsAt_66 (fun H51 locs51 hC51 hS51 U51 => ?_)
    have hKp51 := Kp.upA gic rfl (by decide) rfl U51 hKp44
    have m52 : aI H51 ic a1 = 0 := aI_up U51 e1 (show (0 : Int32).toInt = 0 from by decide)
    have m53 : aI H51 sn a1 = aI H44 sn a1 := aI_ne U51 (nek gic gsn (by decide))
    have m54 : aI H51 wl a1 = aI H44 wl a1 := aI_ne U51 (nek gic gwl (by decide))
    replace osn : OT H0 H51 sn a1 := osn.ne U51 (nek gic gsn (by decide))
    replace owl : OT H0 H51 wl a1 := owl.ne U51 (nek gic gwl (by decide))
    have m55 : (sI H51 h0 (X.1.2 8 0)).toInt = (sI H44 h0 (X.1.2 8 0)).toInt := congrArg Int32.toInt (up_nI U51 (ne_k g0 gic (by decide)))
    have m56 : (sI H51 h0 (X.1.2 8 1)).toInt = (sI H44 h0 (X.1.2 8 1)).toInt := congrArg Int32.toInt (up_nI U51 (ne_k g0 gic (by decide)))
    have m57 : (sI H51 h0 (X.1.2 8 2)).toInt = (sI H44 h0 (X.1.2 8 2)).toInt := congrArg Int32.toInt (up_nI U51 (ne_k g0 gic (by decide)))
    refine lv_aload_n hx hb dX9_meltsAt_67 rfl (lv_at hl 2 rfl) ?_
    refine q_getS E hC51 g0 fa_RX9_49 (yn.kp g0 hKp51 rfl).kn.1 dX9_meltsAt_68 (fun _ => ?_)
    refine lv_iload_n hx hb dX9_meltsAt_71 rfl (lv_at hl 3 rfl) ?_
    refine lv_iconst (v := 0) hx hb dX9_meltsAt_72 rfl ?_
    refine q_iast E hC51 hS51 gkn (by decide) rfl rfl (i_in (a := a1) e1 (by omega) (by omega)) tv_F dX9_meltsAt_73 (fun H58 locs58 hC58 hS58 U58 => ?_)
    have hKp58 := Kp.upA gkn rfl (by decide) rfl U58 hKp51
    have m59 : aI H58 kn a1 = 0 := aI_up U58 e1 (show (0 : Int32).toInt = 0 from by decide)
    have m60 : aI H58 sn a1 = aI H51 sn a1 := aI_ne U58 (nek gkn gsn (by decide))
    have m61 : aI H58 wl a1 = aI H51 wl a1 := aI_ne U58 (nek gkn gwl (by decide))
    replace osn : OT H0 H58 sn a1 := osn.ne U58 (nek gkn gsn (by decide))
    replace owl : OT H0 H58 wl a1 := owl.ne U58 (nek gkn gwl (by decide))
    have m62 : (sI H58 h0 (X.1.2 8 0)).toInt = (sI H51 h0 (X.1.2 8 0)).toInt := congrArg Int32.toInt (up_nI U58 (ne_k g0 gkn (by decide)))
    have m63 : (sI H58 h0 (X.1.2 8 1)).toInt = (sI H51 h0 (X.1.2 8 1)).toInt := congrArg Int32.toInt (up_nI U58 (ne_k g0 gkn (by decide)))
    have m64 : (sI H58 h0 (X.1.2 8 2)).toInt = (sI H51 h0 (X.1.2 8 2)).toInt := congrArg Int32.toInt (up_nI U58 (ne_k g0 gkn (by decide)))
    refine lv_iload_n hx hb dX9_meltsAt_74 rfl (lv_at hl 1 rfl) ?_
    refine lv_iload hx hb dX9_meltsAt_75 (lv_at hl 0 rfl) ?_
    refine lv_iadd hx hb dX9_meltsAt_77 (lv_topi (fun v65 ev65 => ?_))
    have ev65i : v65.toInt = (v23.toInt + v30.toInt) := i_add ev65 rfl rfl (by omega) (by omega)
    have c66 : v65.toInt = (v23.toInt + v30.toInt) := ev65i
    exact ret v65 H58 locs58 _ _ dX9_meltsAt_78 ⟨hKp58, ⟨by omega, by omega, by omega, osn, owl⟩⟩ hC58 hS58
  · refine lv_iconst (v := 0) hx hb dX9_meltsAt_21 rfl ?_
    refine lv_goto (tgt := 37) hx hb dX9_meltsAt_22 rfl ?_
    refine lv_istore hx hb dX9_meltsAt_37 hl (by decide) rfl (fun ls hl => ?_)
    replace hl : lv_has ls 5 [(4, .int 0), (3, .int v23), (0, .ref h0), (1, .int p1), (2, .int p2)] := hl
    refine lv_aload_n hx hb dX9_meltsAt_39 rfl (lv_at hl 2 rfl) ?_
    refine q_getS E hC0 g0 fa_RX9_34 yn.sn.1 dX9_meltsAt_40 (fun _ => ?_)
    refine lv_iload_n hx hb dX9_meltsAt_43 rfl (lv_at hl 3 rfl) ?_
    refine lv_dup2_11 hx hb dX9_meltsAt_44 rfl rfl ?_
    refine q_iald E hC0 gsn rfl rfl (fun _ h => h) (i_in (a := a1) e1 (by omega) (by omega)) dX9_meltsAt_45 (fun v67 ev67 lv67 uv67 => ?_)
    have m68 : aI H0 sn a1 = v67.toInt := aI_of e1 ev67
    refine lv_iload_n hx hb dX9_meltsAt_46 rfl (lv_at hl 1 rfl) ?_
    refine lv_isub hx hb dX9_meltsAt_47 (lv_topi (fun v69 ev69 => ?_))
    have ev69i : v69.toInt = (v67.toInt - v23.toInt) := i_sub ev69 rfl rfl (by omega) (by omega)
    refine q_iast E hC0 hS0 gsn (by decide) rfl rfl (i_in (a := a1) e1 (by omega) (by omega)) (tv_I ev69i (by omega) (by omega)) dX9_meltsAt_48 (fun H70 locs70 hC70 hS70 U70 => ?_)
    have hKp70 := Kp.upA gsn rfl (by decide) rfl U70 hKp0
    have m71 : aI H70 sn a1 = (v67.toInt - v23.toInt) := aI_up U70 e1 ev69i
    have m73 : aI H70 wl a1 = aI H0 wl a1 := aI_ne U70 (nek gsn gwl (by decide))
    replace osn : OT H0 H70 sn a1 := osn.up U70 e1 (by omega)
    replace owl : OT H0 H70 wl a1 := owl.ne U70 (nek gsn gwl (by decide))
    have m74 : (sI H70 h0 (X.1.2 8 0)).toInt = (sI H0 h0 (X.1.2 8 0)).toInt := congrArg Int32.toInt (up_nI U70 (ne_k g0 gsn (by decide)))
    have m75 : (sI H70 h0 (X.1.2 8 1)).toInt = (sI H0 h0 (X.1.2 8 1)).toInt := congrArg Int32.toInt (up_nI U70 (ne_k g0 gsn (by decide)))
    have m76 : (sI H70 h0 (X.1.2 8 2)).toInt = (sI H0 h0 (X.1.2 8 2)).toInt := congrArg Int32.toInt (up_nI U70 (ne_k g0 gsn (by decide)))
    refine lv_aload_n hx hb dX9_meltsAt_49 rfl (lv_at hl 2 rfl) ?_
    refine q_getS E hC70 g0 fa_RX9_37 (yn.kp g0 hKp70 rfl).wl.1 dX9_meltsAt_50 (fun _ => ?_)
    refine lv_iload_n hx hb dX9_meltsAt_53 rfl (lv_at hl 3 rfl) ?_
    refine lv_dup2_11 hx hb dX9_meltsAt_54 rfl rfl ?_
    refine q_iald E hC70 gwl rfl rfl (fun _ h => h) (i_in (a := a1) e1 (by omega) (by omega)) dX9_meltsAt_55 (fun v77 ev77 lv77 uv77 => ?_)
    have m78 : aI H70 wl a1 = v77.toInt := aI_of e1 ev77
    refine lv_iload hx hb dX9_meltsAt_56 (lv_at hl 0 rfl) ?_
    refine lv_isub hx hb dX9_meltsAt_58 (lv_topi (fun v79 ev79 => ?_))
    have ev79i : v79.toInt = (v77.toInt - 0) := i_sub ev79 rfl (by decide) (by omega) (by omega)
    refine q_iast E hC70 hS70 gwl (by decide) rfl rfl (i_in (a := a1) e1 (by omega) (by omega)) (tv_I ev79i (by omega) (by omega)) dX9_meltsAt_59 (fun H80 locs80 hC80 hS80 U80 => ?_)
    have hKp80 := Kp.upA gwl rfl (by decide) rfl U80 hKp70
    have m81 : aI H80 wl a1 = (v77.toInt - 0) := aI_up U80 e1 ev79i
    have m82 : aI H80 sn a1 = aI H70 sn a1 := aI_ne U80 (nek gwl gsn (by decide))
    replace osn : OT H0 H80 sn a1 := osn.ne U80 (nek gwl gsn (by decide))
    replace owl : OT H0 H80 wl a1 := owl.up U80 e1 (by omega)
    have m84 : (sI H80 h0 (X.1.2 8 0)).toInt = (sI H70 h0 (X.1.2 8 0)).toInt := congrArg Int32.toInt (up_nI U80 (ne_k g0 gwl (by decide)))
    have m85 : (sI H80 h0 (X.1.2 8 1)).toInt = (sI H70 h0 (X.1.2 8 1)).toInt := congrArg Int32.toInt (up_nI U80 (ne_k g0 gwl (by decide)))
    have m86 : (sI H80 h0 (X.1.2 8 2)).toInt = (sI H70 h0 (X.1.2 8 2)).toInt := congrArg Int32.toInt (up_nI U80 (ne_k g0 gwl (by decide)))
    refine lv_aload_n hx hb dX9_meltsAt_60 rfl (lv_at hl 2 rfl) ?_
    refine q_getS E hC80 g0 fa_RX9_46 (yn.kp g0 hKp80 rfl).ic.1 dX9_meltsAt_61 (fun _ => ?_)
    refine lv_iload_n hx hb dX9_meltsAt_64 rfl (lv_at hl 3 rfl) ?_
    refine lv_iconst (v := 0) hx hb dX9_meltsAt_65 rfl ?_
    refine q_iast E hC80 hS80 gic (by decide) rfl rfl (i_in (a := a1) e1 (by omega) (by omega)) (tv_I (show (0 : Int32).toInt = 0 from by decide) (by omega) (by omega)) dX9_meltsAt_66 (fun H87 locs87 hC87 hS87 U87 => ?_)
    have hKp87 := Kp.upA gic rfl (by decide) rfl U87 hKp80
    have m88 : aI H87 ic a1 = 0 := aI_up U87 e1 (show (0 : Int32).toInt = 0 from by decide)
    have m89 : aI H87 sn a1 = aI H80 sn a1 := aI_ne U87 (nek gic gsn (by decide))
    have m90 : aI H87 wl a1 = aI H80 wl a1 := aI_ne U87 (nek gic gwl (by decide))
    replace osn : OT H0 H87 sn a1 := osn.ne U87 (nek gic gsn (by decide))
    replace owl : OT H0 H87 wl a1 := owl.ne U87 (nek gic gwl (by decide))
    have m91 : (sI H87 h0 (X.1.2 8 0)).toInt = (sI H80 h0 (X.1.2 8 0)).toInt := congrArg Int32.toInt (up_nI U87 (ne_k g0 gic (by decide)))
    have m92 : (sI H87 h0 (X.1.2 8 1)).toInt = (sI H80 h0 (X.1.2 8 1)).toInt := congrArg Int32.toInt (up_nI U87 (ne_k g0 gic (by decide)))
    have m93 : (sI H87 h0 (X.1.2 8 2)).toInt = (sI H80 h0 (X.1.2 8 2)).toInt := congrArg Int32.toInt (up_nI U87 (ne_k g0 gic (by decide)))
    refine lv_aload_n hx hb dX9_meltsAt_67 rfl (lv_at hl 2 rfl) ?_
    refine q_getS E hC87 g0 fa_RX9_49 (yn.kp g0 hKp87 rfl).kn.1 dX9_meltsAt_68 (fun _ => ?_)
    refine lv_iload_n hx hb dX9_meltsAt_71 rfl (lv_at hl 3 rfl) ?_
    refine lv_iconst (v := 0) hx hb dX9_meltsAt_72 rfl ?_
    refine q_iast E hC87 hS87 gkn (by decide) rfl rfl (i_in (a := a1) e1 (by omega) (by omega)) tv_F dX9_meltsAt_73 (fun H94 locs94 hC94 hS94 U94 => ?_)
    have hKp94 := Kp.upA gkn rfl (by decide) rfl U94 hKp87
    have m95 : aI H94 kn a1 = 0 := aI_up U94 e1 (show (0 : Int32).toInt = 0 from by decide)
    have m96 : aI H94 sn a1 = aI H87 sn a1 := aI_ne U94 (nek gkn gsn (by decide))
    have m97 : aI H94 wl a1 = aI H87 wl a1 := aI_ne U94 (nek gkn gwl (by decide))
    replace osn : OT H0 H94 sn a1 := osn.ne U94 (nek gkn gsn (by decide))
    replace owl : OT H0 H94 wl a1 := owl.ne U94 (nek gkn gwl (by decide))
    have m98 : (sI H94 h0 (X.1.2 8 0)).toInt = (sI H87 h0 (X.1.2 8 0)).toInt := congrArg Int32.toInt (up_nI U94 (ne_k g0 gkn (by decide)))
    have m99 : (sI H94 h0 (X.1.2 8 1)).toInt = (sI H87 h0 (X.1.2 8 1)).toInt := congrArg Int32.toInt (up_nI U94 (ne_k g0 gkn (by decide)))
    have m100 : (sI H94 h0 (X.1.2 8 2)).toInt = (sI H87 h0 (X.1.2 8 2)).toInt := congrArg Int32.toInt (up_nI U94 (ne_k g0 gkn (by decide)))
    refine lv_iload_n hx hb dX9_meltsAt_74 rfl (lv_at hl 1 rfl) ?_
    refine lv_iload hx hb dX9_meltsAt_75 (lv_at hl 0 rfl) ?_
    refine lv_iadd hx hb dX9_meltsAt_77 (lv_topi (fun v101 ev101 => ?_))
    have ev101i : v101.toInt = (v23.toInt + 0) := i_add ev101 rfl (by decide) (by omega) (by omega)
    have c102 : v101.toInt = (v23.toInt + 0) := ev101i
    exact ret v101 H94 locs94 _ _ dX9_meltsAt_78 ⟨hKp94, ⟨by omega, by omega, by omega, osn, owl⟩⟩ hC94 hS94
set_option maxRecDepth 100000 in
set_option maxHeartbeats 4000000 in
theorem m_X9_melts (l : Launch) (X : xW) (Γ : Nat → Option Nat) (H0 : Heap) (hC0 : Conf X Γ H0) (h0 : Nat) (g0 : Γ h0 = some 5) (p1 : Int32) {a1 : Int} (e1 : p1.toInt = a1) (sn wl su lw ic kn hd us br ar fi : Nat) (yn : YN X Γ H0 h0 sn wl su lw ic kn hd us br ar fi) (r0 : 0 ≤ a1) (r1 : a1 ≤ 40) (r2 : 0 ≤ (sI H0 h0 (X.1.2 8 4)).toInt) (r3 : (sI H0 h0 (X.1.2 8 4)).toInt ≤ 1000000) : Ctr l X Γ yX9_melts cX9_melts 4 (some .int) 2 [.ref h0, .int p1] H0 (QI X Γ (fun v H1 => Kp X Γ [3, 29, 31, 32, 33, 34, 37, 39, 40, 50, 51, 53, 54, 57, 58, 61, 62, 63, 65, 67, 68, 69, 70, 71, 72] H0 H1 ∧ ((0 ≤ v.toInt) ∧ (SM H1 sn 36 + SM H1 wl 36 + (sI H1 h0 (X.1.2 8 4)).toInt = SM H0 sn 36 + SM H0 wl 36 + (sI H0 h0 (X.1.2 8 4)).toInt) ∧ ((sI H0 h0 (X.1.2 8 4)).toInt ≤ (sI H1 h0 (X.1.2 8 4)).toInt) ∧ ((sI H1 h0 (X.1.2 8 4)).toInt ≤ (sI H0 h0 (X.1.2 8 4)).toInt + 7128)))) := by
  refine q_enterI (own := "SnowForts$Yard") (by decide) rfl (Nat.le_of_ble_eq_true rfl) ?_
  intro p e s m args below meth c ls Qz E hl ret hS0
  have hx := E.1; have hb := E.2.1
  have hKp0 : Kp X Γ [3, 29, 31, 32, 33, 34, 37, 39, 40, 50, 51, 53, 54, 57, 58, 61, 62, 63, 65, 67, 68, 69, 70, 71, 72] H0 H0 := Kp.rf
  have hl : lv_has ls 4 [(0, .ref h0), (1, .int p1)] := hl
  have gsn := yn.sn.2; have gwl := yn.wl.2; have gsu := yn.su.2; have glw := yn.lw.2; have gic := yn.ic.2; have gkn := yn.kn.2; have ghd := yn.hd.2; have gus := yn.us.2; have gbr := yn.br.2; have gar := yn.ar.2; have gfi := yn.fi.2
  refine lv_iconst (v := 0) hx hb dX9_melts_0 rfl ?_
  refine lv_istore_n hx hb dX9_melts_1 rfl hl (by decide) rfl (fun ls hl => ?_)
  replace hl : lv_has ls 4 [(2, .int 0), (0, .ref h0), (1, .int p1)] := hl
  refine lv_iconst (v := 0) hx hb dX9_melts_2 rfl ?_
  refine lv_istore_n hx hb dX9_melts_3 rfl hl (by decide) rfl (fun ls hl => ?_)
  replace hl : lv_has ls 4 [(3, .int 0), (2, .int 0), (0, .ref h0), (1, .int p1)] := hl
  have L4 : ∀ (n23 : Nat) (H23 : Heap) (locs23 : List Loc) (v21 : Int32) (z21 : Int) (v22 : Int32) (z22 : Int) (ls : Array Slot), (36 - z21).toNat < n23 → v21.toInt = z21 → v22.toInt = z22 → z21 ≤ 36 → 0 ≤ z21 → 0 ≤ z22 → z22 ≤ 198 * z21 → SM H23 sn 36 + SM H23 wl 36 + z22 = SM H0 sn 36 + SM H0 wl 36 → (sI H23 h0 (X.1.2 8 4)).toInt = (sI H0 h0 (X.1.2 8 4)).toInt → (sI H23 h0 (X.1.2 8 0)).toInt = (sI H0 h0 (X.1.2 8 0)).toInt → (sI H23 h0 (X.1.2 8 1)).toInt = (sI H0 h0 (X.1.2 8 1)).toInt → Conf X Γ H23 → va_S (AΓ Γ) H0 H23 locs23 → Kp X Γ [3, 29, 31, 32, 33, 34, 37, 39, 40, 50, 51, 53, 54, 57, 58, 61, 62, 63, 65, 67, 68, 69, 70, 71, 72] H0 H23 → lv_has ls 4 [(3, .int v21), (2, .int v22), (0, .ref h0), (1, .int p1)] → W p l e (rmL 2) s m args below meth c H23 locs23 0 0 Qz (F0 m 4 ls []) := by
    intro n23
    induction n23 with
    | zero => intro H23 locs23 v21 z21 v22 z22 ls hm23 ev21 ev22 iv23_0 iv23_1 iv23_2 iv23_3 iv23_4 iv23_5 iv23_6 iv23_7 hC23 hS23 hKp23 hl; exact absurd hm23 (Nat.not_lt_zero _)
    | succ n23 ih23 =>
      intro H23 locs23 v21 z21 v22 z22 ls hm23 ev21 ev22 iv23_0 iv23_1 iv23_2 iv23_3 iv23_4 iv23_5 iv23_6 iv23_7 hC23 hS23 hKp23 hl
      refine lv_iload_n hx hb dX9_melts_4 rfl (lv_at hl 0 rfl) ?_
      refine lv_bipush (v := 36) hx hb dX9_melts_5 rfl ?_
      refine q_icmp_ge hx hb (a := z21) (b := 36) ev21 (by decide) (tgt := 40) dX9_melts_7 rfl (fun c24 => ?_) (fun c24 => ?_)
      · refine lv_aload_n hx hb dX9_melts_40 rfl (lv_at hl 2 rfl) ?_
        refine lv_dup hx hb dX9_melts_41 rfl ?_
        refine q_getI E hC23 g0 fa_RX9_58 dX9_melts_42 (fun v25 ev25 _ _ => ?_)
        have m26 : (sI H23 h0 (X.1.2 8 4)).toInt = v25.toInt := (congrArg Int32.toInt ev25).trans rfl
        refine lv_iload_n hx hb dX9_melts_45 rfl (lv_at hl 1 rfl) ?_
        refine lv_iadd hx hb dX9_melts_46 (lv_topi (fun v27 ev27 => ?_))
        have ev27i : v27.toInt = (v25.toInt + z22) := i_add ev27 rfl ev22 (by omega) (by omega)
        refine q_put E hC23 hS23 g0 fp_RX9_58 tv_F rfl rfl dX9_melts_47 (fun H28 locs28 hC28 hS28 U28 => ?_)
        have hKp28 := Kp.upO E g0 fp_RX9_58 rfl U28 hKp23
        have e29 := up_I U28
        have m30 : (sI H28 h0 (X.1.2 8 4)).toInt = (v25.toInt + z22) := (congrArg Int32.toInt e29).trans ev27i
        have m31 : SM H28 sn 36 = SM H23 sn 36 := SM_ne U28 (nek g0 gsn (by decide))
        have m32 : SM H28 wl 36 = SM H23 wl 36 := SM_ne U28 (nek g0 gwl (by decide))
        have m33 : (sI H28 h0 (X.1.2 8 0)).toInt = (sI H23 h0 (X.1.2 8 0)).toInt := congrArg Int32.toInt (up_nI U28 (ne_f E 8 0 4 rfl (by decide) (by decide) (by decide)))
        have m34 : (sI H28 h0 (X.1.2 8 1)).toInt = (sI H23 h0 (X.1.2 8 1)).toInt := congrArg Int32.toInt (up_nI U28 (ne_f E 8 1 4 rfl (by decide) (by decide) (by decide)))
        have m35 : (sI H28 h0 (X.1.2 8 2)).toInt = (sI H23 h0 (X.1.2 8 2)).toInt := congrArg Int32.toInt (up_nI U28 (ne_f E 8 2 4 rfl (by decide) (by decide) (by decide)))
        refine lv_iload_n hx hb dX9_melts_50 rfl (lv_at hl 1 rfl) ?_
        have c36 : v22.toInt = z22 := ev22
        exact ret v22 H28 locs28 _ _ dX9_melts_51 ⟨hKp28, ⟨by omega, by omega, by omega, by omega⟩⟩ hC28 hS28
      · refine lv_aload_n hx hb dX9_melts_10 rfl (lv_at hl 2 rfl) ?_
        refine lv_iload_n hx hb dX9_melts_11 rfl (lv_at hl 0 rfl) ?_
        refine q_goIp (q_runV (As := [.int v21]) (rest := []) E hC23 hS23 (m_X9_holds l X Γ H23 hC23 h0 g0 v21 (a1 := z21) ev21) cw_X9_holds cl_RX9_99 g0 ⟨rfl, rfl⟩ rfl hl.1 rfl (Nat.zero_le _) (by decide) dX9_melts_12) hS23 (fun v37 locs37 hr37 hS37 => ?_)
        rcases hr37 with ⟨rfl, f37a0, f37a1, f37a2, f37a3⟩ | ⟨rfl, f37b⟩
        · refine q_if_eq hx hb (a := 1) (by decide) (tgt := 34) dX9_melts_15 rfl (fun c38 => absurd c38 (by omega)) (fun c38 => ?_)
          refine lv_iload_n hx hb dX9_melts_18 rfl (lv_at hl 1 rfl) ?_
          refine lv_aload_n hx hb dX9_melts_19 rfl (lv_at hl 2 rfl) ?_
          refine lv_iload_n hx hb dX9_melts_20 rfl (lv_at hl 0 rfl) ?_
          refine lv_iload_n hx hb dX9_melts_21 rfl (lv_at hl 3 rfl) ?_
          refine lv_aload_n hx hb dX9_melts_22 rfl (lv_at hl 2 rfl) ?_
          refine q_getS E hC23 g0 fa_RX9_40 (yn.kp g0 hKp23 rfl).su.1 dX9_melts_23 (fun _ => ?_)
          refine lv_iload_n hx hb dX9_melts_26 rfl (lv_at hl 0 rfl) ?_
          refine q_iald E hC23 gsu rfl rfl (fun _ h => h) (i_in (a := z21) ev21 (by omega) (by omega)) dX9_melts_27 (fun v39 ev39 lv39 uv39 => ?_)
          have m40 : aI H23 su z21 = v39.toInt := aI_of ev21 ev39
          refine lv_iadd hx hb dX9_melts_28 (lv_topi (fun v41 ev41 => ?_))
          have ev41i : v41.toInt = (a1 + v39.toInt) := i_add ev41 e1 rfl (by omega) (by omega)
          refine q_goI (q_runV (As := [.int v21, .int v41]) (rest := [.int v22]) E hC23 hS37 (m_X9_meltsAt l X Γ H23 hC23 h0 g0 v21 (a1 := z21) ev21 v41 (a2 := (a1 + v39.toInt)) ev41i sn wl su lw ic kn hd us br ar fi (yn.kp g0 hKp23 rfl) (by omega) (by omega) (by omega) (by omega)) cw_X9_meltsAt cl_RX9_123 g0 ⟨rfl, rfl⟩ rfl hl.1 rfl (show _ ≤ _ from by simp [Value.category]) (by decide) dX9_melts_29) hS37 (fun v42 H42 locs42 hr42 hC42 hS42 => ?_)
          obtain ⟨hp42, hr42⟩ := hr42
          have hKp42 := hKp23.tr (hp42.mono rfl)
          have m45 : (sI H42 h0 (X.1.2 8 0)).toInt = (sI H23 h0 (X.1.2 8 0)).toInt := congrArg Int32.toInt (kp_I hp42 g0 (k := 0) rfl (by decide) rfl)
          have m46 : (sI H42 h0 (X.1.2 8 1)).toInt = (sI H23 h0 (X.1.2 8 1)).toInt := congrArg Int32.toInt (kp_I hp42 g0 (k := 1) rfl (by decide) rfl)
          have m47 : (sI H42 h0 (X.1.2 8 2)).toInt = (sI H23 h0 (X.1.2 8 2)).toInt := congrArg Int32.toInt (kp_I hp42 g0 (k := 2) rfl (by decide) rfl)
          have m48 : (sI H42 h0 (X.1.2 8 4)).toInt = (sI H23 h0 (X.1.2 8 4)).toInt := congrArg Int32.toInt (kp_I hp42 g0 (k := 4) rfl (by decide) rfl)
          obtain ⟨f42_0, f42_1, f42_2, f42_3, f42_4⟩ := hr42
          have q9 := f42_3.sm (n := 36) (by omega) (by omega)
          have q8 := f42_4.sm (n := 36) (by omega) (by omega)
          refine lv_iadd hx hb dX9_melts_32 (lv_topi (fun v49 ev49 => ?_))
          have ev49i : v49.toInt = (z22 + v42.toInt) := i_add ev49 ev22 rfl (by omega) (by omega)
          refine lv_istore_n hx hb dX9_melts_33 rfl hl (by decide) rfl (fun ls hl => ?_)
          replace hl : lv_has ls 4 [(2, .int v49), (3, .int v21), (0, .ref h0), (1, .int p1)] := hl
          obtain ⟨v50, ev50⟩ : ∃ z, z = v21 + Int32.ofInt 1 := ⟨_, rfl⟩
          have ev50i : v50.toInt = (z21 + 1) := i_add ev50 ev21 (by decide) (by omega) (by omega)
          refine lv_iinc hx hb dX9_melts_34 hl (k := 1) rfl ev50.symm (by decide) rfl (fun ls hl => ?_)
          replace hl : lv_has ls 4 [(3, .int v50), (2, .int v49), (0, .ref h0), (1, .int p1)] := hl
          refine lv_goto (tgt := 4) hx hb dX9_melts_37 rfl ?_
          exact ih23 H42 locs42 v50 ((z21 + 1)) v49 ((z22 + v42.toInt)) ls (ms_lt hm23 (by omega) (by omega)) ev50i ev49i (by omega) (by omega) (by omega) (by omega) (by omega) (by omega) (by omega) (by omega) hC42 hS42 hKp42 hl
        · refine q_if_eq hx hb (a := 0) (by decide) (tgt := 34) dX9_melts_15 rfl (fun c51 => ?_) (fun c51 => absurd c51 (by omega))
          obtain ⟨v52, ev52⟩ : ∃ z, z = v21 + Int32.ofInt 1 := ⟨_, rfl⟩
          have ev52i : v52.toInt = (z21 + 1) := i_add ev52 ev21 (by decide) (by omega) (by omega)
          refine lv_iinc hx hb dX9_melts_34 hl (k := 0) rfl ev52.symm (by decide) rfl (fun ls hl => ?_)
          replace hl : lv_has ls 4 [(3, .int v52), (2, .int v22), (0, .ref h0), (1, .int p1)] := hl
          refine lv_goto (tgt := 4) hx hb dX9_melts_37 rfl ?_
          exact ih23 H23 locs37 v52 ((z21 + 1)) v22 (z22) ls (ms_lt hm23 (by omega) (by omega)) ev52i ev22 (by omega) (by omega) (by omega) (by omega) (by omega) (by omega) (by omega) (by omega) hC23 hS37 hKp23 hl
  exact L4 _ H0 [] 0 0 0 0 ls (Nat.lt_succ_self _) (by decide) (by decide) (by omega) (by omega) (by omega) (by omega) (by omega) (by omega) (by omega) (by omega) hC0 hS0 hKp0 hl
set_option maxRecDepth 100000 in
set_option maxHeartbeats 4000000 in
theorem m_X11_thaw (l : Launch) (X : xW) (Γ : Nat → Option Nat) (H0 : Heap) (hC0 : Conf X Γ H0) (h0 : Nat) (g0 : Γ h0 = some 0) (p1 : Int32) {a1 : Int} (e1 : p1.toInt = a1) (yd : Nat) (hyd : sR H0 h0 (X.1.2 10 5) = some yd) (gyd : Γ yd = some 5) (sn wl su lw ic kn hd us br ar fi : Nat) (yn : YN X Γ H0 yd sn wl su lw ic kn hd us br ar fi) (r0 : 0 ≤ a1) (r1 : a1 ≤ 40) (r2 : 0 ≤ (sI H0 yd (X.1.2 8 4)).toInt) (r3 : (sI H0 yd (X.1.2 8 4)).toInt ≤ 1000000) : Ctr l X Γ yX11_thaw cX11_thaw 2 (some .int) 3 [.ref h0, .int p1] H0 (QI X Γ (fun v H1 => Kp X Γ [3, 29, 31, 32, 33, 34, 37, 39, 40, 50, 51, 53, 54, 57, 58, 61, 62, 63, 65, 67, 68, 69, 70, 71] H0 H1 ∧ ((0 ≤ v.toInt) ∧ (SM H1 sn 36 + SM H1 wl 36 + (sI H1 yd (X.1.2 8 4)).toInt = SM H0 sn 36 + SM H0 wl 36 + (sI H0 yd (X.1.2 8 4)).toInt) ∧ ((sI H0 yd (X.1.2 8 4)).toInt ≤ (sI H1 yd (X.1.2 8 4)).toInt) ∧ ((sI H1 yd (X.1.2 8 4)).toInt ≤ (sI H0 yd (X.1.2 8 4)).toInt + 7128)))) := by
  refine q_enterI (own := "SnowForts") (by decide) rfl (Nat.le_of_ble_eq_true rfl) ?_
  intro p e s m args below meth c ls Qz E hl ret hS0
  have hx := E.1; have hb := E.2.1
  have hKp0 : Kp X Γ [3, 29, 31, 32, 33, 34, 37, 39, 40, 50, 51, 53, 54, 57, 58, 61, 62, 63, 65, 67, 68, 69, 70, 71] H0 H0 := Kp.rf
  have hl : lv_has ls 2 [(0, .ref h0), (1, .int p1)] := hl
  have gsn := yn.sn.2; have gwl := yn.wl.2; have gsu := yn.su.2; have glw := yn.lw.2; have gic := yn.ic.2; have gkn := yn.kn.2; have ghd := yn.hd.2; have gus := yn.us.2; have gbr := yn.br.2; have gar := yn.ar.2; have gfi := yn.fi.2
  refine lv_iload_n hx hb dX11_thaw_0 rfl (lv_at hl 1 rfl) ?_
  refine lv_i2l (v := p1.toInt64) hx hb dX11_thaw_1 rfl (lv_topl (fun v21 ev21 => ?_))
  have ev21i : v21.toInt = a1 := l_ofi ev21.symm e1
  refine lv_iconst (v := 0) hx hb dX11_thaw_2 rfl ?_
  refine lv_bipush (v := 40) hx hb dX11_thaw_3 rfl ?_
  refine q_goIp (q_runS (As := [.long v21, .int 0, .int 40]) (rest := []) E hS0 (m_X11_isWithin l X Γ H0 hC0 v21 (a0 := a1) ev21i 0 (a1 := 0) (by decide) 40 (a2 := 40) (by decide)) cw_X11_isWithin cl_RX11_113 rfl hl.1 rfl (Nat.zero_le _) (by decide) dX11_thaw_5) hS0 (fun v22 locs22 hr22 hS22 => ?_)
  rcases hr22 with ⟨rfl, f22a0, f22a1⟩ | ⟨rfl, f22b⟩
  · refine q_if_eq hx hb (a := 1) (by decide) (tgt := 26) dX11_thaw_8 rfl (fun c23 => absurd c23 (by omega)) (fun c23 => ?_)
    refine lv_aload_n hx hb dX11_thaw_11 rfl (lv_at hl 0 rfl) ?_
    refine lv_aload_n hx hb dX11_thaw_12 rfl (lv_at hl 0 rfl) ?_
    refine q_getS E hC0 g0 fa_RX11_42 hyd dX11_thaw_13 (fun _ => ?_)
    refine lv_iload_n hx hb dX11_thaw_16 rfl (lv_at hl 1 rfl) ?_
    refine q_goI (q_runV (As := [.int p1]) (rest := [.ref h0]) E hC0 hS22 (m_X9_melts l X Γ H0 hC0 yd gyd p1 (a1 := a1) e1 sn wl su lw ic kn hd us br ar fi yn (by omega) (by omega) (by omega) (by omega)) cw_X9_melts cl_RX11_235 gyd ⟨rfl, rfl⟩ rfl hl.1 rfl (show _ ≤ _ from by simp [Value.category]) (by decide) dX11_thaw_17) hS22 (fun v24 H24 locs24 hr24 hC24 hS24 => ?_)
    obtain ⟨hp24, hr24⟩ := hr24
    have hKp24 := hKp0.tr (hp24.mono rfl)
    have m25 : (sI H24 yd (X.1.2 8 0)).toInt = (sI H0 yd (X.1.2 8 0)).toInt := congrArg Int32.toInt (kp_I hp24 gyd (ci := 8) (k := 0) rfl (by decide) rfl)
    have m26 : (sI H24 yd (X.1.2 8 1)).toInt = (sI H0 yd (X.1.2 8 1)).toInt := congrArg Int32.toInt (kp_I hp24 gyd (ci := 8) (k := 1) rfl (by decide) rfl)
    have m27 : (sI H24 yd (X.1.2 8 2)).toInt = (sI H0 yd (X.1.2 8 2)).toInt := congrArg Int32.toInt (kp_I hp24 gyd (ci := 8) (k := 2) rfl (by decide) rfl)
    obtain ⟨f24_0, f24_1, f24_2, f24_3⟩ := hr24
    refine q_goI (q_runV (As := [.int v24]) (rest := []) E hC24 hS24 (m_X11_answer l X Γ H24 hC24 h0 g0 v24 (a1 := v24.toInt) rfl) cw_X11_answer cl_RX11_191 g0 ⟨rfl, rfl⟩ rfl hl.1 rfl (Nat.zero_le _) (by decide) dX11_thaw_20) hS24 (fun v31 H31 locs31 hr31 hC31 hS31 => ?_)
    obtain ⟨hp31, hr31⟩ := hr31
    have hKp31 := hKp24.tr (hp31.mono rfl)
    have m32 : (sI H31 yd (X.1.2 8 0)).toInt = (sI H24 yd (X.1.2 8 0)).toInt := congrArg Int32.toInt (kp_I hp31 gyd (ci := 8) (k := 0) rfl (by decide) rfl)
    have m33 : (sI H31 yd (X.1.2 8 1)).toInt = (sI H24 yd (X.1.2 8 1)).toInt := congrArg Int32.toInt (kp_I hp31 gyd (ci := 8) (k := 1) rfl (by decide) rfl)
    have m34 : (sI H31 yd (X.1.2 8 2)).toInt = (sI H24 yd (X.1.2 8 2)).toInt := congrArg Int32.toInt (kp_I hp31 gyd (ci := 8) (k := 2) rfl (by decide) rfl)
    have m35 : (sI H31 yd (X.1.2 8 4)).toInt = (sI H24 yd (X.1.2 8 4)).toInt := congrArg Int32.toInt (kp_I hp31 gyd (ci := 8) (k := 4) rfl (by decide) rfl)
    have m36 : SM H31 sn 36 = SM H24 sn 36 := SM_kp hp31 gsn rfl rfl
    have m37 : SM H31 wl 36 = SM H24 wl 36 := SM_kp hp31 gwl rfl rfl
    obtain ⟨f31_0, f31_1⟩ := hr31
    refine lv_goto (tgt := 31) hx hb dX11_thaw_23 rfl ?_
    have c38 : v31.toInt = v31.toInt := rfl
    exact ret v31 H31 locs31 _ _ dX11_thaw_31 ⟨hKp31, ⟨by omega, by omega, by omega, by omega⟩⟩ hC31 hS31
  · refine q_if_eq hx hb (a := 0) (by decide) (tgt := 26) dX11_thaw_8 rfl (fun c39 => ?_) (fun c39 => absurd c39 (by omega))
    (exfalso; omega)
set_option maxRecDepth 100000 in
set_option maxHeartbeats 4000000 in
theorem m_X9_halfOfColumn (l : Launch) (X : xW) (Γ : Nat → Option Nat) (H0 : Heap) (hC0 : Conf X Γ H0) (h0 : Nat) (g0 : Γ h0 = some 5) (p1 : Int32) {a1 : Int} (e1 : p1.toInt = a1) : Ctr l X Γ yX9_halfOfColumn cX9_halfOfColumn 2 (some .int) 0 [.ref h0, .int p1] H0 (QI X Γ (fun v H1 => H1 = H0 ∧ ((0 ≤ v.toInt) ∧ (v.toInt ≤ 1) ∧ ((v.toInt = 0 ∧ a1 < (sI H0 h0 (X.1.2 8 0)).toInt / 2) ∨ (v.toInt = 1 ∧ (sI H0 h0 (X.1.2 8 0)).toInt / 2 ≤ a1))))) := by
  refine q_enterI (own := "SnowForts$Yard") (by decide) rfl (Nat.le_of_ble_eq_true rfl) ?_
  intro p e s m args below meth c ls Qz E hl ret hS0
  have hx := E.1; have hb := E.2.1
  have hl : lv_has ls 2 [(0, .ref h0), (1, .int p1)] := hl
  refine lv_iload_n hx hb dX9_halfOfColumn_0 rfl (lv_at hl 1 rfl) ?_
  refine lv_aload_n hx hb dX9_halfOfColumn_1 rfl (lv_at hl 0 rfl) ?_
  refine q_getI E hC0 g0 fa_RX9_9 dX9_halfOfColumn_2 (fun v21 ev21 lv21 uv21 => ?_)
  have m22 : (sI H0 h0 (X.1.2 8 0)).toInt = v21.toInt := (congrArg Int32.toInt ev21).trans rfl
  refine lv_iconst (v := 2) hx hb dX9_halfOfColumn_5 rfl ?_
  refine lv_idiv hx hb dX9_halfOfColumn_6 (by decide) (lv_topi (fun v23 ev23 => ?_))
  have ev23i : v23.toInt = (v21.toInt / 2) := i_div ev23 rfl (by decide) (by omega) (by decide)
  have c24 := i_rng p1; rw [show p1.toInt = a1 from e1] at c24
  refine q_icmp_ge hx hb (a := a1) (b := (v21.toInt / 2)) e1 ev23i (tgt := 14) dX9_halfOfColumn_7 rfl (fun c25 => ?_) (fun c25 => ?_)
  · refine lv_iconst (v := 1) hx hb dX9_halfOfColumn_14 rfl ?_
    have c26 : (1 : Int32).toInt = 1 := (by decide)
    exact ret 1 H0 [] _ _ dX9_halfOfColumn_15 ⟨rfl, ⟨by omega, by omega, by omega⟩⟩ hC0 hS0
  · refine lv_iconst (v := 0) hx hb dX9_halfOfColumn_10 rfl ?_
    refine lv_goto (tgt := 15) hx hb dX9_halfOfColumn_11 rfl ?_
    have c27 : (0 : Int32).toInt = 0 := (by decide)
    exact ret 0 H0 [] _ _ dX9_halfOfColumn_15 ⟨rfl, ⟨by omega, by omega, by omega⟩⟩ hC0 hS0
set_option maxRecDepth 100000 in
set_option maxHeartbeats 4000000 in
theorem m_X9_isOwned (l : Launch) (X : xW) (Γ : Nat → Option Nat) (H0 : Heap) (hC0 : Conf X Γ H0) (h0 : Nat) (g0 : Γ h0 = some 5) (p1 : Int32) {a1 : Int} (e1 : p1.toInt = a1) (p2 : Int32) {a2 : Int} (e2 : p2.toInt = a2) : Ctr l X Γ yX9_isOwned cX9_isOwned 3 (some .boolean) 1 [.ref h0, .int p1, .int p2] H0 (QI X Γ (fun v H1 => H1 = H0 ∧ ((v = 1 ∧ (0 ≤ a1 ∧ a1 < (sI H0 h0 (X.1.2 8 0)).toInt ∧ a1 ≤ 5 ∧ 0 ≤ a2 ∧ a2 < (sI H0 h0 (X.1.2 8 1)).toInt ∧ a2 ≤ 5 ∧ ((a1 < (sI H0 h0 (X.1.2 8 0)).toInt / 2 ∧ 1 ≤ (sI H0 h0 (X.1.2 8 2)).toInt) ∨ ((sI H0 h0 (X.1.2 8 0)).toInt / 2 ≤ a1 ∧ 2 ≤ (sI H0 h0 (X.1.2 8 2)).toInt)))) ∨ (v = 0 ∧ (a1 < 0 ∨ (sI H0 h0 (X.1.2 8 0)).toInt ≤ a1 ∨ 6 ≤ a1 ∨ a2 < 0 ∨ (sI H0 h0 (X.1.2 8 1)).toInt ≤ a2 ∨ 6 ≤ a2 ∨ (a1 < (sI H0 h0 (X.1.2 8 0)).toInt / 2 ∧ (sI H0 h0 (X.1.2 8 2)).toInt ≤ 0) ∨ ((sI H0 h0 (X.1.2 8 0)).toInt / 2 ≤ a1 ∧ (sI H0 h0 (X.1.2 8 2)).toInt ≤ 1)))))) := by
  refine q_enterZ (own := "SnowForts$Yard") (by decide) rfl (Nat.le_of_ble_eq_true rfl) ?_
  intro p e s m args below meth c ls Qz E hl ret hS0
  have hx := E.1; have hb := E.2.1
  have hl : lv_has ls 3 [(0, .ref h0), (1, .int p1), (2, .int p2)] := hl
  refine lv_aload_n hx hb dX9_isOwned_0 rfl (lv_at hl 0 rfl) ?_
  refine lv_iload_n hx hb dX9_isOwned_1 rfl (lv_at hl 1 rfl) ?_
  refine lv_iload_n hx hb dX9_isOwned_2 rfl (lv_at hl 2 rfl) ?_
  refine q_goIp (q_runV (As := [.int p1, .int p2]) (rest := []) E hC0 hS0 (m_X9_isCell l X Γ H0 hC0 h0 g0 p1 (a1 := a1) e1 p2 (a2 := a2) e2) cw_X9_isCell cl_RX9_79 g0 ⟨rfl, rfl⟩ rfl hl.1 rfl (Nat.zero_le _) (by decide) dX9_isOwned_3) hS0 (fun v21 locs21 hr21 hS21 => ?_)
  rcases hr21 with ⟨rfl, f21a0, f21a1, f21a2, f21a3, f21a4, f21a5⟩ | ⟨rfl, f21b⟩
  · refine q_if_eq hx hb (a := 1) (by decide) (tgt := 25) dX9_isOwned_6 rfl (fun c22 => absurd c22 (by omega)) (fun c22 => ?_)
    refine lv_aload_n hx hb dX9_isOwned_9 rfl (lv_at hl 0 rfl) ?_
    refine lv_aload_n hx hb dX9_isOwned_10 rfl (lv_at hl 0 rfl) ?_
    refine lv_iload_n hx hb dX9_isOwned_11 rfl (lv_at hl 1 rfl) ?_
    refine q_goIp (q_runV (As := [.int p1]) (rest := [.ref h0]) E hC0 hS21 (m_X9_halfOfColumn l X Γ H0 hC0 h0 g0 p1 (a1 := a1) e1) cw_X9_halfOfColumn cl_RX9_83 g0 ⟨rfl, rfl⟩ rfl hl.1 rfl (show _ ≤ _ from by simp [Value.category]) (by decide) dX9_isOwned_12) hS21 (fun v23 locs23 hr23 hS23 => ?_)
    obtain ⟨f23_0, f23_1, f23_2⟩ := hr23
    refine q_goIp (q_runV (As := [.int v23]) (rest := []) E hC0 hS23 (m_X9_isSchool l X Γ H0 hC0 h0 g0 v23 (a1 := v23.toInt) rfl) cw_X9_isSchool cl_RX9_87 g0 ⟨rfl, rfl⟩ rfl hl.1 rfl (Nat.zero_le _) (by decide) dX9_isOwned_15) hS23 (fun v24 locs24 hr24 hS24 => ?_)
    rcases hr24 with ⟨rfl, f24a0, f24a1, f24a2⟩ | ⟨rfl, f24b⟩
    · refine q_if_eq hx hb (a := 1) (by decide) (tgt := 25) dX9_isOwned_18 rfl (fun c25 => absurd c25 (by omega)) (fun c25 => ?_)
      refine lv_iconst (v := 1) hx hb dX9_isOwned_21 rfl ?_
      refine lv_goto (tgt := 26) hx hb dX9_isOwned_22 rfl ?_
      exact ret 1 H0 locs24 _ _ dX9_isOwned_26 (Or.inr rfl) ⟨rfl, Or.inl ⟨rfl, ⟨by omega, by omega, by omega, by omega, by omega, by omega, by omega⟩⟩⟩ hC0 hS24
    · refine q_if_eq hx hb (a := 0) (by decide) (tgt := 25) dX9_isOwned_18 rfl (fun c26 => ?_) (fun c26 => absurd c26 (by omega))
      refine lv_iconst (v := 0) hx hb dX9_isOwned_25 rfl ?_
      exact ret 0 H0 locs24 _ _ dX9_isOwned_26 (Or.inl rfl) ⟨rfl, Or.inr ⟨rfl, by omega⟩⟩ hC0 hS24
  · refine q_if_eq hx hb (a := 0) (by decide) (tgt := 25) dX9_isOwned_6 rfl (fun c27 => ?_) (fun c27 => absurd c27 (by omega))
    refine lv_iconst (v := 0) hx hb dX9_isOwned_25 rfl ?_
    exact ret 0 H0 locs21 _ _ dX9_isOwned_26 (Or.inl rfl) ⟨rfl, Or.inr ⟨rfl, by omega⟩⟩ hC0 hS21
set_option maxRecDepth 100000 in
set_option maxHeartbeats 4000000 in
theorem m_X9_handsLeft (l : Launch) (X : xW) (Γ : Nat → Option Nat) (H0 : Heap) (hC0 : Conf X Γ H0) (h0 : Nat) (g0 : Γ h0 = some 5) (p1 : Int32) {a1 : Int} (e1 : p1.toInt = a1) (sn wl su lw ic kn hd us br ar fi : Nat) (yn : YN X Γ H0 h0 sn wl su lw ic kn hd us br ar fi) (r0 : 0 ≤ a1) (r1 : a1 ≤ 1) : Ctr l X Γ yX9_handsLeft cX9_handsLeft 2 (some .int) 1 [.ref h0, .int p1] H0 (QI X Γ (fun v H1 => H1 = H0 ∧ ((v.toInt = hlf H0 hd us a1) ∧ (0 ≤ v.toInt) ∧ (v.toInt ≤ 40) ∧ (aI H0 hd a1 - aI H0 us a1 ≤ v.toInt) ∧ (v.toInt = 0 ∨ v.toInt = aI H0 hd a1 - aI H0 us a1)))) := by
  refine q_enterI (own := "SnowForts$Yard") (by decide) rfl (Nat.le_of_ble_eq_true rfl) ?_
  intro p e s m args below meth c ls Qz E hl ret hS0
  have hx := E.1; have hb := E.2.1
  have hl : lv_has ls 2 [(0, .ref h0), (1, .int p1)] := hl
  have gsn := yn.sn.2; have gwl := yn.wl.2; have gsu := yn.su.2; have glw := yn.lw.2; have gic := yn.ic.2; have gkn := yn.kn.2; have ghd := yn.hd.2; have gus := yn.us.2; have gbr := yn.br.2; have gar := yn.ar.2; have gfi := yn.fi.2
  refine lv_iconst (v := 0) hx hb dX9_handsLeft_0 rfl ?_
  refine lv_aload_n hx hb dX9_handsLeft_1 rfl (lv_at hl 0 rfl) ?_
  refine q_getS E hC0 g0 fa_RX9_18 yn.hd.1 dX9_handsLeft_2 (fun _ => ?_)
  refine lv_iload_n hx hb dX9_handsLeft_5 rfl (lv_at hl 1 rfl) ?_
  refine q_iald E hC0 ghd rfl rfl (fun _ h => h) (i_in (a := a1) e1 (by omega) (by omega)) dX9_handsLeft_6 (fun v21 ev21 lv21 uv21 => ?_)
  have m22 : aI H0 hd a1 = v21.toInt := aI_of e1 ev21
  refine lv_aload_n hx hb dX9_handsLeft_7 rfl (lv_at hl 0 rfl) ?_
  refine q_getS E hC0 g0 fa_RX9_22 yn.us.1 dX9_handsLeft_8 (fun _ => ?_)
  refine lv_iload_n hx hb dX9_handsLeft_11 rfl (lv_at hl 1 rfl) ?_
  refine q_iald E hC0 gus rfl rfl (fun _ h => h) (i_in (a := a1) e1 (by omega) (by omega)) dX9_handsLeft_12 (fun v23 ev23 lv23 uv23 => ?_)
  have m24 : aI H0 us a1 = v23.toInt := aI_of e1 ev23
  refine lv_isub hx hb dX9_handsLeft_13 (lv_topi (fun v25 ev25 => ?_))
  have ev25i : v25.toInt = (v21.toInt - v23.toInt) := i_sub ev25 rfl rfl (by omega) (by omega)
  refine q_mmax E hl.1 w_511 mathw_max (a := 0) (b := (v21.toInt - v23.toInt)) (show (0 : Int32).toInt = 0 from by decide) ev25i (by decide) (Nat.zero_le _) dX9_handsLeft_14 (fun v26 mv26a mv26b mv26c => ?_)
  have c27 : v26.toInt = v26.toInt := rfl
  exact ret v26 H0 [] _ _ dX9_handsLeft_17 ⟨rfl, ⟨by unfold hlf; omega, by omega, by omega, by omega, by omega⟩⟩ hC0 hS0
set_option maxRecDepth 100000 in
set_option maxHeartbeats 4000000 in
theorem m_X9_across (l : Launch) (X : xW) (Γ : Nat → Option Nat) (H0 : Heap) (hC0 : Conf X Γ H0) (h0 : Nat) (g0 : Γ h0 = some 5) (p1 : Int32) {a1 : Int} (e1 : p1.toInt = a1) (r0 : 0 ≤ a1) (r1 : a1 ≤ 35) : Ctr l X Γ yX9_across cX9_across 3 (some .int) 0 [.ref h0, .int p1] H0 (QI X Γ (fun v H1 => H1 = H0 ∧ ((v.toInt = acr (sI H0 h0 (X.1.2 8 0)).toInt a1) ∧ (0 ≤ v.toInt) ∧ (v.toInt ≤ 35)))) := by
  refine q_enterI (own := "SnowForts$Yard") (by decide) rfl (Nat.le_of_ble_eq_true rfl) ?_
  intro p e s m args below meth c ls Qz E hl ret hS0
  have hx := E.1; have hb := E.2.1
  have hl : lv_has ls 3 [(0, .ref h0), (1, .int p1)] := hl
  refine lv_iload_n hx hb dX9_across_0 rfl (lv_at hl 1 rfl) ?_
  refine lv_iload_n hx hb dX9_across_1 rfl (lv_at hl 1 rfl) ?_
  refine lv_bipush (v := 6) hx hb dX9_across_2 rfl ?_
  refine lv_irem hx hb dX9_across_4 (by decide) (lv_topi (fun v21 ev21 => ?_))
  have ev21i : v21.toInt = (a1 % 6) := i_rem ev21 e1 (by decide) (by omega) (by decide)
  refine lv_isub hx hb dX9_across_5 (lv_topi (fun v22 ev22 => ?_))
  have ev22i : v22.toInt = (a1 - (a1 % 6)) := i_sub ev22 e1 ev21i (by omega) (by omega)
  refine lv_aload_n hx hb dX9_across_6 rfl (lv_at hl 0 rfl) ?_
  refine q_getI E hC0 g0 fa_RX9_9 dX9_across_7 (fun v23 ev23 lv23 uv23 => ?_)
  have m24 : (sI H0 h0 (X.1.2 8 0)).toInt = v23.toInt := (congrArg Int32.toInt ev23).trans rfl
  refine lv_iadd hx hb dX9_across_10 (lv_topi (fun v25 ev25 => ?_))
  have ev25i : v25.toInt = ((a1 - (a1 % 6)) + v23.toInt) := i_add ev25 ev22i rfl (by omega) (by omega)
  refine lv_iconst (v := 1) hx hb dX9_across_11 rfl ?_
  refine lv_isub hx hb dX9_across_12 (lv_topi (fun v26 ev26 => ?_))
  have ev26i : v26.toInt = (((a1 - (a1 % 6)) + v23.toInt) - 1) := i_sub ev26 ev25i (by decide) (by omega) (by omega)
  refine lv_iload_n hx hb dX9_across_13 rfl (lv_at hl 1 rfl) ?_
  refine lv_bipush (v := 6) hx hb dX9_across_14 rfl ?_
  refine lv_irem hx hb dX9_across_16 (by decide) (lv_topi (fun v27 ev27 => ?_))
  have ev27i : v27.toInt = (a1 % 6) := i_rem ev27 e1 (by decide) (by omega) (by decide)
  refine lv_isub hx hb dX9_across_17 (lv_topi (fun v28 ev28 => ?_))
  have ev28i : v28.toInt = ((((a1 - (a1 % 6)) + v23.toInt) - 1) - (a1 % 6)) := i_sub ev28 ev26i ev27i (by omega) (by omega)
  refine lv_istore_n hx hb dX9_across_18 rfl hl (by decide) rfl (fun ls hl => ?_)
  replace hl : lv_has ls 3 [(2, .int v28), (0, .ref h0), (1, .int p1)] := hl
  refine lv_iload_n hx hb dX9_across_19 rfl (lv_at hl 0 rfl) ?_
  refine q_if_lt hx hb (a := ((((a1 - (a1 % 6)) + v23.toInt) - 1) - (a1 % 6))) ev28i (tgt := 33) dX9_across_20 rfl (fun c29 => ?_) (fun c29 => ?_)
  · refine lv_iconst (v := 0) hx hb dX9_across_33 rfl ?_
    have c30 : (0 : Int32).toInt = 0 := (by decide)
    exact ret 0 H0 [] _ _ dX9_across_34 ⟨rfl, ⟨by unfold acr; split <;> omega, by omega, by omega⟩⟩ hC0 hS0
  · refine lv_iload_n hx hb dX9_across_23 rfl (lv_at hl 0 rfl) ?_
    refine lv_bipush (v := 36) hx hb dX9_across_24 rfl ?_
    refine q_icmp_ge hx hb (a := ((((a1 - (a1 % 6)) + v23.toInt) - 1) - (a1 % 6))) (b := 36) ev28i (by decide) (tgt := 33) dX9_across_26 rfl (fun c31 => ?_) (fun c31 => ?_)
    · refine lv_iconst (v := 0) hx hb dX9_across_33 rfl ?_
      have c32 : (0 : Int32).toInt = 0 := (by decide)
      exact ret 0 H0 [] _ _ dX9_across_34 ⟨rfl, ⟨by unfold acr; split <;> omega, by omega, by omega⟩⟩ hC0 hS0
    · refine lv_iload_n hx hb dX9_across_29 rfl (lv_at hl 0 rfl) ?_
      refine lv_goto (tgt := 34) hx hb dX9_across_30 rfl ?_
      have c33 : v28.toInt = ((((a1 - (a1 % 6)) + v23.toInt) - 1) - (a1 % 6)) := ev28i
      exact ret v28 H0 [] _ _ dX9_across_34 ⟨rfl, ⟨by unfold acr; split <;> omega, by omega, by omega⟩⟩ hC0 hS0
set_option maxRecDepth 100000 in
set_option maxHeartbeats 4000000 in
theorem m_X9_wallLimit (l : Launch) (X : xW) (Γ : Nat → Option Nat) (H0 : Heap) (hC0 : Conf X Γ H0) (h0 : Nat) (g0 : Γ h0 = some 5) (p1 : Int32) {a1 : Int} (e1 : p1.toInt = a1) (sn wl su lw ic kn hd us br ar fi : Nat) (yn : YN X Γ H0 h0 sn wl su lw ic kn hd us br ar fi) (r0 : 0 ≤ a1) (r1 : a1 ≤ 35) : Ctr l X Γ yX9_wallLimit cX9_wallLimit 3 (some .int) 1 [.ref h0, .int p1] H0 (QI X Γ (fun v H1 => H1 = H0 ∧ ((v.toInt = wlm H0 ar lw (sI H0 h0 (X.1.2 8 0)).toInt a1) ∧ (0 ≤ v.toInt) ∧ (v.toInt ≤ 1000000)))) := by
  refine q_enterI (own := "SnowForts$Yard") (by decide) rfl (Nat.le_of_ble_eq_true rfl) ?_
  intro p e s m args below meth c ls Qz E hl ret hS0
  have hx := E.1; have hb := E.2.1
  have hl : lv_has ls 3 [(0, .ref h0), (1, .int p1)] := hl
  have gsn := yn.sn.2; have gwl := yn.wl.2; have gsu := yn.su.2; have glw := yn.lw.2; have gic := yn.ic.2; have gkn := yn.kn.2; have ghd := yn.hd.2; have gus := yn.us.2; have gbr := yn.br.2; have gar := yn.ar.2; have gfi := yn.fi.2
  refine lv_aload_n hx hb dX9_wallLimit_0 rfl (lv_at hl 0 rfl) ?_
  refine q_getS E hC0 g0 fa_RX9_28 yn.ar.1 dX9_wallLimit_1 (fun _ => ?_)
  refine lv_iconst (v := 0) hx hb dX9_wallLimit_4 rfl ?_
  refine q_iald E hC0 gar rfl rfl (fun _ h => h) (i_in (a := 0) (show (0 : Int32).toInt = 0 from by decide) (by omega) (by omega)) dX9_wallLimit_5 (fun v21 ev21 lv21 uv21 => ?_)
  have m22 : aI H0 ar (0) = v21.toInt := aI_of (show (0 : Int32).toInt = 0 from by decide) ev21
  refine lv_istore_n hx hb dX9_wallLimit_6 rfl hl (by decide) rfl (fun ls hl => ?_)
  replace hl : lv_has ls 3 [(2, .int v21), (0, .ref h0), (1, .int p1)] := hl
  refine lv_iload_n hx hb dX9_wallLimit_7 rfl (lv_at hl 0 rfl) ?_
  refine lv_iconst (v := (-1)) hx hb dX9_wallLimit_8 rfl ?_
  refine q_icmp_ne hx hb (a := v21.toInt) (b := (-1)) rfl (by decide) (tgt := 17) dX9_wallLimit_9 rfl (fun c23 => ?_) (fun c23 => ?_)
  · refine lv_aload_n hx hb dX9_wallLimit_17 rfl (lv_at hl 1 rfl) ?_
    refine q_getS E hC0 g0 fa_RX9_43 yn.lw.1 dX9_wallLimit_18 (fun _ => ?_)
    refine lv_aload_n hx hb dX9_wallLimit_21 rfl (lv_at hl 1 rfl) ?_
    refine lv_iload_n hx hb dX9_wallLimit_22 rfl (lv_at hl 2 rfl) ?_
    refine q_goIp (q_runV (As := [.int p1]) (rest := [.ref lw]) E hC0 hS0 (m_X9_across l X Γ H0 hC0 h0 g0 p1 (a1 := a1) e1 (by omega) (by omega)) cw_X9_across cl_RX9_146 g0 ⟨rfl, rfl⟩ rfl hl.1 rfl (show _ ≤ _ from by simp [Value.category]) (by decide) dX9_wallLimit_23) hS0 (fun v24 locs24 hr24 hS24 => ?_)
    obtain ⟨f24_0, f24_1, f24_2⟩ := hr24
    have hac := f24_0
    refine q_iald E hC0 glw rfl rfl (fun _ h => h) (i_in (a := v24.toInt) rfl (by omega) (by omega)) dX9_wallLimit_26 (fun v25 ev25 lv25 uv25 => ?_)
    have m26 : aI H0 lw (v24.toInt) = v25.toInt := aI_of rfl ev25
    refine lv_iload_n hx hb dX9_wallLimit_27 rfl (lv_at hl 0 rfl) ?_
    refine lv_iadd hx hb dX9_wallLimit_28 (lv_topi (fun v27 ev27 => ?_))
    have ev27i : v27.toInt = (v25.toInt + v21.toInt) := i_add ev27 rfl rfl (by omega) (by omega)
    have c28 : v27.toInt = (v25.toInt + v21.toInt) := ev27i
    exact ret v27 H0 locs24 _ _ dX9_wallLimit_29 ⟨rfl, ⟨by unfold wlm; first | (rw [← hac]; split <;> omega) | (split <;> omega), by omega, by omega⟩⟩ hC0 hS24
  · refine lv_ldc (v := 1000000) hx hb E.2.2.2.1 (E.2.2.2.2.1 _ w_553) dX9_wallLimit_12 ?_
    refine lv_goto (tgt := 29) hx hb dX9_wallLimit_14 rfl ?_
    have c29 : (1000000 : Int32).toInt = 1000000 := (by decide)
    exact ret 1000000 H0 [] _ _ dX9_wallLimit_29 ⟨rfl, ⟨by unfold wlm; first | (rw [← hac]; split <;> omega) | (split <;> omega), by omega, by omega⟩⟩ hC0 hS0
set_option maxRecDepth 100000 in
set_option maxHeartbeats 4000000 in
theorem m_X9_breaks (l : Launch) (X : xW) (Γ : Nat → Option Nat) (H0 : Heap) (hC0 : Conf X Γ H0) (h0 : Nat) (g0 : Γ h0 = some 5) (p1 : Int32) {a1 : Int} (e1 : p1.toInt = a1) (p2 : Int32) {a2 : Int} (e2 : p2.toInt = a2) (p3 : Int32) {a3 : Int} (e3 : p3.toInt = a3) (sn wl su lw ic kn hd us br ar fi : Nat) (yn : YN X Γ H0 h0 sn wl su lw ic kn hd us br ar fi) (r0 : 0 ≤ a1) (r1 : a1 ≤ 1) : Ctr l X Γ yX9_breaks cX9_breaks 4 none 0 [.ref h0, .int p1, .int p2, .int p3] H0 (QV X Γ (fun H1 => Kp X Γ [3, 29, 31, 32, 33, 34, 37, 39, 40, 50, 51, 52, 53, 54, 55, 56, 57, 58, 59, 60, 61, 62, 67, 68, 69, 70, 71, 72] H0 H1 ∧ ((OT H0 H1 br a1)))) := by
  refine q_enterV (own := "SnowForts$Yard") (by decide) rfl (Nat.le_of_ble_eq_true rfl) ?_
  intro p e s m args below meth c ls Qz E hl ret hS0
  have hx := E.1; have hb := E.2.1
  have hKp0 : Kp X Γ [3, 29, 31, 32, 33, 34, 37, 39, 40, 50, 51, 52, 53, 54, 55, 56, 57, 58, 59, 60, 61, 62, 67, 68, 69, 70, 71, 72] H0 H0 := Kp.rf
  have hl : lv_has ls 4 [(0, .ref h0), (1, .int p1), (2, .int p2), (3, .int p3)] := hl
  have gsn := yn.sn.2; have gwl := yn.wl.2; have gsu := yn.su.2; have glw := yn.lw.2; have gic := yn.ic.2; have gkn := yn.kn.2; have ghd := yn.hd.2; have gus := yn.us.2; have gbr := yn.br.2; have gar := yn.ar.2; have gfi := yn.fi.2
  have obr : OT H0 H0 br a1 := OT.rf
  refine lv_aload_n hx hb dX9_breaks_0 rfl (lv_at hl 0 rfl) ?_
  refine q_getS E hC0 g0 fa_RX9_25 yn.br.1 dX9_breaks_1 (fun _ => ?_)
  refine lv_iconst (v := 0) hx hb dX9_breaks_4 rfl ?_
  refine q_iald E hC0 gbr rfl rfl (fun _ h => h) (i_in (a := 0) (show (0 : Int32).toInt = 0 from by decide) (by omega) (by omega)) dX9_breaks_5 (fun v21 ev21 _ _ => ?_)
  have m22 : aI H0 br (0) = v21.toInt := aI_of (show (0 : Int32).toInt = 0 from by decide) ev21
  refine lv_aload_n hx hb dX9_breaks_6 rfl (lv_at hl 0 rfl) ?_
  refine q_getS E hC0 g0 fa_RX9_25 yn.br.1 dX9_breaks_7 (fun _ => ?_)
  refine lv_iconst (v := 1) hx hb dX9_breaks_10 rfl ?_
  refine q_iald E hC0 gbr rfl rfl (fun _ h => h) (i_in (a := 1) (show (1 : Int32).toInt = 1 from by decide) (by omega) (by omega)) dX9_breaks_11 (fun v23 ev23 _ _ => ?_)
  have m24 : aI H0 br (1) = v23.toInt := aI_of (show (1 : Int32).toInt = 1 from by decide) ev23
  refine lv_iadd hx hb dX9_breaks_12 (lv_topi (fun v25 ev25 => ?_))
  refine q_if_ne hx hb (a := v25.toInt) rfl (tgt := 60) dX9_breaks_13 rfl (fun c26 => ?_) (fun c26 => ?_)
  · refine lv_aload_n hx hb dX9_breaks_60 rfl (lv_at hl 0 rfl) ?_
    refine q_getS E hC0 g0 fa_RX9_25 yn.br.1 dX9_breaks_61 (fun _ => ?_)
    refine lv_iload_n hx hb dX9_breaks_64 rfl (lv_at hl 1 rfl) ?_
    refine lv_dup2_11 hx hb dX9_breaks_65 rfl rfl ?_
    refine q_iald E hC0 gbr rfl rfl (fun _ h => h) (i_in (a := a1) e1 (by omega) (by omega)) dX9_breaks_66 (fun v27 ev27 _ _ => ?_)
    have m28 : aI H0 br a1 = v27.toInt := aI_of e1 ev27
    refine lv_iconst (v := 1) hx hb dX9_breaks_67 rfl ?_
    refine lv_iadd hx hb dX9_breaks_68 (lv_topi (fun v29 ev29 => ?_))
    refine q_iast E hC0 hS0 gbr (by decide) rfl rfl (i_in (a := a1) e1 (by omega) (by omega)) tv_F dX9_breaks_69 (fun H30 locs30 hC30 hS30 U30 => ?_)
    have hKp30 := Kp.upA gbr rfl (by decide) rfl U30 hKp0
    have m31 : aI H30 br a1 = v29.toInt := aI_up U30 e1 rfl
    replace obr : OT H0 H30 br a1 := obr.up U30 e1 (by omega)
    have m32 : (sI H30 h0 (X.1.2 8 0)).toInt = (sI H0 h0 (X.1.2 8 0)).toInt := congrArg Int32.toInt (up_nI U30 (ne_k g0 gbr (by decide)))
    have m33 : (sI H30 h0 (X.1.2 8 1)).toInt = (sI H0 h0 (X.1.2 8 1)).toInt := congrArg Int32.toInt (up_nI U30 (ne_k g0 gbr (by decide)))
    have m34 : (sI H30 h0 (X.1.2 8 2)).toInt = (sI H0 h0 (X.1.2 8 2)).toInt := congrArg Int32.toInt (up_nI U30 (ne_k g0 gbr (by decide)))
    exact ret H30 locs30 _ _ dX9_breaks_70 ⟨hKp30, obr⟩ hC30 hS30
  · refine lv_aload_n hx hb dX9_breaks_16 rfl (lv_at hl 0 rfl) ?_
    refine q_getS E hC0 g0 fa_RX9_31 yn.fi.1 dX9_breaks_17 (fun _ => ?_)
    refine lv_iconst (v := 0) hx hb dX9_breaks_20 rfl ?_
    refine lv_iload_n hx hb dX9_breaks_21 rfl (lv_at hl 1 rfl) ?_
    refine q_iast E hC0 hS0 gfi (by decide) rfl rfl (i_in (a := 0) (show (0 : Int32).toInt = 0 from by decide) (by omega) (by omega)) tv_F dX9_breaks_22 (fun H35 locs35 hC35 hS35 U35 => ?_)
    have hKp35 := Kp.upA gfi rfl (by decide) rfl U35 hKp0
    have m36 : aI H35 fi (0) = a1 := aI_up U35 (show (0 : Int32).toInt = 0 from by decide) e1
    replace obr : OT H0 H35 br a1 := obr.ne U35 (nek gfi gbr (by decide))
    have m37 : (sI H35 h0 (X.1.2 8 0)).toInt = (sI H0 h0 (X.1.2 8 0)).toInt := congrArg Int32.toInt (up_nI U35 (ne_k g0 gfi (by decide)))
    have m38 : (sI H35 h0 (X.1.2 8 1)).toInt = (sI H0 h0 (X.1.2 8 1)).toInt := congrArg Int32.toInt (up_nI U35 (ne_k g0 gfi (by decide)))
    have m39 : (sI H35 h0 (X.1.2 8 2)).toInt = (sI H0 h0 (X.1.2 8 2)).toInt := congrArg Int32.toInt (up_nI U35 (ne_k g0 gfi (by decide)))
    refine lv_aload_n hx hb dX9_breaks_23 rfl (lv_at hl 0 rfl) ?_
    refine q_getS E hC35 g0 fa_RX9_31 (yn.kp g0 hKp35 rfl).fi.1 dX9_breaks_24 (fun _ => ?_)
    refine lv_iconst (v := 1) hx hb dX9_breaks_27 rfl ?_
    refine lv_iload_n hx hb dX9_breaks_28 rfl (lv_at hl 2 rfl) ?_
    refine q_iast E hC35 hS35 gfi (by decide) rfl rfl (i_in (a := 1) (show (1 : Int32).toInt = 1 from by decide) (by omega) (by omega)) tv_F dX9_breaks_29 (fun H40 locs40 hC40 hS40 U40 => ?_)
    have hKp40 := Kp.upA gfi rfl (by decide) rfl U40 hKp35
    have m41 : aI H40 fi (1) = a2 := aI_up U40 (show (1 : Int32).toInt = 1 from by decide) e2
    replace obr : OT H0 H40 br a1 := obr.ne U40 (nek gfi gbr (by decide))
    have m42 : (sI H40 h0 (X.1.2 8 0)).toInt = (sI H35 h0 (X.1.2 8 0)).toInt := congrArg Int32.toInt (up_nI U40 (ne_k g0 gfi (by decide)))
    have m43 : (sI H40 h0 (X.1.2 8 1)).toInt = (sI H35 h0 (X.1.2 8 1)).toInt := congrArg Int32.toInt (up_nI U40 (ne_k g0 gfi (by decide)))
    have m44 : (sI H40 h0 (X.1.2 8 2)).toInt = (sI H35 h0 (X.1.2 8 2)).toInt := congrArg Int32.toInt (up_nI U40 (ne_k g0 gfi (by decide)))
    refine lv_aload_n hx hb dX9_breaks_30 rfl (lv_at hl 0 rfl) ?_
    refine q_getS E hC40 g0 fa_RX9_31 (yn.kp g0 hKp40 rfl).fi.1 dX9_breaks_31 (fun _ => ?_)
    refine lv_iconst (v := 2) hx hb dX9_breaks_34 rfl ?_
    refine lv_aload_n hx hb dX9_breaks_35 rfl (lv_at hl 0 rfl) ?_
    refine q_getI E hC40 g0 fa_RX9_55 dX9_breaks_36 (fun v45 ev45 lv45 uv45 => ?_)
    refine q_iast E hC40 hS40 gfi (by decide) rfl rfl (i_in (a := 2) (show (2 : Int32).toInt = 2 from by decide) (by omega) (by omega)) tv_F dX9_breaks_39 (fun H46 locs46 hC46 hS46 U46 => ?_)
    have hKp46 := Kp.upA gfi rfl (by decide) rfl U46 hKp40
    have m47 : aI H46 fi (2) = v45.toInt := aI_up U46 (show (2 : Int32).toInt = 2 from by decide) rfl
    replace obr : OT H0 H46 br a1 := obr.ne U46 (nek gfi gbr (by decide))
    have m48 : (sI H46 h0 (X.1.2 8 0)).toInt = (sI H40 h0 (X.1.2 8 0)).toInt := congrArg Int32.toInt (up_nI U46 (ne_k g0 gfi (by decide)))
    have m49 : (sI H46 h0 (X.1.2 8 1)).toInt = (sI H40 h0 (X.1.2 8 1)).toInt := congrArg Int32.toInt (up_nI U46 (ne_k g0 gfi (by decide)))
    have m50 : (sI H46 h0 (X.1.2 8 2)).toInt = (sI H40 h0 (X.1.2 8 2)).toInt := congrArg Int32.toInt (up_nI U46 (ne_k g0 gfi (by decide)))
    refine lv_aload_n hx hb dX9_breaks_40 rfl (lv_at hl 0 rfl) ?_
    refine q_getS E hC46 g0 fa_RX9_31 (yn.kp g0 hKp46 rfl).fi.1 dX9_breaks_41 (fun _ => ?_)
    refine lv_iconst (v := 3) hx hb dX9_breaks_44 rfl ?_
    refine lv_iload_n hx hb dX9_breaks_45 rfl (lv_at hl 3 rfl) ?_
    refine lv_bipush (v := 6) hx hb dX9_breaks_46 rfl ?_
    refine lv_irem hx hb dX9_breaks_48 (by decide) (lv_topi (fun v51 ev51 => ?_))
    have ev51b := i_remB ev51 e3 (show (6 : Int32).toInt = 6 from by decide) (by decide)
    refine q_iast E hC46 hS46 gfi (by decide) rfl rfl (i_in (a := 3) (show (3 : Int32).toInt = 3 from by decide) (by omega) (by omega)) tv_F dX9_breaks_49 (fun H52 locs52 hC52 hS52 U52 => ?_)
    have hKp52 := Kp.upA gfi rfl (by decide) rfl U52 hKp46
    have m53 : aI H52 fi (3) = v51.toInt := aI_up U52 (show (3 : Int32).toInt = 3 from by decide) rfl
    replace obr : OT H0 H52 br a1 := obr.ne U52 (nek gfi gbr (by decide))
    have m54 : (sI H52 h0 (X.1.2 8 0)).toInt = (sI H46 h0 (X.1.2 8 0)).toInt := congrArg Int32.toInt (up_nI U52 (ne_k g0 gfi (by decide)))
    have m55 : (sI H52 h0 (X.1.2 8 1)).toInt = (sI H46 h0 (X.1.2 8 1)).toInt := congrArg Int32.toInt (up_nI U52 (ne_k g0 gfi (by decide)))
    have m56 : (sI H52 h0 (X.1.2 8 2)).toInt = (sI H46 h0 (X.1.2 8 2)).toInt := congrArg Int32.toInt (up_nI U52 (ne_k g0 gfi (by decide)))
    refine lv_aload_n hx hb dX9_breaks_50 rfl (lv_at hl 0 rfl) ?_
    refine q_getS E hC52 g0 fa_RX9_31 (yn.kp g0 hKp52 rfl).fi.1 dX9_breaks_51 (fun _ => ?_)
    refine lv_iconst (v := 4) hx hb dX9_breaks_54 rfl ?_
    refine lv_iload_n hx hb dX9_breaks_55 rfl (lv_at hl 3 rfl) ?_
    refine lv_bipush (v := 6) hx hb dX9_breaks_56 rfl ?_
    refine lv_idiv hx hb dX9_breaks_58 (by decide) (lv_topi (fun v57 ev57 => ?_))
    refine q_iast E hC52 hS52 gfi (by decide) rfl rfl (i_in (a := 4) (show (4 : Int32).toInt = 4 from by decide) (by omega) (by omega)) tv_F dX9_breaks_59 (fun H58 locs58 hC58 hS58 U58 => ?_)
    have hKp58 := Kp.upA gfi rfl (by decide) rfl U58 hKp52
    have m59 : aI H58 fi (4) = v57.toInt := aI_up U58 (show (4 : Int32).toInt = 4 from by decide) rfl
    replace obr : OT H0 H58 br a1 := obr.ne U58 (nek gfi gbr (by decide))
    have m60 : (sI H58 h0 (X.1.2 8 0)).toInt = (sI H52 h0 (X.1.2 8 0)).toInt := congrArg Int32.toInt (up_nI U58 (ne_k g0 gfi (by decide)))
    have m61 : (sI H58 h0 (X.1.2 8 1)).toInt = (sI H52 h0 (X.1.2 8 1)).toInt := congrArg Int32.toInt (up_nI U58 (ne_k g0 gfi (by decide)))
    have m62 : (sI H58 h0 (X.1.2 8 2)).toInt = (sI H52 h0 (X.1.2 8 2)).toInt := congrArg Int32.toInt (up_nI U58 (ne_k g0 gfi (by decide)))
    refine lv_aload_n hx hb dX9_breaks_60 rfl (lv_at hl 0 rfl) ?_
    refine q_getS E hC58 g0 fa_RX9_25 (yn.kp g0 hKp58 rfl).br.1 dX9_breaks_61 (fun _ => ?_)
    refine lv_iload_n hx hb dX9_breaks_64 rfl (lv_at hl 1 rfl) ?_
    refine lv_dup2_11 hx hb dX9_breaks_65 rfl rfl ?_
    refine q_iald E hC58 gbr rfl rfl (fun _ h => h) (i_in (a := a1) e1 (by omega) (by omega)) dX9_breaks_66 (fun v63 ev63 _ _ => ?_)
    have m64 : aI H58 br a1 = v63.toInt := aI_of e1 ev63
    refine lv_iconst (v := 1) hx hb dX9_breaks_67 rfl ?_
    refine lv_iadd hx hb dX9_breaks_68 (lv_topi (fun v65 ev65 => ?_))
    refine q_iast E hC58 hS58 gbr (by decide) rfl rfl (i_in (a := a1) e1 (by omega) (by omega)) tv_F dX9_breaks_69 (fun H66 locs66 hC66 hS66 U66 => ?_)
    have hKp66 := Kp.upA gbr rfl (by decide) rfl U66 hKp58
    have m67 : aI H66 br a1 = v65.toInt := aI_up U66 e1 rfl
    replace obr : OT H0 H66 br a1 := obr.up U66 e1 (by omega)
    have m68 : (sI H66 h0 (X.1.2 8 0)).toInt = (sI H58 h0 (X.1.2 8 0)).toInt := congrArg Int32.toInt (up_nI U66 (ne_k g0 gbr (by decide)))
    have m69 : (sI H66 h0 (X.1.2 8 1)).toInt = (sI H58 h0 (X.1.2 8 1)).toInt := congrArg Int32.toInt (up_nI U66 (ne_k g0 gbr (by decide)))
    have m70 : (sI H66 h0 (X.1.2 8 2)).toInt = (sI H58 h0 (X.1.2 8 2)).toInt := congrArg Int32.toInt (up_nI U66 (ne_k g0 gbr (by decide)))
    exact ret H66 locs66 _ _ dX9_breaks_70 ⟨hKp66, obr⟩ hC66 hS66
set_option maxRecDepth 100000 in
set_option maxHeartbeats 4000000 in
theorem m_X9_lawfulHands (l : Launch) (X : xW) (Γ : Nat → Option Nat) (H0 : Heap) (hC0 : Conf X Γ H0) (h0 : Nat) (g0 : Γ h0 = some 5) (p1 : Int32) {a1 : Int} (e1 : p1.toInt = a1) (sn wl su lw ic kn hd us br ar fi : Nat) (yn : YN X Γ H0 h0 sn wl su lw ic kn hd us br ar fi) (r0 : 0 ≤ a1) (r1 : a1 ≤ 1) : Ctr l X Γ yX9_lawfulHands cX9_lawfulHands 3 (some .int) 1 [.ref h0, .int p1] H0 (QI X Γ (fun v H1 => H1 = H0 ∧ ((v.toInt = lwh H0 ar us a1) ∧ (0 ≤ v.toInt) ∧ (v.toInt ≤ 1000000)))) := by
  refine q_enterI (own := "SnowForts$Yard") (by decide) rfl (Nat.le_of_ble_eq_true rfl) ?_
  intro p e s m args below meth c ls Qz E hl ret hS0
  have hx := E.1; have hb := E.2.1
  have hl : lv_has ls 3 [(0, .ref h0), (1, .int p1)] := hl
  have gsn := yn.sn.2; have gwl := yn.wl.2; have gsu := yn.su.2; have glw := yn.lw.2; have gic := yn.ic.2; have gkn := yn.kn.2; have ghd := yn.hd.2; have gus := yn.us.2; have gbr := yn.br.2; have gar := yn.ar.2; have gfi := yn.fi.2
  refine lv_aload_n hx hb dX9_lawfulHands_0 rfl (lv_at hl 0 rfl) ?_
  refine q_getS E hC0 g0 fa_RX9_28 yn.ar.1 dX9_lawfulHands_1 (fun _ => ?_)
  refine lv_iconst (v := 1) hx hb dX9_lawfulHands_4 rfl ?_
  refine q_iald E hC0 gar rfl rfl (fun _ h => h) (i_in (a := 1) (show (1 : Int32).toInt = 1 from by decide) (by omega) (by omega)) dX9_lawfulHands_5 (fun v21 ev21 lv21 uv21 => ?_)
  have m22 : aI H0 ar (1) = v21.toInt := aI_of (show (1 : Int32).toInt = 1 from by decide) ev21
  refine lv_istore_n hx hb dX9_lawfulHands_6 rfl hl (by decide) rfl (fun ls hl => ?_)
  replace hl : lv_has ls 3 [(2, .int v21), (0, .ref h0), (1, .int p1)] := hl
  refine lv_iload_n hx hb dX9_lawfulHands_7 rfl (lv_at hl 0 rfl) ?_
  refine lv_iconst (v := (-1)) hx hb dX9_lawfulHands_8 rfl ?_
  refine q_icmp_ne hx hb (a := v21.toInt) (b := (-1)) rfl (by decide) (tgt := 17) dX9_lawfulHands_9 rfl (fun c23 => ?_) (fun c23 => ?_)
  · refine lv_iconst (v := 0) hx hb dX9_lawfulHands_17 rfl ?_
    refine lv_iload_n hx hb dX9_lawfulHands_18 rfl (lv_at hl 0 rfl) ?_
    refine lv_aload_n hx hb dX9_lawfulHands_19 rfl (lv_at hl 1 rfl) ?_
    refine q_getS E hC0 g0 fa_RX9_22 yn.us.1 dX9_lawfulHands_20 (fun _ => ?_)
    refine lv_iload_n hx hb dX9_lawfulHands_23 rfl (lv_at hl 2 rfl) ?_
    refine q_iald E hC0 gus rfl rfl (fun _ h => h) (i_in (a := a1) e1 (by omega) (by omega)) dX9_lawfulHands_24 (fun v24 ev24 lv24 uv24 => ?_)
    have m25 : aI H0 us a1 = v24.toInt := aI_of e1 ev24
    refine lv_isub hx hb dX9_lawfulHands_25 (lv_topi (fun v26 ev26 => ?_))
    have ev26i : v26.toInt = (v21.toInt - v24.toInt) := i_sub ev26 rfl rfl (by omega) (by omega)
    refine q_mmax E hl.1 w_511 mathw_max (a := 0) (b := (v21.toInt - v24.toInt)) (show (0 : Int32).toInt = 0 from by decide) ev26i (by decide) (Nat.zero_le _) dX9_lawfulHands_26 (fun v27 mv27a mv27b mv27c => ?_)
    have c28 : v27.toInt = v27.toInt := rfl
    exact ret v27 H0 [] _ _ dX9_lawfulHands_29 ⟨rfl, ⟨by unfold lwh; split <;> omega, by omega, by omega⟩⟩ hC0 hS0
  · refine lv_ldc (v := 1000000) hx hb E.2.2.2.1 (E.2.2.2.2.1 _ w_553) dX9_lawfulHands_12 ?_
    refine lv_goto (tgt := 29) hx hb dX9_lawfulHands_14 rfl ?_
    have c29 : (1000000 : Int32).toInt = 1000000 := (by decide)
    exact ret 1000000 H0 [] _ _ dX9_lawfulHands_29 ⟨rfl, ⟨by unfold lwh; split <;> omega, by omega, by omega⟩⟩ hC0 hS0
set_option maxRecDepth 100000 in
set_option maxHeartbeats 4000000 in
theorem m_X9_raisesOne (l : Launch) (X : xW) (Γ : Nat → Option Nat) (H0 : Heap) (hC0 : Conf X Γ H0) (h0 : Nat) (g0 : Γ h0 = some 5) (p1 : Int32) {a1 : Int} (e1 : p1.toInt = a1) (p2 : Int32) {a2 : Int} (e2 : p2.toInt = a2) (p3 : Int32) {a3 : Int} (e3 : p3.toInt = a3) (sn wl su lw ic kn hd us br ar fi : Nat) (yn : YN X Γ H0 h0 sn wl su lw ic kn hd us br ar fi) (r0 : 0 ≤ a1) (r1 : a1 ≤ 35) (r2 : 0 ≤ a2) (r3 : a2 ≤ 1) (r4 : a3 ≤ 1000000) (r5 : aI H0 wl a1 < a3) (r6 : aI H0 wl a1 ≤ 98) (r7 : 1 ≤ aI H0 sn a1) (r8 : aI H0 us a2 ≤ 39) (r9 : 1 ≤ lwh H0 ar us a2) : Ctr l X Γ yX9_raisesOne cX9_raisesOne 4 none 2 [.ref h0, .int p1, .int p2, .int p3] H0 (QV X Γ (fun H1 => Kp X Γ [3, 29, 31, 32, 33, 34, 37, 39, 40, 50, 51, 52, 53, 54, 57, 58, 59, 60, 61, 63, 65, 67, 68, 69, 70, 71, 72] H0 H1 ∧ ((aI H1 sn a1 = aI H0 sn a1 - 1) ∧ (aI H1 wl a1 = aI H0 wl a1 + 1) ∧ (aI H1 us a2 = aI H0 us a2 + 1) ∧ (OT H0 H1 sn a1) ∧ (OT H0 H1 wl a1) ∧ (OT H0 H1 us a2)))) := by
  refine q_enterV (own := "SnowForts$Yard") (by decide) rfl (Nat.le_of_ble_eq_true rfl) ?_
  intro p e s m args below meth c ls Qz E hl ret hS0
  have hx := E.1; have hb := E.2.1
  have hKp0 : Kp X Γ [3, 29, 31, 32, 33, 34, 37, 39, 40, 50, 51, 52, 53, 54, 57, 58, 59, 60, 61, 63, 65, 67, 68, 69, 70, 71, 72] H0 H0 := Kp.rf
  have hl : lv_has ls 4 [(0, .ref h0), (1, .int p1), (2, .int p2), (3, .int p3)] := hl
  have gsn := yn.sn.2; have gwl := yn.wl.2; have gsu := yn.su.2; have glw := yn.lw.2; have gic := yn.ic.2; have gkn := yn.kn.2; have ghd := yn.hd.2; have gus := yn.us.2; have gbr := yn.br.2; have gar := yn.ar.2; have gfi := yn.fi.2
  have osn : OT H0 H0 sn a1 := OT.rf
  have owl : OT H0 H0 wl a1 := OT.rf
  have ous : OT H0 H0 us a2 := OT.rf
  refine lv_aload_n hx hb dX9_raisesOne_0 rfl (lv_at hl 0 rfl) ?_
  refine q_getS E hC0 g0 fa_RX9_37 yn.wl.1 dX9_raisesOne_1 (fun _ => ?_)
  refine lv_iload_n hx hb dX9_raisesOne_4 rfl (lv_at hl 1 rfl) ?_
  refine q_iald E hC0 gwl rfl rfl (fun _ h => h) (i_in (a := a1) e1 (by omega) (by omega)) dX9_raisesOne_5 (fun v21 ev21 lv21 uv21 => ?_)
  have m22 : aI H0 wl a1 = v21.toInt := aI_of e1 ev21
  refine lv_iload_n hx hb dX9_raisesOne_6 rfl (lv_at hl 3 rfl) ?_
  refine q_icmp_lt hx hb (a := v21.toInt) (b := a3) rfl e3 (tgt := 17) dX9_raisesOne_7 rfl (fun c23 => ?_) (fun c23 => ?_)
  · refine lv_aload_n hx hb dX9_raisesOne_17 rfl (lv_at hl 0 rfl) ?_
    refine lv_iload_n hx hb dX9_raisesOne_18 rfl (lv_at hl 2 rfl) ?_
    refine q_goIp (q_runV (As := [.int p2]) (rest := []) E hC0 hS0 (m_X9_lawfulHands l X Γ H0 hC0 h0 g0 p2 (a1 := a2) e2 sn wl su lw ic kn hd us br ar fi yn (by omega) (by omega)) cw_X9_lawfulHands cl_RX9_142 g0 ⟨rfl, rfl⟩ rfl hl.1 rfl (Nat.zero_le _) (by decide) dX9_raisesOne_19) hS0 (fun v24 locs24 hr24 hS24 => ?_)
    obtain ⟨f24_0, f24_1, f24_2⟩ := hr24
    refine q_if_ne hx hb (a := v24.toInt) rfl (tgt := 32) dX9_raisesOne_22 rfl (fun c25 => ?_) (fun c25 => ?_)
    · refine lv_aload_n hx hb dX9_raisesOne_32 rfl (lv_at hl 0 rfl) ?_
      refine q_getS E hC0 g0 fa_RX9_34 yn.sn.1 dX9_raisesOne_33 (fun _ => ?_)
      refine lv_iload_n hx hb dX9_raisesOne_36 rfl (lv_at hl 1 rfl) ?_
      refine lv_dup2_11 hx hb dX9_raisesOne_37 rfl rfl ?_
      refine q_iald E hC0 gsn rfl rfl (fun _ h => h) (i_in (a := a1) e1 (by omega) (by omega)) dX9_raisesOne_38 (fun v26 ev26 lv26 uv26 => ?_)
      have m27 : aI H0 sn a1 = v26.toInt := aI_of e1 ev26
      refine lv_iconst (v := 1) hx hb dX9_raisesOne_39 rfl ?_
      refine lv_isub hx hb dX9_raisesOne_40 (lv_topi (fun v28 ev28 => ?_))
      have ev28i : v28.toInt = (v26.toInt - 1) := i_sub ev28 rfl (by decide) (by omega) (by omega)
      refine q_iast E hC0 hS24 gsn (by decide) rfl rfl (i_in (a := a1) e1 (by omega) (by omega)) (tv_I ev28i (by omega) (by omega)) dX9_raisesOne_41 (fun H29 locs29 hC29 hS29 U29 => ?_)
      have hKp29 := Kp.upA gsn rfl (by decide) rfl U29 hKp0
      have m30 : aI H29 sn a1 = (v26.toInt - 1) := aI_up U29 e1 ev28i
      have m32 : aI H29 wl a1 = aI H0 wl a1 := aI_ne U29 (nek gsn gwl (by decide))
      have m33 : aI H29 us a2 = aI H0 us a2 := aI_ne U29 (nek gsn gus (by decide))
      replace osn : OT H0 H29 sn a1 := osn.up U29 e1 (by omega)
      replace owl : OT H0 H29 wl a1 := owl.ne U29 (nek gsn gwl (by decide))
      replace ous : OT H0 H29 us a2 := ous.ne U29 (nek gsn gus (by decide))
      have m34 : (sI H29 h0 (X.1.2 8 0)).toInt = (sI H0 h0 (X.1.2 8 0)).toInt := congrArg Int32.toInt (up_nI U29 (ne_k g0 gsn (by decide)))
      have m35 : (sI H29 h0 (X.1.2 8 1)).toInt = (sI H0 h0 (X.1.2 8 1)).toInt := congrArg Int32.toInt (up_nI U29 (ne_k g0 gsn (by decide)))
      have m36 : (sI H29 h0 (X.1.2 8 2)).toInt = (sI H0 h0 (X.1.2 8 2)).toInt := congrArg Int32.toInt (up_nI U29 (ne_k g0 gsn (by decide)))
      refine lv_aload_n hx hb dX9_raisesOne_42 rfl (lv_at hl 0 rfl) ?_
      refine q_getS E hC29 g0 fa_RX9_37 (yn.kp g0 hKp29 rfl).wl.1 dX9_raisesOne_43 (fun _ => ?_)
      refine lv_iload_n hx hb dX9_raisesOne_46 rfl (lv_at hl 1 rfl) ?_
      refine lv_dup2_11 hx hb dX9_raisesOne_47 rfl rfl ?_
      refine q_iald E hC29 gwl rfl rfl (fun _ h => h) (i_in (a := a1) e1 (by omega) (by omega)) dX9_raisesOne_48 (fun v37 ev37 lv37 uv37 => ?_)
      have m38 : aI H29 wl a1 = v37.toInt := aI_of e1 ev37
      refine lv_iconst (v := 1) hx hb dX9_raisesOne_49 rfl ?_
      refine lv_iadd hx hb dX9_raisesOne_50 (lv_topi (fun v39 ev39 => ?_))
      have ev39i : v39.toInt = (v37.toInt + 1) := i_add ev39 rfl (by decide) (by omega) (by omega)
      refine q_iast E hC29 hS29 gwl (by decide) rfl rfl (i_in (a := a1) e1 (by omega) (by omega)) (tv_I ev39i (by omega) (by omega)) dX9_raisesOne_51 (fun H40 locs40 hC40 hS40 U40 => ?_)
      have hKp40 := Kp.upA gwl rfl (by decide) rfl U40 hKp29
      have m41 : aI H40 wl a1 = (v37.toInt + 1) := aI_up U40 e1 ev39i
      have m42 : aI H40 sn a1 = aI H29 sn a1 := aI_ne U40 (nek gwl gsn (by decide))
      have m44 : aI H40 us a2 = aI H29 us a2 := aI_ne U40 (nek gwl gus (by decide))
      replace osn : OT H0 H40 sn a1 := osn.ne U40 (nek gwl gsn (by decide))
      replace owl : OT H0 H40 wl a1 := owl.up U40 e1 (by omega)
      replace ous : OT H0 H40 us a2 := ous.ne U40 (nek gwl gus (by decide))
      have m45 : (sI H40 h0 (X.1.2 8 0)).toInt = (sI H29 h0 (X.1.2 8 0)).toInt := congrArg Int32.toInt (up_nI U40 (ne_k g0 gwl (by decide)))
      have m46 : (sI H40 h0 (X.1.2 8 1)).toInt = (sI H29 h0 (X.1.2 8 1)).toInt := congrArg Int32.toInt (up_nI U40 (ne_k g0 gwl (by decide)))
      have m47 : (sI H40 h0 (X.1.2 8 2)).toInt = (sI H29 h0 (X.1.2 8 2)).toInt := congrArg Int32.toInt (up_nI U40 (ne_k g0 gwl (by decide)))
      refine lv_aload_n hx hb dX9_raisesOne_52 rfl (lv_at hl 0 rfl) ?_
      refine q_getS E hC40 g0 fa_RX9_22 (yn.kp g0 hKp40 rfl).us.1 dX9_raisesOne_53 (fun _ => ?_)
      refine lv_iload_n hx hb dX9_raisesOne_56 rfl (lv_at hl 2 rfl) ?_
      refine lv_dup2_11 hx hb dX9_raisesOne_57 rfl rfl ?_
      refine q_iald E hC40 gus rfl rfl (fun _ h => h) (i_in (a := a2) e2 (by omega) (by omega)) dX9_raisesOne_58 (fun v48 ev48 lv48 uv48 => ?_)
      have m49 : aI H40 us a2 = v48.toInt := aI_of e2 ev48
      refine lv_iconst (v := 1) hx hb dX9_raisesOne_59 rfl ?_
      refine lv_iadd hx hb dX9_raisesOne_60 (lv_topi (fun v50 ev50 => ?_))
      have ev50i : v50.toInt = (v48.toInt + 1) := i_add ev50 rfl (by decide) (by omega) (by omega)
      refine q_iast E hC40 hS40 gus (by decide) rfl rfl (i_in (a := a2) e2 (by omega) (by omega)) (tv_I ev50i (by omega) (by omega)) dX9_raisesOne_61 (fun H51 locs51 hC51 hS51 U51 => ?_)
      have hKp51 := Kp.upA gus rfl (by decide) rfl U51 hKp40
      have m52 : aI H51 us a2 = (v48.toInt + 1) := aI_up U51 e2 ev50i
      have m53 : aI H51 sn a1 = aI H40 sn a1 := aI_ne U51 (nek gus gsn (by decide))
      have m54 : aI H51 wl a1 = aI H40 wl a1 := aI_ne U51 (nek gus gwl (by decide))
      replace osn : OT H0 H51 sn a1 := osn.ne U51 (nek gus gsn (by decide))
      replace owl : OT H0 H51 wl a1 := owl.ne U51 (nek gus gwl (by decide))
      replace ous : OT H0 H51 us a2 := ous.up U51 e2 (by omega)
      have m56 : (sI H51 h0 (X.1.2 8 0)).toInt = (sI H40 h0 (X.1.2 8 0)).toInt := congrArg Int32.toInt (up_nI U51 (ne_k g0 gus (by decide)))
      have m57 : (sI H51 h0 (X.1.2 8 1)).toInt = (sI H40 h0 (X.1.2 8 1)).toInt := congrArg Int32.toInt (up_nI U51 (ne_k g0 gus (by decide)))
      have m58 : (sI H51 h0 (X.1.2 8 2)).toInt = (sI H40 h0 (X.1.2 8 2)).toInt := congrArg Int32.toInt (up_nI U51 (ne_k g0 gus (by decide)))
      exact ret H51 locs51 _ _ dX9_raisesOne_62 ⟨hKp51, ⟨by omega, by omega, by omega, osn, owl, ous⟩⟩ hC51 hS51
    · (exfalso; omega)
  · (exfalso; omega)
set_option maxRecDepth 100000 in
set_option maxHeartbeats 4000000 in
theorem m_X9_raises (l : Launch) (X : xW) (Γ : Nat → Option Nat) (H0 : Heap) (hC0 : Conf X Γ H0) (h0 : Nat) (g0 : Γ h0 = some 5) (p1 : Int32) {a1 : Int} (e1 : p1.toInt = a1) (p2 : Int32) {a2 : Int} (e2 : p2.toInt = a2) (sn wl su lw ic kn hd us br ar fi : Nat) (yn : YN X Γ H0 h0 sn wl su lw ic kn hd us br ar fi) (hf9 : Int) (hfe : (a1 % 6 < (sI H0 h0 (X.1.2 8 0)).toInt / 2 ∧ hf9 = 0) ∨ ((sI H0 h0 (X.1.2 8 0)).toInt / 2 ≤ a1 % 6 ∧ hf9 = 1)) (r0 : 0 ≤ a1) (r1 : a1 ≤ 35) (r2 : a1 % 6 < (sI H0 h0 (X.1.2 8 0)).toInt) (r3 : a1 / 6 < (sI H0 h0 (X.1.2 8 1)).toInt) (r4 : 1 ≤ a2) (r5 : a2 ≤ 40) (r6 : a2 ≤ fit H0 sn wl lw ar (sI H0 h0 (X.1.2 8 0)).toInt a1) (r7 : a2 ≤ lwh H0 ar us hf9) : Ctr l X Γ yX9_raises cX9_raises 7 (some .int) 3 [.ref h0, .int p1, .int p2] H0 (QI X Γ (fun v H1 => Kp X Γ [3, 29, 31, 32, 33, 34, 37, 39, 40, 50, 51, 52, 53, 54, 57, 58, 59, 61, 63, 65, 67, 68, 69, 70, 71, 72] H0 H1 ∧ ((0 ≤ v.toInt) ∧ (v.toInt ≤ a2) ∧ ((v.toInt = a2 ∧ a2 ≤ hlf H0 hd us hf9) ∨ (v.toInt = hlf H0 hd us hf9 ∧ hlf H0 hd us hf9 ≤ a2)) ∧ (aI H1 sn a1 = aI H0 sn a1 - v.toInt) ∧ (aI H1 wl a1 = aI H0 wl a1 + v.toInt) ∧ (aI H1 us hf9 = aI H0 us hf9 + v.toInt) ∧ (OT H0 H1 sn a1) ∧ (OT H0 H1 wl a1) ∧ (OT H0 H1 us hf9)))) := by
  refine q_enterI (own := "SnowForts$Yard") (by decide) rfl (Nat.le_of_ble_eq_true rfl) ?_
  intro p e s m args below meth c ls Qz E hl ret hS0
  have hx := E.1; have hb := E.2.1
  have hKp0 : Kp X Γ [3, 29, 31, 32, 33, 34, 37, 39, 40, 50, 51, 52, 53, 54, 57, 58, 59, 61, 63, 65, 67, 68, 69, 70, 71, 72] H0 H0 := Kp.rf
  have hl : lv_has ls 7 [(0, .ref h0), (1, .int p1), (2, .int p2)] := hl
  have gsn := yn.sn.2; have gwl := yn.wl.2; have gsu := yn.su.2; have glw := yn.lw.2; have gic := yn.ic.2; have gkn := yn.kn.2; have ghd := yn.hd.2; have gus := yn.us.2; have gbr := yn.br.2; have gar := yn.ar.2; have gfi := yn.fi.2
  obtain ⟨hf1, hf2, hf3⟩ := fit_le r6 (by omega)
  have osn : OT H0 H0 sn a1 := OT.rf
  have owl : OT H0 H0 wl a1 := OT.rf
  have ous : OT H0 H0 us hf9 := OT.rf
  refine lv_aload_n hx hb dX9_raises_0 rfl (lv_at hl 0 rfl) ?_
  refine lv_iload_n hx hb dX9_raises_1 rfl (lv_at hl 1 rfl) ?_
  refine q_goIp (q_runV (As := [.int p1]) (rest := []) E hC0 hS0 (m_X9_holds l X Γ H0 hC0 h0 g0 p1 (a1 := a1) e1) cw_X9_holds cl_RX9_99 g0 ⟨rfl, rfl⟩ rfl hl.1 rfl (Nat.zero_le _) (by decide) dX9_raises_2) hS0 (fun v21 locs21 hr21 hS21 => ?_)
  rcases hr21 with ⟨rfl, f21a0, f21a1, f21a2, f21a3⟩ | ⟨rfl, f21b⟩
  · refine q_if_ne hx hb (a := 1) (by decide) (tgt := 10) dX9_raises_5 rfl (fun c22 => ?_) (fun c22 => absurd c22 (by omega))
    refine lv_aload_n hx hb dX9_raises_10 rfl (lv_at hl 0 rfl) ?_
    refine lv_iload_n hx hb dX9_raises_11 rfl (lv_at hl 1 rfl) ?_
    refine q_goIp (q_runV (As := [.int p1]) (rest := []) E hC0 hS21 (m_X9_halfOf l X Γ H0 hC0 h0 g0 p1 (a1 := a1) e1 (by omega) (by omega)) cw_X9_halfOf cl_RX9_102 g0 ⟨rfl, rfl⟩ rfl hl.1 rfl (Nat.zero_le _) (by decide) dX9_raises_12) hS21 (fun v23 locs23 hr23 hS23 => ?_)
    obtain ⟨f23_0, f23_1, f23_2⟩ := hr23
    refine lv_istore_n hx hb dX9_raises_15 rfl hl (by decide) rfl (fun ls hl => ?_)
    replace hl : lv_has ls 7 [(3, .int v23), (0, .ref h0), (1, .int p1), (2, .int p2)] := hl
    have hh9 : v23.toInt = hf9 := by omega
    refine lv_iload_n hx hb dX9_raises_16 rfl (lv_at hl 3 rfl) ?_
    refine lv_aload_n hx hb dX9_raises_17 rfl (lv_at hl 1 rfl) ?_
    refine lv_iload_n hx hb dX9_raises_18 rfl (lv_at hl 0 rfl) ?_
    refine q_goIp (q_runV (As := [.int v23]) (rest := [.int p2]) E hC0 hS23 (m_X9_handsLeft l X Γ H0 hC0 h0 g0 v23 (a1 := v23.toInt) rfl sn wl su lw ic kn hd us br ar fi yn (by omega) (by omega)) cw_X9_handsLeft cl_RX9_129 g0 ⟨rfl, rfl⟩ rfl hl.1 rfl (show _ ≤ _ from by simp [Value.category]) (by decide) dX9_raises_19) hS23 (fun v24 locs24 hr24 hS24 => ?_)
    obtain ⟨f24_0, f24_1, f24_2, f24_3, f24_4⟩ := hr24
    have hl9 : v24.toInt = hlf H0 hd us hf9 := by rw [← hh9]; exact f24_0
    have hl8 : aI H0 hd hf9 - aI H0 us hf9 ≤ v24.toInt ∧ (v24.toInt = 0 ∨ v24.toInt = aI H0 hd hf9 - aI H0 us hf9) := by rw [← hh9]; exact ⟨f24_3, f24_4⟩
    have hhb := el_bd hC0 ghd rfl rfl (fun _ => rfl) (z := hf9) (by omega) (by omega)
    have hub := el_bd hC0 gus rfl rfl (fun _ => rfl) (z := hf9) (by omega) (by omega)
    refine q_mmin E hl.1 w_526 mathw_min (a := a2) (b := v24.toInt) e2 rfl (by decide) (Nat.zero_le _) dX9_raises_22 (fun v25 mv25a mv25b mv25c => ?_)
    refine lv_aload_n hx hb dX9_raises_25 rfl (lv_at hl 1 rfl) ?_
    refine q_getS E hC0 g0 fa_RX9_34 yn.sn.1 dX9_raises_26 (fun _ => ?_)
    refine lv_iload_n hx hb dX9_raises_29 rfl (lv_at hl 2 rfl) ?_
    refine q_iald E hC0 gsn rfl rfl (fun _ h => h) (i_in (a := a1) e1 (by omega) (by omega)) dX9_raises_30 (fun v26 ev26 lv26 uv26 => ?_)
    have m27 : aI H0 sn a1 = v26.toInt := aI_of e1 ev26
    refine lv_bipush (v := 99) hx hb dX9_raises_31 rfl ?_
    refine lv_aload_n hx hb dX9_raises_33 rfl (lv_at hl 1 rfl) ?_
    refine q_getS E hC0 g0 fa_RX9_37 yn.wl.1 dX9_raises_34 (fun _ => ?_)
    refine lv_iload_n hx hb dX9_raises_37 rfl (lv_at hl 2 rfl) ?_
    refine q_iald E hC0 gwl rfl rfl (fun _ h => h) (i_in (a := a1) e1 (by omega) (by omega)) dX9_raises_38 (fun v28 ev28 lv28 uv28 => ?_)
    have m29 : aI H0 wl a1 = v28.toInt := aI_of e1 ev28
    refine lv_isub hx hb dX9_raises_39 (lv_topi (fun v30 ev30 => ?_))
    have ev30i : v30.toInt = (99 - v28.toInt) := i_sub ev30 (by decide) rfl (by omega) (by omega)
    refine q_mmin E hl.1 w_526 mathw_min (a := v26.toInt) (b := (99 - v28.toInt)) rfl ev30i (by decide) (show _ ≤ _ from by simp [Value.category]) dX9_raises_40 (fun v31 mv31a mv31b mv31c => ?_)
    refine q_mmin E hl.1 w_526 mathw_min (a := v25.toInt) (b := v31.toInt) rfl rfl (by decide) (Nat.zero_le _) dX9_raises_43 (fun v32 mv32a mv32b mv32c => ?_)
    refine lv_istore hx hb dX9_raises_46 hl (by decide) rfl (fun ls hl => ?_)
    replace hl : lv_has ls 7 [(4, .int v32), (3, .int v23), (0, .ref h0), (1, .int p1), (2, .int p2)] := hl
    refine lv_aload_n hx hb dX9_raises_48 rfl (lv_at hl 2 rfl) ?_
    refine lv_iload_n hx hb dX9_raises_49 rfl (lv_at hl 3 rfl) ?_
    refine q_goIp (q_runV (As := [.int p1]) (rest := []) E hC0 hS24 (m_X9_wallLimit l X Γ H0 hC0 h0 g0 p1 (a1 := a1) e1 sn wl su lw ic kn hd us br ar fi yn (by omega) (by omega)) cw_X9_wallLimit cl_RX9_132 g0 ⟨rfl, rfl⟩ rfl hl.1 rfl (Nat.zero_le _) (by decide) dX9_raises_50) hS24 (fun v33 locs33 hr33 hS33 => ?_)
    obtain ⟨f33_0, f33_1, f33_2⟩ := hr33
    refine lv_istore hx hb dX9_raises_53 hl (by decide) rfl (fun ls hl => ?_)
    replace hl : lv_has ls 7 [(5, .int v33), (4, .int v32), (3, .int v23), (0, .ref h0), (1, .int p1), (2, .int p2)] := hl
    refine lv_iconst (v := 0) hx hb dX9_raises_55 rfl ?_
    refine lv_istore hx hb dX9_raises_56 hl (by decide) rfl (fun ls hl => ?_)
    replace hl : lv_has ls 7 [(6, .int 0), (5, .int v33), (4, .int v32), (3, .int v23), (0, .ref h0), (1, .int p1), (2, .int p2)] := hl
    have L58 : ∀ (n35 : Nat) (H35 : Heap) (locs35 : List Loc) (v34 : Int32) (z34 : Int) (ls : Array Slot), (v32.toInt - z34).toNat < n35 → v34.toInt = z34 → 0 ≤ z34 → aI H35 sn a1 = aI H0 sn a1 - z34 → aI H35 wl a1 = aI H0 wl a1 + z34 → aI H35 us hf9 = aI H0 us hf9 + z34 → aI H35 ar 1 = aI H0 ar 1 → z34 ≤ v32.toInt → (sI H35 h0 (X.1.2 8 0)).toInt = (sI H0 h0 (X.1.2 8 0)).toInt → (sI H35 h0 (X.1.2 8 1)).toInt = (sI H0 h0 (X.1.2 8 1)).toInt → Conf X Γ H35 → va_S (AΓ Γ) H0 H35 locs35 → Kp X Γ [3, 29, 31, 32, 33, 34, 37, 39, 40, 50, 51, 52, 53, 54, 57, 58, 59, 61, 63, 65, 67, 68, 69, 70, 71, 72] H0 H35 → (OT H0 H35 sn a1) → (OT H0 H35 wl a1) → (OT H0 H35 us hf9) → lv_has ls 7 [(6, .int v34), (5, .int v33), (4, .int v32), (3, .int v23), (0, .ref h0), (1, .int p1), (2, .int p2)] → W p l e (rmL 3) s m args below meth c H35 locs35 0 0 Qz (F0 m 58 ls []) := by
      intro n35
      induction n35 with
      | zero => intro H35 locs35 v34 z34 ls hm35 ev34 iv35_0 iv35_1 iv35_2 iv35_3 iv35_4 iv35_5 iv35_6 iv35_7 hC35 hS35 hKp35 osn owl ous hl; exact absurd hm35 (Nat.not_lt_zero _)
      | succ n35 ih35 =>
        intro H35 locs35 v34 z34 ls hm35 ev34 iv35_0 iv35_1 iv35_2 iv35_3 iv35_4 iv35_5 iv35_6 iv35_7 hC35 hS35 hKp35 osn owl ous hl
        refine lv_iload hx hb dX9_raises_58 (lv_at hl 0 rfl) ?_
        refine lv_iload hx hb dX9_raises_60 (lv_at hl 2 rfl) ?_
        refine q_icmp_ge hx hb (a := z34) (b := v32.toInt) ev34 rfl (tgt := 79) dX9_raises_62 rfl (fun c36 => ?_) (fun c36 => ?_)
        · refine lv_iload hx hb dX9_raises_79 (lv_at hl 2 rfl) ?_
          refine q_if_le hx hb (a := v32.toInt) rfl (tgt := 91) dX9_raises_81 rfl (fun c37 => ?_) (fun c37 => ?_)
          · refine lv_iload hx hb dX9_raises_91 (lv_at hl 2 rfl) ?_
            have c38 : v32.toInt = v32.toInt := rfl
            exact ret v32 H35 locs35 _ _ dX9_raises_93 ⟨hKp35, ⟨by omega, by omega, by omega, by omega, by omega, by omega, osn, owl, ous⟩⟩ hC35 hS35
          · refine lv_aload_n hx hb dX9_raises_84 rfl (lv_at hl 4 rfl) ?_
            refine q_getS E hC35 g0 fa_RX9_49 (yn.kp g0 hKp35 rfl).kn.1 dX9_raises_85 (fun _ => ?_)
            refine lv_iload_n hx hb dX9_raises_88 rfl (lv_at hl 5 rfl) ?_
            refine lv_iconst (v := 0) hx hb dX9_raises_89 rfl ?_
            refine q_iast E hC35 hS35 gkn (by decide) rfl rfl (i_in (a := a1) e1 (by omega) (by omega)) tv_F dX9_raises_90 (fun H39 locs39 hC39 hS39 U39 => ?_)
            have hKp39 := Kp.upA gkn rfl (by decide) rfl U39 hKp35
            have m40 : aI H39 kn a1 = 0 := aI_up U39 e1 (show (0 : Int32).toInt = 0 from by decide)
            have m41 : aI H39 sn a1 = aI H35 sn a1 := aI_ne U39 (nek gkn gsn (by decide))
            have m42 : aI H39 wl a1 = aI H35 wl a1 := aI_ne U39 (nek gkn gwl (by decide))
            have m43 : aI H39 us hf9 = aI H35 us hf9 := aI_ne U39 (nek gkn gus (by decide))
            have m44 : aI H39 ar (1) = aI H35 ar (1) := aI_ne U39 (nek gkn gar (by decide))
            replace osn : OT H0 H39 sn a1 := osn.ne U39 (nek gkn gsn (by decide))
            replace owl : OT H0 H39 wl a1 := owl.ne U39 (nek gkn gwl (by decide))
            replace ous : OT H0 H39 us hf9 := ous.ne U39 (nek gkn gus (by decide))
            have m45 : (sI H39 h0 (X.1.2 8 0)).toInt = (sI H35 h0 (X.1.2 8 0)).toInt := congrArg Int32.toInt (up_nI U39 (ne_k g0 gkn (by decide)))
            have m46 : (sI H39 h0 (X.1.2 8 1)).toInt = (sI H35 h0 (X.1.2 8 1)).toInt := congrArg Int32.toInt (up_nI U39 (ne_k g0 gkn (by decide)))
            have m47 : (sI H39 h0 (X.1.2 8 2)).toInt = (sI H35 h0 (X.1.2 8 2)).toInt := congrArg Int32.toInt (up_nI U39 (ne_k g0 gkn (by decide)))
            refine lv_iload hx hb dX9_raises_91 (lv_at hl 2 rfl) ?_
            have c48 : v32.toInt = v32.toInt := rfl
            exact ret v32 H39 locs39 _ _ dX9_raises_93 ⟨hKp39, ⟨by omega, by omega, by omega, by omega, by omega, by omega, osn, owl, ous⟩⟩ hC39 hS39
        · refine lv_aload_n hx hb dX9_raises_65 rfl (lv_at hl 4 rfl) ?_
          refine lv_iload_n hx hb dX9_raises_66 rfl (lv_at hl 5 rfl) ?_
          refine lv_iload_n hx hb dX9_raises_67 rfl (lv_at hl 3 rfl) ?_
          refine lv_iload hx hb dX9_raises_68 (lv_at hl 1 rfl) ?_
          have hlw9 : 1 ≤ lwh H35 ar us v23.toInt := by rw [hh9]; exact lwh_i (i := z34) (u := a2) r7 (by omega) (by omega) (by omega) (by omega)
          have hus9 : aI H35 us v23.toInt ≤ 39 := by rw [hh9]; omega
          refine q_goV (q_runV (As := [.int p1, .int v23, .int v33]) (rest := []) E hC35 hS35 (m_X9_raisesOne l X Γ H35 hC35 h0 g0 p1 (a1 := a1) e1 v23 (a2 := v23.toInt) rfl v33 (a3 := v33.toInt) rfl sn wl su lw ic kn hd us br ar fi (yn.kp g0 hKp35 rfl) (by omega) (by omega) (by omega) (by omega) (by omega) (by omega) (by omega) (by omega) (by omega) hlw9) cw_X9_raisesOne cl_RX9_135 g0 ⟨rfl, rfl⟩ rfl hl.1 rfl (Nat.zero_le _) (by decide) dX9_raises_70) hS35 (fun H49 locs49 hr49 hC49 hS49 => ?_)
          obtain ⟨hp49, hr49⟩ := hr49
          have hKp49 := hKp35.tr (hp49.mono rfl)
          have m53 : aI H49 ar (1) = aI H35 ar (1) := aI_kp hp49 gar rfl rfl
          have m54 : (sI H49 h0 (X.1.2 8 0)).toInt = (sI H35 h0 (X.1.2 8 0)).toInt := congrArg Int32.toInt (kp_I hp49 g0 (k := 0) rfl (by decide) rfl)
          have m55 : (sI H49 h0 (X.1.2 8 1)).toInt = (sI H35 h0 (X.1.2 8 1)).toInt := congrArg Int32.toInt (kp_I hp49 g0 (k := 1) rfl (by decide) rfl)
          have m56 : (sI H49 h0 (X.1.2 8 2)).toInt = (sI H35 h0 (X.1.2 8 2)).toInt := congrArg Int32.toInt (kp_I hp49 g0 (k := 2) rfl (by decide) rfl)
          obtain ⟨f49_0, f49_1, f49_2, f49_3, f49_4, f49_5⟩ := hr49
          have q2 := f49_2
          rw [hh9] at q2
          have osn : OT H0 H49 sn a1 := osn.tr f49_3
          have owl : OT H0 H49 wl a1 := owl.tr f49_4
          have ous : OT H0 H49 us hf9 := ous.tr (hh9 ▸ f49_5)
          obtain ⟨v57, ev57⟩ : ∃ z, z = v34 + Int32.ofInt 1 := ⟨_, rfl⟩
          have ev57i : v57.toInt = (z34 + 1) := i_add ev57 ev34 (by decide) (by omega) (by omega)
          refine lv_iinc hx hb dX9_raises_73 hl (k := 0) rfl ev57.symm (by decide) rfl (fun ls hl => ?_)
          replace hl : lv_has ls 7 [(6, .int v57), (5, .int v33), (4, .int v32), (3, .int v23), (0, .ref h0), (1, .int p1), (2, .int p2)] := hl
          refine lv_goto (tgt := 58) hx hb dX9_raises_76 rfl ?_
          exact ih35 H49 locs49 v57 ((z34 + 1)) ls (ms_lt hm35 (by omega) (by omega)) ev57i (by omega) (by omega) (by omega) (by omega) (by omega) (by omega) (by omega) (by omega) hC49 hS49 hKp49 osn owl ous hl
    exact L58 _ H0 locs33 0 0 ls (Nat.lt_succ_self _) (by decide) (by omega) (by omega) (by omega) (by omega) (by omega) (by omega) (by omega) (by omega) hC0 hS33 hKp0 osn owl ous hl
  · refine q_if_ne hx hb (a := 0) (by decide) (tgt := 10) dX9_raises_5 rfl (fun c58 => absurd c58 (by omega)) (fun c58 => ?_)
    (exfalso; omega)
set_option maxRecDepth 100000 in
set_option maxHeartbeats 4000000 in
theorem m_X11_build (l : Launch) (X : xW) (Γ : Nat → Option Nat) (H0 : Heap) (hC0 : Conf X Γ H0) (h0 : Nat) (g0 : Γ h0 = some 0) (p1 : Int32) {a1 : Int} (e1 : p1.toInt = a1) (p2 : Int32) {a2 : Int} (e2 : p2.toInt = a2) (p3 : Int32) {a3 : Int} (e3 : p3.toInt = a3) (yd : Nat) (hyd : sR H0 h0 (X.1.2 10 5) = some yd) (gyd : Γ yd = some 5) (sn wl su lw ic kn hd us br ar fi : Nat) (yn : YN X Γ H0 yd sn wl su lw ic kn hd us br ar fi) (hf9 : Int) (hfe : (a1 < (sI H0 yd (X.1.2 8 0)).toInt / 2 ∧ hf9 = 0) ∨ ((sI H0 yd (X.1.2 8 0)).toInt / 2 ≤ a1 ∧ hf9 = 1)) (hfo : hf9 < (sI H0 yd (X.1.2 8 2)).toInt) (r0 : 0 ≤ a1) (r1 : a1 ≤ 5) (r2 : a1 < (sI H0 yd (X.1.2 8 0)).toInt) (r3 : 0 ≤ a2) (r4 : a2 ≤ 5) (r5 : a2 < (sI H0 yd (X.1.2 8 1)).toInt) (r6 : 1 ≤ a3) (r7 : a3 ≤ 40) (r8 : a3 ≤ fit H0 sn wl lw ar (sI H0 yd (X.1.2 8 0)).toInt (a2 * 6 + a1)) (r9 : a3 ≤ lwh H0 ar us hf9) : Ctr l X Γ yX11_build cX11_build 5 (some .int) 4 [.ref h0, .int p1, .int p2, .int p3] H0 (QI X Γ (fun v H1 => Kp X Γ [3, 29, 31, 32, 33, 34, 37, 39, 40, 50, 51, 52, 53, 54, 57, 58, 59, 61, 63, 65, 67, 68, 69, 70, 71] H0 H1 ∧ (((max 0 v.toInt = a3 ∧ a3 ≤ hlf H0 hd us hf9) ∨ (max 0 v.toInt = hlf H0 hd us hf9 ∧ hlf H0 hd us hf9 ≤ a3)) ∧ (aI H1 sn (a2 * 6 + a1) = aI H0 sn (a2 * 6 + a1) - max 0 v.toInt) ∧ (aI H1 wl (a2 * 6 + a1) = aI H0 wl (a2 * 6 + a1) + max 0 v.toInt) ∧ (aI H1 us hf9 = aI H0 us hf9 + max 0 v.toInt) ∧ (OT H0 H1 sn (a2 * 6 + a1)) ∧ (OT H0 H1 wl (a2 * 6 + a1)) ∧ (OT H0 H1 us hf9)))) := by
  refine q_enterI (own := "SnowForts") (by decide) rfl (Nat.le_of_ble_eq_true rfl) ?_
  intro p e s m args below meth c ls Qz E hl ret hS0
  have hx := E.1; have hb := E.2.1
  have hKp0 : Kp X Γ [3, 29, 31, 32, 33, 34, 37, 39, 40, 50, 51, 52, 53, 54, 57, 58, 59, 61, 63, 65, 67, 68, 69, 70, 71] H0 H0 := Kp.rf
  have hl : lv_has ls 5 [(0, .ref h0), (1, .int p1), (2, .int p2), (3, .int p3)] := hl
  have gsn := yn.sn.2; have gwl := yn.wl.2; have gsu := yn.su.2; have glw := yn.lw.2; have gic := yn.ic.2; have gkn := yn.kn.2; have ghd := yn.hd.2; have gus := yn.us.2; have gbr := yn.br.2; have gar := yn.ar.2; have gfi := yn.fi.2
  refine lv_aload_n hx hb dX11_build_0 rfl (lv_at hl 0 rfl) ?_
  refine q_getS E hC0 g0 fa_RX11_42 hyd dX11_build_1 (fun _ => ?_)
  refine lv_iload_n hx hb dX11_build_4 rfl (lv_at hl 1 rfl) ?_
  refine lv_iload_n hx hb dX11_build_5 rfl (lv_at hl 2 rfl) ?_
  refine q_goIp (q_runV (As := [.int p1, .int p2]) (rest := []) E hC0 hS0 (m_X9_isOwned l X Γ H0 hC0 yd gyd p1 (a1 := a1) e1 p2 (a2 := a2) e2) cw_X9_isOwned cl_RX11_238 gyd ⟨rfl, rfl⟩ rfl hl.1 rfl (Nat.zero_le _) (by decide) dX11_build_6) hS0 (fun v21 locs21 hr21 hS21 => ?_)
  rcases hr21 with ⟨rfl, f21a0, f21a1, f21a2, f21a3, f21a4, f21a5, f21a6⟩ | ⟨rfl, f21b⟩
  · refine q_if_ne hx hb (a := 1) (by decide) (tgt := 18) dX11_build_9 rfl (fun c22 => ?_) (fun c22 => absurd c22 (by omega))
    refine lv_iload_n hx hb dX11_build_18 rfl (lv_at hl 3 rfl) ?_
    refine lv_i2l (v := p3.toInt64) hx hb dX11_build_19 rfl (lv_topl (fun v23 ev23 => ?_))
    have ev23i : v23.toInt = a3 := l_ofi ev23.symm e3
    refine lv_iconst (v := 1) hx hb dX11_build_20 rfl ?_
    refine lv_bipush (v := 40) hx hb dX11_build_21 rfl ?_
    refine q_goIp (q_runS (As := [.long v23, .int 1, .int 40]) (rest := []) E hS21 (m_X11_isWithin l X Γ H0 hC0 v23 (a0 := a3) ev23i 1 (a1 := 1) (by decide) 40 (a2 := 40) (by decide)) cw_X11_isWithin cl_RX11_113 rfl hl.1 rfl (Nat.zero_le _) (by decide) dX11_build_23) hS21 (fun v24 locs24 hr24 hS24 => ?_)
    rcases hr24 with ⟨rfl, f24a0, f24a1⟩ | ⟨rfl, f24b⟩
    · refine q_if_ne hx hb (a := 1) (by decide) (tgt := 35) dX11_build_26 rfl (fun c25 => ?_) (fun c25 => absurd c25 (by omega))
      refine lv_aload_n hx hb dX11_build_35 rfl (lv_at hl 0 rfl) ?_
      refine q_getS E hC0 g0 fa_RX11_42 hyd dX11_build_36 (fun _ => ?_)
      refine lv_iload_n hx hb dX11_build_39 rfl (lv_at hl 2 rfl) ?_
      refine lv_bipush (v := 6) hx hb dX11_build_40 rfl ?_
      refine lv_imul hx hb dX11_build_42 (lv_topi (fun v26 ev26 => ?_))
      have ev26i : v26.toInt = (a2 * 6) := i_mul ev26 e2 (by decide) (by omega) (by omega)
      refine lv_iload_n hx hb dX11_build_43 rfl (lv_at hl 1 rfl) ?_
      refine lv_iadd hx hb dX11_build_44 (lv_topi (fun v27 ev27 => ?_))
      have ev27i : v27.toInt = ((a2 * 6) + a1) := i_add ev27 ev26i e1 (by omega) (by omega)
      refine lv_iload_n hx hb dX11_build_45 rfl (lv_at hl 3 rfl) ?_
      refine q_goI (q_runV (As := [.int v27, .int p3]) (rest := []) E hC0 hS24 (m_X9_raises l X Γ H0 hC0 yd gyd v27 (a1 := ((a2 * 6) + a1)) ev27i p3 (a2 := a3) e3 sn wl su lw ic kn hd us br ar fi yn hf9 (by omega) (by omega) (by omega) (by omega) (by omega) (by omega) (by omega) (by omega) (by omega)) cw_X9_raises cl_RX11_241 gyd ⟨rfl, rfl⟩ rfl hl.1 rfl (Nat.zero_le _) (by decide) dX11_build_46) hS24 (fun v28 H28 locs28 hr28 hC28 hS28 => ?_)
      obtain ⟨hp28, hr28⟩ := hr28
      have hKp28 := hKp0.tr (hp28.mono rfl)
      have m32 : (sI H28 yd (X.1.2 8 0)).toInt = (sI H0 yd (X.1.2 8 0)).toInt := congrArg Int32.toInt (kp_I hp28 gyd (ci := 8) (k := 0) rfl (by decide) rfl)
      have m33 : (sI H28 yd (X.1.2 8 1)).toInt = (sI H0 yd (X.1.2 8 1)).toInt := congrArg Int32.toInt (kp_I hp28 gyd (ci := 8) (k := 1) rfl (by decide) rfl)
      have m34 : (sI H28 yd (X.1.2 8 2)).toInt = (sI H0 yd (X.1.2 8 2)).toInt := congrArg Int32.toInt (kp_I hp28 gyd (ci := 8) (k := 2) rfl (by decide) rfl)
      obtain ⟨f28_0, f28_1, f28_2, f28_3, f28_4, f28_5, f28_6, f28_7, f28_8⟩ := hr28
      have osn : OT H0 H28 sn (a2 * 6 + a1) := f28_6
      have owl : OT H0 H28 wl (a2 * 6 + a1) := f28_7
      have ous : OT H0 H28 us hf9 := f28_8
      refine lv_istore hx hb dX11_build_49 hl (by decide) rfl (fun ls hl => ?_)
      replace hl : lv_has ls 5 [(4, .int v28), (0, .ref h0), (1, .int p1), (2, .int p2), (3, .int p3)] := hl
      refine lv_iload hx hb dX11_build_51 (lv_at hl 0 rfl) ?_
      refine q_if_ne hx hb (a := v28.toInt) rfl (tgt := 65) dX11_build_53 rfl (fun c35 => ?_) (fun c35 => ?_)
      · refine lv_aload_n hx hb dX11_build_65 rfl (lv_at hl 1 rfl) ?_
        refine lv_iload hx hb dX11_build_66 (lv_at hl 0 rfl) ?_
        refine q_goI (q_runV (As := [.int v28]) (rest := []) E hC28 hS28 (m_X11_answer l X Γ H28 hC28 h0 g0 v28 (a1 := v28.toInt) rfl) cw_X11_answer cl_RX11_191 g0 ⟨rfl, rfl⟩ rfl hl.1 rfl (Nat.zero_le _) (by decide) dX11_build_68) hS28 (fun v36 H36 locs36 hr36 hC36 hS36 => ?_)
        obtain ⟨hp36, hr36⟩ := hr36
        have hKp36 := hKp28.tr (hp36.mono rfl)
        have m37 : aI H36 sn ((a2 * 6 + a1)) = aI H28 sn ((a2 * 6 + a1)) := aI_kp hp36 gsn rfl rfl
        have m38 : aI H36 wl ((a2 * 6 + a1)) = aI H28 wl ((a2 * 6 + a1)) := aI_kp hp36 gwl rfl rfl
        have m39 : aI H36 us hf9 = aI H28 us hf9 := aI_kp hp36 gus rfl rfl
        have m40 : (sI H36 yd (X.1.2 8 0)).toInt = (sI H28 yd (X.1.2 8 0)).toInt := congrArg Int32.toInt (kp_I hp36 gyd (ci := 8) (k := 0) rfl (by decide) rfl)
        have m41 : (sI H36 yd (X.1.2 8 1)).toInt = (sI H28 yd (X.1.2 8 1)).toInt := congrArg Int32.toInt (kp_I hp36 gyd (ci := 8) (k := 1) rfl (by decide) rfl)
        have m42 : (sI H36 yd (X.1.2 8 2)).toInt = (sI H28 yd (X.1.2 8 2)).toInt := congrArg Int32.toInt (kp_I hp36 gyd (ci := 8) (k := 2) rfl (by decide) rfl)
        replace osn : OT H0 H36 sn (a2 * 6 + a1) := osn.kp hp36 gsn rfl rfl
        replace owl : OT H0 H36 wl (a2 * 6 + a1) := owl.kp hp36 gwl rfl rfl
        replace ous : OT H0 H36 us hf9 := ous.kp hp36 gus rfl rfl
        obtain ⟨f36_0, f36_1⟩ := hr36
        have c43 : v36.toInt = v36.toInt := rfl
        exact ret v36 H36 locs36 _ _ dX11_build_71 ⟨hKp36, ⟨by omega, by omega, by omega, by omega, osn, owl, ous⟩⟩ hC36 hS36
      · refine lv_aload_n hx hb dX11_build_56 rfl (lv_at hl 1 rfl) ?_
        refine lv_bipush (v := 9) hx hb dX11_build_57 rfl ?_
        refine q_goI (q_runV (As := [.int 9]) (rest := []) E hC28 hS28 (m_X11_refuse l X Γ H28 hC28 h0 g0 9 (a1 := 9) (by decide)) cw_X11_refuse cl_RX11_146 g0 ⟨rfl, rfl⟩ rfl hl.1 rfl (Nat.zero_le _) (by decide) dX11_build_59) hS28 (fun v44 H44 locs44 hr44 hC44 hS44 => ?_)
        obtain ⟨hp44, hr44⟩ := hr44
        have hKp44 := hKp28.tr (hp44.mono rfl)
        have m45 : aI H44 sn ((a2 * 6 + a1)) = aI H28 sn ((a2 * 6 + a1)) := aI_kp hp44 gsn rfl rfl
        have m46 : aI H44 wl ((a2 * 6 + a1)) = aI H28 wl ((a2 * 6 + a1)) := aI_kp hp44 gwl rfl rfl
        have m47 : aI H44 us hf9 = aI H28 us hf9 := aI_kp hp44 gus rfl rfl
        have m48 : (sI H44 yd (X.1.2 8 0)).toInt = (sI H28 yd (X.1.2 8 0)).toInt := congrArg Int32.toInt (kp_I hp44 gyd (ci := 8) (k := 0) rfl (by decide) rfl)
        have m49 : (sI H44 yd (X.1.2 8 1)).toInt = (sI H28 yd (X.1.2 8 1)).toInt := congrArg Int32.toInt (kp_I hp44 gyd (ci := 8) (k := 1) rfl (by decide) rfl)
        have m50 : (sI H44 yd (X.1.2 8 2)).toInt = (sI H28 yd (X.1.2 8 2)).toInt := congrArg Int32.toInt (kp_I hp44 gyd (ci := 8) (k := 2) rfl (by decide) rfl)
        replace osn : OT H0 H44 sn (a2 * 6 + a1) := osn.kp hp44 gsn rfl rfl
        replace owl : OT H0 H44 wl (a2 * 6 + a1) := owl.kp hp44 gwl rfl rfl
        replace ous : OT H0 H44 us hf9 := ous.kp hp44 gus rfl rfl
        have f44_0 := hr44
        refine lv_goto (tgt := 71) hx hb dX11_build_62 rfl ?_
        have c51 : v44.toInt = v44.toInt := rfl
        exact ret v44 H44 locs44 _ _ dX11_build_71 ⟨hKp44, ⟨by omega, by omega, by omega, by omega, osn, owl, ous⟩⟩ hC44 hS44
    · refine q_if_ne hx hb (a := 0) (by decide) (tgt := 35) dX11_build_26 rfl (fun c52 => absurd c52 (by omega)) (fun c52 => ?_)
      (exfalso; omega)
  · refine q_if_ne hx hb (a := 0) (by decide) (tgt := 18) dX11_build_9 rfl (fun c53 => absurd c53 (by omega)) (fun c53 => ?_)
    (exfalso; omega)
set_option maxRecDepth 100000 in
set_option maxHeartbeats 4000000 in
theorem m_X11_deny (l : Launch) (X : xW) (Γ : Nat → Option Nat) (H0 : Heap) (hC0 : Conf X Γ H0) (h0 : Nat) (g0 : Γ h0 = some 0) (p1 : Int32) {a1 : Int} (e1 : p1.toInt = a1) : Ctr l X Γ yX11_deny cX11_deny 2 (some .boolean) 0 [.ref h0, .int p1] H0 (QI X Γ (fun v H1 => Kp X Γ [3, 29, 31, 32, 33, 34, 37, 39, 40, 50, 51, 52, 53, 54, 55, 56, 57, 58, 59, 60, 61, 62, 63, 65, 67, 68, 69, 70, 71] H0 H1 ∧ ((v = 1 ∧ ((0 : Int) = 1)) ∨ (v = 0 ∧ (True))))) := by
  refine q_enterZ (own := "SnowForts") (by decide) rfl (Nat.le_of_ble_eq_true rfl) ?_
  intro p e s m args below meth c ls Qz E hl ret hS0
  have hx := E.1; have hb := E.2.1
  have hKp0 : Kp X Γ [3, 29, 31, 32, 33, 34, 37, 39, 40, 50, 51, 52, 53, 54, 55, 56, 57, 58, 59, 60, 61, 62, 63, 65, 67, 68, 69, 70, 71] H0 H0 := Kp.rf
  have hl : lv_has ls 2 [(0, .ref h0), (1, .int p1)] := hl
  refine lv_aload_n hx hb dX11_deny_0 rfl (lv_at hl 0 rfl) ?_
  refine lv_iload_n hx hb dX11_deny_1 rfl (lv_at hl 1 rfl) ?_
  refine q_put E hC0 hS0 g0 fp_RX11_102 tv_F rfl rfl dX11_deny_2 (fun H21 locs21 hC21 hS21 U21 => ?_)
  have hKp21 := Kp.upO E g0 fp_RX11_102 rfl U21 hKp0
  have e22 := up_I U21
  refine lv_iconst (v := 0) hx hb dX11_deny_5 rfl ?_
  exact ret 0 H21 locs21 _ _ dX11_deny_6 (Or.inl rfl) ⟨hKp21, Or.inr ⟨rfl, trivial⟩⟩ hC21 hS21
set_option maxRecDepth 100000 in
set_option maxHeartbeats 4000000 in
theorem m_X9_freezes (l : Launch) (X : xW) (Γ : Nat → Option Nat) (H0 : Heap) (hC0 : Conf X Γ H0) (h0 : Nat) (g0 : Γ h0 = some 5) (p1 : Int32) {a1 : Int} (e1 : p1.toInt = a1) (sn wl su lw ic kn hd us br ar fi : Nat) (yn : YN X Γ H0 h0 sn wl su lw ic kn hd us br ar fi) (hf9 : Int) (hfe : (a1 % 6 < (sI H0 h0 (X.1.2 8 0)).toInt / 2 ∧ hf9 = 0) ∨ ((sI H0 h0 (X.1.2 8 0)).toInt / 2 ≤ a1 % 6 ∧ hf9 = 1)) (r0 : 0 ≤ a1) (r1 : a1 ≤ 35) (r2 : a1 % 6 < (sI H0 h0 (X.1.2 8 0)).toInt) (r3 : a1 / 6 < (sI H0 h0 (X.1.2 8 1)).toInt) (r4 : aI H0 us hf9 ≤ aI H0 hd hf9) : Ctr l X Γ yX9_freezes cX9_freezes 4 (some .boolean) 2 [.ref h0, .int p1] H0 (QI X Γ (fun v H1 => Kp X Γ [3, 29, 31, 32, 33, 34, 37, 39, 40, 50, 51, 52, 53, 54, 55, 56, 57, 58, 61, 67, 68, 69, 70, 71, 72] H0 H1 ∧ ((v = 1 ∧ (aI H1 ic a1 = 1 ∧ OT H0 H1 ic a1 ∧ aI H1 us hf9 ≤ aI H1 hd hf9 ∧ OT H0 H1 us hf9 ∧ OT H0 H1 br hf9)) ∨ (v = 0 ∧ (H1 = H0))))) := by
  refine q_enterZ (own := "SnowForts$Yard") (by decide) rfl (Nat.le_of_ble_eq_true rfl) ?_
  intro p e s m args below meth c ls Qz E hl ret hS0
  have hx := E.1; have hb := E.2.1
  have hKp0 : Kp X Γ [3, 29, 31, 32, 33, 34, 37, 39, 40, 50, 51, 52, 53, 54, 55, 56, 57, 58, 61, 67, 68, 69, 70, 71, 72] H0 H0 := Kp.rf
  have hl : lv_has ls 4 [(0, .ref h0), (1, .int p1)] := hl
  have gsn := yn.sn.2; have gwl := yn.wl.2; have gsu := yn.su.2; have glw := yn.lw.2; have gic := yn.ic.2; have gkn := yn.kn.2; have ghd := yn.hd.2; have gus := yn.us.2; have gbr := yn.br.2; have gar := yn.ar.2; have gfi := yn.fi.2
  have oic : OT H0 H0 ic a1 := OT.rf
  have ous : OT H0 H0 us hf9 := OT.rf
  have obr : OT H0 H0 br hf9 := OT.rf
  refine lv_aload_n hx hb dX9_freezes_0 rfl (lv_at hl 0 rfl) ?_
  refine lv_iload_n hx hb dX9_freezes_1 rfl (lv_at hl 1 rfl) ?_
  refine q_goIp (q_runV (As := [.int p1]) (rest := []) E hC0 hS0 (m_X9_holds l X Γ H0 hC0 h0 g0 p1 (a1 := a1) e1) cw_X9_holds cl_RX9_99 g0 ⟨rfl, rfl⟩ rfl hl.1 rfl (Nat.zero_le _) (by decide) dX9_freezes_2) hS0 (fun v21 locs21 hr21 hS21 => ?_)
  rcases hr21 with ⟨rfl, f21a0, f21a1, f21a2, f21a3⟩ | ⟨rfl, f21b⟩
  · refine q_if_ne hx hb (a := 1) (by decide) (tgt := 10) dX9_freezes_5 rfl (fun c22 => ?_) (fun c22 => absurd c22 (by omega))
    refine lv_aload_n hx hb dX9_freezes_10 rfl (lv_at hl 0 rfl) ?_
    refine lv_iload_n hx hb dX9_freezes_11 rfl (lv_at hl 1 rfl) ?_
    refine q_goIp (q_runV (As := [.int p1]) (rest := []) E hC0 hS21 (m_X9_halfOf l X Γ H0 hC0 h0 g0 p1 (a1 := a1) e1 (by omega) (by omega)) cw_X9_halfOf cl_RX9_102 g0 ⟨rfl, rfl⟩ rfl hl.1 rfl (Nat.zero_le _) (by decide) dX9_freezes_12) hS21 (fun v23 locs23 hr23 hS23 => ?_)
    obtain ⟨f23_0, f23_1, f23_2⟩ := hr23
    refine lv_istore_n hx hb dX9_freezes_15 rfl hl (by decide) rfl (fun ls hl => ?_)
    replace hl : lv_has ls 4 [(2, .int v23), (0, .ref h0), (1, .int p1)] := hl
    have hh9 : v23.toInt = hf9 := by omega
    refine lv_aload_n hx hb dX9_freezes_16 rfl (lv_at hl 1 rfl) ?_
    refine q_getS E hC0 g0 fa_RX9_37 yn.wl.1 dX9_freezes_17 (fun _ => ?_)
    refine lv_iload_n hx hb dX9_freezes_20 rfl (lv_at hl 2 rfl) ?_
    refine q_iald E hC0 gwl rfl rfl (fun _ h => h) (i_in (a := a1) e1 (by omega) (by omega)) dX9_freezes_21 (fun v24 ev24 lv24 uv24 => ?_)
    have m25 : aI H0 wl a1 = v24.toInt := aI_of e1 ev24
    refine lv_iconst (v := 1) hx hb dX9_freezes_22 rfl ?_
    refine q_icmp_lt hx hb (a := v24.toInt) (b := 1) rfl (by decide) (tgt := 45) dX9_freezes_23 rfl (fun c26 => ?_) (fun c26 => ?_)
    · refine lv_iconst (v := 0) hx hb dX9_freezes_45 rfl ?_
      exact ret 0 H0 locs23 _ _ dX9_freezes_46 (Or.inl rfl) ⟨hKp0, Or.inr ⟨rfl, rfl⟩⟩ hC0 hS23
    · refine lv_aload_n hx hb dX9_freezes_26 rfl (lv_at hl 1 rfl) ?_
      refine q_getS E hC0 g0 fa_RX9_46 yn.ic.1 dX9_freezes_27 (fun _ => ?_)
      refine lv_iload_n hx hb dX9_freezes_30 rfl (lv_at hl 2 rfl) ?_
      refine q_iald E hC0 gic rfl rfl (fun _ h => h) (i_in (a := a1) e1 (by omega) (by omega)) dX9_freezes_31 (fun v27 ev27 lv27 uv27 => ?_)
      have m28 : aI H0 ic a1 = v27.toInt := aI_of e1 ev27
      refine lv_iconst (v := 1) hx hb dX9_freezes_32 rfl ?_
      refine q_icmp_eq hx hb (a := v27.toInt) (b := 1) rfl (by decide) (tgt := 45) dX9_freezes_33 rfl (fun c29 => ?_) (fun c29 => ?_)
      · refine lv_iconst (v := 0) hx hb dX9_freezes_45 rfl ?_
        exact ret 0 H0 locs23 _ _ dX9_freezes_46 (Or.inl rfl) ⟨hKp0, Or.inr ⟨rfl, rfl⟩⟩ hC0 hS23
      · refine lv_aload_n hx hb dX9_freezes_36 rfl (lv_at hl 1 rfl) ?_
        refine lv_iload_n hx hb dX9_freezes_37 rfl (lv_at hl 0 rfl) ?_
        refine q_goIp (q_runV (As := [.int v23]) (rest := []) E hC0 hS23 (m_X9_handsLeft l X Γ H0 hC0 h0 g0 v23 (a1 := hf9) hh9 sn wl su lw ic kn hd us br ar fi yn (by omega) (by omega)) cw_X9_handsLeft cl_RX9_129 g0 ⟨rfl, rfl⟩ rfl hl.1 rfl (Nat.zero_le _) (by decide) dX9_freezes_38) hS23 (fun v30 locs30 hr30 hS30 => ?_)
        obtain ⟨f30_0, f30_1, f30_2, f30_3, f30_4⟩ := hr30
        have hhb := el_bd hC0 ghd rfl rfl (fun _ => rfl) (z := hf9) (by omega) (by omega)
        have hl8 : v30.toInt = 0 ∨ v30.toInt = aI H0 hd hf9 - aI H0 us hf9 := f30_4
        refine lv_iconst (v := 2) hx hb dX9_freezes_41 rfl ?_
        refine q_icmp_ge hx hb (a := v30.toInt) (b := 2) rfl (by decide) (tgt := 47) dX9_freezes_42 rfl (fun c31 => ?_) (fun c31 => ?_)
        · refine lv_aload_n hx hb dX9_freezes_47 rfl (lv_at hl 1 rfl) ?_
          refine q_getS E hC0 g0 fa_RX9_46 yn.ic.1 dX9_freezes_48 (fun _ => ?_)
          refine lv_iload_n hx hb dX9_freezes_51 rfl (lv_at hl 2 rfl) ?_
          refine lv_iconst (v := 1) hx hb dX9_freezes_52 rfl ?_
          refine q_iast E hC0 hS30 gic (by decide) rfl rfl (i_in (a := a1) e1 (by omega) (by omega)) (tv_I (show (1 : Int32).toInt = 1 from by decide) (by omega) (by omega)) dX9_freezes_53 (fun H32 locs32 hC32 hS32 U32 => ?_)
          have hKp32 := Kp.upA gic rfl (by decide) rfl U32 hKp0
          have m33 : aI H32 ic a1 = 1 := aI_up U32 e1 (show (1 : Int32).toInt = 1 from by decide)
          have m35 : aI H32 us hf9 = aI H0 us hf9 := aI_ne U32 (nek gic gus (by decide))
          have m36 : aI H32 hd hf9 = aI H0 hd hf9 := aI_ne U32 (nek gic ghd (by decide))
          replace oic : OT H0 H32 ic a1 := oic.up U32 e1 (by omega)
          replace ous : OT H0 H32 us hf9 := ous.ne U32 (nek gic gus (by decide))
          replace obr : OT H0 H32 br hf9 := obr.ne U32 (nek gic gbr (by decide))
          have m37 : (sI H32 h0 (X.1.2 8 0)).toInt = (sI H0 h0 (X.1.2 8 0)).toInt := congrArg Int32.toInt (up_nI U32 (ne_k g0 gic (by decide)))
          have m38 : (sI H32 h0 (X.1.2 8 1)).toInt = (sI H0 h0 (X.1.2 8 1)).toInt := congrArg Int32.toInt (up_nI U32 (ne_k g0 gic (by decide)))
          have m39 : (sI H32 h0 (X.1.2 8 2)).toInt = (sI H0 h0 (X.1.2 8 2)).toInt := congrArg Int32.toInt (up_nI U32 (ne_k g0 gic (by decide)))
          refine lv_aload_n hx hb dX9_freezes_54 rfl (lv_at hl 1 rfl) ?_
          refine q_getS E hC32 g0 fa_RX9_49 (yn.kp g0 hKp32 rfl).kn.1 dX9_freezes_55 (fun _ => ?_)
          refine lv_iload_n hx hb dX9_freezes_58 rfl (lv_at hl 2 rfl) ?_
          refine lv_iconst (v := 0) hx hb dX9_freezes_59 rfl ?_
          refine q_iast E hC32 hS32 gkn (by decide) rfl rfl (i_in (a := a1) e1 (by omega) (by omega)) tv_F dX9_freezes_60 (fun H40 locs40 hC40 hS40 U40 => ?_)
          have hKp40 := Kp.upA gkn rfl (by decide) rfl U40 hKp32
          have m41 : aI H40 kn a1 = 0 := aI_up U40 e1 (show (0 : Int32).toInt = 0 from by decide)
          have m42 : aI H40 ic a1 = aI H32 ic a1 := aI_ne U40 (nek gkn gic (by decide))
          have m43 : aI H40 us hf9 = aI H32 us hf9 := aI_ne U40 (nek gkn gus (by decide))
          have m44 : aI H40 hd hf9 = aI H32 hd hf9 := aI_ne U40 (nek gkn ghd (by decide))
          replace oic : OT H0 H40 ic a1 := oic.ne U40 (nek gkn gic (by decide))
          replace ous : OT H0 H40 us hf9 := ous.ne U40 (nek gkn gus (by decide))
          replace obr : OT H0 H40 br hf9 := obr.ne U40 (nek gkn gbr (by decide))
          have m45 : (sI H40 h0 (X.1.2 8 0)).toInt = (sI H32 h0 (X.1.2 8 0)).toInt := congrArg Int32.toInt (up_nI U40 (ne_k g0 gkn (by decide)))
          have m46 : (sI H40 h0 (X.1.2 8 1)).toInt = (sI H32 h0 (X.1.2 8 1)).toInt := congrArg Int32.toInt (up_nI U40 (ne_k g0 gkn (by decide)))
          have m47 : (sI H40 h0 (X.1.2 8 2)).toInt = (sI H32 h0 (X.1.2 8 2)).toInt := congrArg Int32.toInt (up_nI U40 (ne_k g0 gkn (by decide)))
          refine lv_aload_n hx hb dX9_freezes_61 rfl (lv_at hl 1 rfl) ?_
          refine q_getS E hC40 g0 fa_RX9_22 (yn.kp g0 hKp40 rfl).us.1 dX9_freezes_62 (fun _ => ?_)
          refine lv_iload_n hx hb dX9_freezes_65 rfl (lv_at hl 0 rfl) ?_
          refine lv_dup2_11 hx hb dX9_freezes_66 rfl rfl ?_
          refine q_iald E hC40 gus rfl rfl (fun _ h => h) (i_in (a := hf9) hh9 (by omega) (by omega)) dX9_freezes_67 (fun v48 ev48 lv48 uv48 => ?_)
          have m49 : aI H40 us hf9 = v48.toInt := aI_of hh9 ev48
          refine lv_iconst (v := 2) hx hb dX9_freezes_68 rfl ?_
          refine lv_iadd hx hb dX9_freezes_69 (lv_topi (fun v50 ev50 => ?_))
          have ev50i : v50.toInt = (v48.toInt + 2) := i_add ev50 rfl (by decide) (by omega) (by omega)
          refine q_iast E hC40 hS40 gus (by decide) rfl rfl (i_in (a := hf9) hh9 (by omega) (by omega)) (tv_I ev50i (by omega) (by omega)) dX9_freezes_70 (fun H51 locs51 hC51 hS51 U51 => ?_)
          have hKp51 := Kp.upA gus rfl (by decide) rfl U51 hKp40
          have m52 : aI H51 us hf9 = (v48.toInt + 2) := aI_up U51 hh9 ev50i
          have m53 : aI H51 ic a1 = aI H40 ic a1 := aI_ne U51 (nek gus gic (by decide))
          have m55 : aI H51 hd hf9 = aI H40 hd hf9 := aI_ne U51 (nek gus ghd (by decide))
          replace oic : OT H0 H51 ic a1 := oic.ne U51 (nek gus gic (by decide))
          replace ous : OT H0 H51 us hf9 := ous.up U51 hh9 (by omega)
          replace obr : OT H0 H51 br hf9 := obr.ne U51 (nek gus gbr (by decide))
          have m56 : (sI H51 h0 (X.1.2 8 0)).toInt = (sI H40 h0 (X.1.2 8 0)).toInt := congrArg Int32.toInt (up_nI U51 (ne_k g0 gus (by decide)))
          have m57 : (sI H51 h0 (X.1.2 8 1)).toInt = (sI H40 h0 (X.1.2 8 1)).toInt := congrArg Int32.toInt (up_nI U51 (ne_k g0 gus (by decide)))
          have m58 : (sI H51 h0 (X.1.2 8 2)).toInt = (sI H40 h0 (X.1.2 8 2)).toInt := congrArg Int32.toInt (up_nI U51 (ne_k g0 gus (by decide)))
          refine lv_aload_n hx hb dX9_freezes_71 rfl (lv_at hl 1 rfl) ?_
          refine q_getS E hC51 g0 fa_RX9_28 (yn.kp g0 hKp51 rfl).ar.1 dX9_freezes_72 (fun _ => ?_)
          refine lv_iconst (v := 3) hx hb dX9_freezes_75 rfl ?_
          refine q_iald E hC51 gar rfl rfl (fun _ h => h) (i_in (a := 3) (show (3 : Int32).toInt = 3 from by decide) (by omega) (by omega)) dX9_freezes_76 (fun v59 ev59 lv59 uv59 => ?_)
          have m60 : aI H51 ar (3) = v59.toInt := aI_of (show (3 : Int32).toInt = 3 from by decide) ev59
          refine lv_istore_n hx hb dX9_freezes_77 rfl hl (by decide) rfl (fun ls hl => ?_)
          replace hl : lv_has ls 4 [(3, .int v59), (2, .int v23), (0, .ref h0), (1, .int p1)] := hl
          refine lv_iload_n hx hb dX9_freezes_78 rfl (lv_at hl 0 rfl) ?_
          refine lv_iconst (v := (-1)) hx hb dX9_freezes_79 rfl ?_
          refine q_icmp_eq hx hb (a := v59.toInt) (b := (-1)) rfl (by decide) (tgt := 99) dX9_freezes_80 rfl (fun c61 => ?_) (fun c61 => ?_)
          · refine lv_iconst (v := 1) hx hb dX9_freezes_99 rfl ?_
            exact ret 1 H51 locs51 _ _ dX9_freezes_100 (Or.inr rfl) ⟨hKp51, Or.inl ⟨rfl, ⟨by omega, oic, by omega, ous, obr⟩⟩⟩ hC51 hS51
          · refine lv_aload_n hx hb dX9_freezes_83 rfl (lv_at hl 2 rfl) ?_
            refine lv_iload_n hx hb dX9_freezes_84 rfl (lv_at hl 1 rfl) ?_
            refine q_goIp (q_runV (As := [.int v23]) (rest := []) E hC51 hS51 (m_X9_icedCells l X Γ H51 hC51 h0 g0 v23 (a1 := hf9) hh9 sn wl su lw ic kn hd us br ar fi (yn.kp g0 hKp51 rfl) (by omega) (by omega)) cw_X9_icedCells cl_RX9_105 g0 ⟨rfl, rfl⟩ rfl hl.1 rfl (Nat.zero_le _) (by decide) dX9_freezes_85) hS51 (fun v62 locs62 hr62 hS62 => ?_)
            obtain ⟨f62_0, f62_1⟩ := hr62
            refine lv_iload_n hx hb dX9_freezes_88 rfl (lv_at hl 0 rfl) ?_
            refine q_icmp_le hx hb (a := v62.toInt) (b := v59.toInt) rfl rfl (tgt := 99) dX9_freezes_89 rfl (fun c63 => ?_) (fun c63 => ?_)
            · refine lv_iconst (v := 1) hx hb dX9_freezes_99 rfl ?_
              exact ret 1 H51 locs62 _ _ dX9_freezes_100 (Or.inr rfl) ⟨hKp51, Or.inl ⟨rfl, ⟨by omega, oic, by omega, ous, obr⟩⟩⟩ hC51 hS62
            · refine lv_aload_n hx hb dX9_freezes_92 rfl (lv_at hl 2 rfl) ?_
              refine lv_iload_n hx hb dX9_freezes_93 rfl (lv_at hl 1 rfl) ?_
              refine lv_iconst (v := 3) hx hb dX9_freezes_94 rfl ?_
              refine lv_iload_n hx hb dX9_freezes_95 rfl (lv_at hl 3 rfl) ?_
              refine q_goV (q_runV (As := [.int v23, .int 3, .int p1]) (rest := []) E hC51 hS62 (m_X9_breaks l X Γ H51 hC51 h0 g0 v23 (a1 := hf9) hh9 3 (a2 := 3) (by decide) p1 (a3 := a1) e1 sn wl su lw ic kn hd us br ar fi (yn.kp g0 hKp51 rfl) (by omega) (by omega)) cw_X9_breaks cl_RX9_139 g0 ⟨rfl, rfl⟩ rfl hl.1 rfl (Nat.zero_le _) (by decide) dX9_freezes_96) hS62 (fun H64 locs64 hr64 hC64 hS64 => ?_)
              obtain ⟨hp64, hr64⟩ := hr64
              have hKp64 := hKp51.tr (hp64.mono rfl)
              have m65 : aI H64 ic a1 = aI H51 ic a1 := aI_kp hp64 gic rfl rfl
              have m66 : aI H64 us hf9 = aI H51 us hf9 := aI_kp hp64 gus rfl rfl
              have m67 : aI H64 hd hf9 = aI H51 hd hf9 := aI_kp hp64 ghd rfl rfl
              replace oic : OT H0 H64 ic a1 := oic.kp hp64 gic rfl rfl
              replace ous : OT H0 H64 us hf9 := ous.kp hp64 gus rfl rfl
              have m68 : (sI H64 h0 (X.1.2 8 0)).toInt = (sI H51 h0 (X.1.2 8 0)).toInt := congrArg Int32.toInt (kp_I hp64 g0 (k := 0) rfl (by decide) rfl)
              have m69 : (sI H64 h0 (X.1.2 8 1)).toInt = (sI H51 h0 (X.1.2 8 1)).toInt := congrArg Int32.toInt (kp_I hp64 g0 (k := 1) rfl (by decide) rfl)
              have m70 : (sI H64 h0 (X.1.2 8 2)).toInt = (sI H51 h0 (X.1.2 8 2)).toInt := congrArg Int32.toInt (kp_I hp64 g0 (k := 2) rfl (by decide) rfl)
              have f64_0 := hr64
              have obr : OT H0 H64 br hf9 := obr.tr f64_0
              refine lv_iconst (v := 1) hx hb dX9_freezes_99 rfl ?_
              exact ret 1 H64 locs64 _ _ dX9_freezes_100 (Or.inr rfl) ⟨hKp64, Or.inl ⟨rfl, ⟨by omega, oic, by omega, ous, obr⟩⟩⟩ hC64 hS64
        · refine lv_iconst (v := 0) hx hb dX9_freezes_45 rfl ?_
          exact ret 0 H0 locs30 _ _ dX9_freezes_46 (Or.inl rfl) ⟨hKp0, Or.inr ⟨rfl, rfl⟩⟩ hC0 hS30
  · refine q_if_ne hx hb (a := 0) (by decide) (tgt := 10) dX9_freezes_5 rfl (fun c71 => absurd c71 (by omega)) (fun c71 => ?_)
    (exfalso; omega)
set_option maxRecDepth 100000 in
set_option maxHeartbeats 4000000 in
theorem m_X11_grant (l : Launch) (X : xW) (Γ : Nat → Option Nat) (H0 : Heap) (hC0 : Conf X Γ H0) (h0 : Nat) (g0 : Γ h0 = some 0) : Ctr l X Γ yX11_grant cX11_grant 1 (some .boolean) 0 [.ref h0] H0 (QI X Γ (fun v H1 => Kp X Γ [3, 29, 31, 32, 33, 34, 37, 39, 40, 50, 51, 52, 53, 54, 55, 56, 57, 58, 59, 60, 61, 62, 63, 65, 67, 68, 69, 70, 71] H0 H1 ∧ ((v = 1 ∧ (True)) ∨ (v = 0 ∧ ((0 : Int) = 1))))) := by
  refine q_enterZ (own := "SnowForts") (by decide) rfl (Nat.le_of_ble_eq_true rfl) ?_
  intro p e s m args below meth c ls Qz E hl ret hS0
  have hx := E.1; have hb := E.2.1
  have hKp0 : Kp X Γ [3, 29, 31, 32, 33, 34, 37, 39, 40, 50, 51, 52, 53, 54, 55, 56, 57, 58, 59, 60, 61, 62, 63, 65, 67, 68, 69, 70, 71] H0 H0 := Kp.rf
  have hl : lv_has ls 1 [(0, .ref h0)] := hl
  refine lv_aload_n hx hb dX11_grant_0 rfl (lv_at hl 0 rfl) ?_
  refine lv_iconst (v := 0) hx hb dX11_grant_1 rfl ?_
  refine q_put E hC0 hS0 g0 fp_RX11_102 tv_F rfl rfl dX11_grant_2 (fun H21 locs21 hC21 hS21 U21 => ?_)
  have hKp21 := Kp.upO E g0 fp_RX11_102 rfl U21 hKp0
  have e22 := up_I U21
  refine lv_iconst (v := 1) hx hb dX11_grant_5 rfl ?_
  exact ret 1 H21 locs21 _ _ dX11_grant_6 (Or.inr rfl) ⟨hKp21, Or.inl ⟨rfl, trivial⟩⟩ hC21 hS21
set_option maxRecDepth 100000 in
set_option maxHeartbeats 4000000 in
theorem m_X11_ice (l : Launch) (X : xW) (Γ : Nat → Option Nat) (H0 : Heap) (hC0 : Conf X Γ H0) (h0 : Nat) (g0 : Γ h0 = some 0) (p1 : Int32) {a1 : Int} (e1 : p1.toInt = a1) (p2 : Int32) {a2 : Int} (e2 : p2.toInt = a2) (yd : Nat) (hyd : sR H0 h0 (X.1.2 10 5) = some yd) (gyd : Γ yd = some 5) (sn wl su lw ic kn hd us br ar fi : Nat) (yn : YN X Γ H0 yd sn wl su lw ic kn hd us br ar fi) (hf9 : Int) (hfe : (a1 < (sI H0 yd (X.1.2 8 0)).toInt / 2 ∧ hf9 = 0) ∨ ((sI H0 yd (X.1.2 8 0)).toInt / 2 ≤ a1 ∧ hf9 = 1)) (hfo : hf9 < (sI H0 yd (X.1.2 8 2)).toInt) (r0 : 0 ≤ a1) (r1 : a1 ≤ 5) (r2 : a1 < (sI H0 yd (X.1.2 8 0)).toInt) (r3 : 0 ≤ a2) (r4 : a2 ≤ 5) (r5 : a2 < (sI H0 yd (X.1.2 8 1)).toInt) (r6 : aI H0 us hf9 ≤ aI H0 hd hf9) : Ctr l X Γ yX11_ice cX11_ice 3 (some .boolean) 3 [.ref h0, .int p1, .int p2] H0 (QI X Γ (fun v H1 => Kp X Γ [3, 29, 31, 32, 33, 34, 37, 39, 40, 50, 51, 52, 53, 54, 55, 56, 57, 58, 61, 67, 68, 69, 70, 71] H0 H1 ∧ ((v = 1 ∧ (aI H1 ic (a2 * 6 + a1) = 1 ∧ OT H0 H1 ic (a2 * 6 + a1) ∧ aI H1 us hf9 ≤ aI H1 hd hf9 ∧ OT H0 H1 us hf9 ∧ OT H0 H1 br hf9)) ∨ (v = 0 ∧ (aI H1 us hf9 ≤ aI H1 hd hf9 ∧ OT H0 H1 us hf9 ∧ OT H0 H1 br hf9))))) := by
  refine q_enterZ (own := "SnowForts") (by decide) rfl (Nat.le_of_ble_eq_true rfl) ?_
  intro p e s m args below meth c ls Qz E hl ret hS0
  have hx := E.1; have hb := E.2.1
  have hKp0 : Kp X Γ [3, 29, 31, 32, 33, 34, 37, 39, 40, 50, 51, 52, 53, 54, 55, 56, 57, 58, 61, 67, 68, 69, 70, 71] H0 H0 := Kp.rf
  have hl : lv_has ls 3 [(0, .ref h0), (1, .int p1), (2, .int p2)] := hl
  have gsn := yn.sn.2; have gwl := yn.wl.2; have gsu := yn.su.2; have glw := yn.lw.2; have gic := yn.ic.2; have gkn := yn.kn.2; have ghd := yn.hd.2; have gus := yn.us.2; have gbr := yn.br.2; have gar := yn.ar.2; have gfi := yn.fi.2
  refine lv_aload_n hx hb dX11_ice_0 rfl (lv_at hl 0 rfl) ?_
  refine q_getS E hC0 g0 fa_RX11_42 hyd dX11_ice_1 (fun _ => ?_)
  refine lv_iload_n hx hb dX11_ice_4 rfl (lv_at hl 1 rfl) ?_
  refine lv_iload_n hx hb dX11_ice_5 rfl (lv_at hl 2 rfl) ?_
  refine q_goIp (q_runV (As := [.int p1, .int p2]) (rest := []) E hC0 hS0 (m_X9_isOwned l X Γ H0 hC0 yd gyd p1 (a1 := a1) e1 p2 (a2 := a2) e2) cw_X9_isOwned cl_RX11_238 gyd ⟨rfl, rfl⟩ rfl hl.1 rfl (Nat.zero_le _) (by decide) dX11_ice_6) hS0 (fun v21 locs21 hr21 hS21 => ?_)
  rcases hr21 with ⟨rfl, f21a0, f21a1, f21a2, f21a3, f21a4, f21a5, f21a6⟩ | ⟨rfl, f21b⟩
  · refine q_if_ne hx hb (a := 1) (by decide) (tgt := 18) dX11_ice_9 rfl (fun c22 => ?_) (fun c22 => absurd c22 (by omega))
    refine lv_aload_n hx hb dX11_ice_18 rfl (lv_at hl 0 rfl) ?_
    refine q_getS E hC0 g0 fa_RX11_42 hyd dX11_ice_19 (fun _ => ?_)
    refine lv_iload_n hx hb dX11_ice_22 rfl (lv_at hl 2 rfl) ?_
    refine lv_bipush (v := 6) hx hb dX11_ice_23 rfl ?_
    refine lv_imul hx hb dX11_ice_25 (lv_topi (fun v23 ev23 => ?_))
    have ev23i : v23.toInt = (a2 * 6) := i_mul ev23 e2 (by decide) (by omega) (by omega)
    refine lv_iload_n hx hb dX11_ice_26 rfl (lv_at hl 1 rfl) ?_
    refine lv_iadd hx hb dX11_ice_27 (lv_topi (fun v24 ev24 => ?_))
    have ev24i : v24.toInt = ((a2 * 6) + a1) := i_add ev24 ev23i e1 (by omega) (by omega)
    refine q_goI (q_runV (As := [.int v24]) (rest := []) E hC0 hS21 (m_X9_freezes l X Γ H0 hC0 yd gyd v24 (a1 := ((a2 * 6) + a1)) ev24i sn wl su lw ic kn hd us br ar fi yn hf9 (by omega) (by omega) (by omega) (by omega) (by omega) (by omega)) cw_X9_freezes cl_RX11_244 gyd ⟨rfl, rfl⟩ rfl hl.1 rfl (Nat.zero_le _) (by decide) dX11_ice_28) hS21 (fun v25 H25 locs25 hr25 hC25 hS25 => ?_)
    obtain ⟨hp25, hr25⟩ := hr25
    have hKp25 := hKp0.tr (hp25.mono rfl)
    have m28 : aI H25 hd hf9 = aI H0 hd hf9 := aI_kp hp25 ghd rfl rfl
    have m29 : (sI H25 yd (X.1.2 8 0)).toInt = (sI H0 yd (X.1.2 8 0)).toInt := congrArg Int32.toInt (kp_I hp25 gyd (ci := 8) (k := 0) rfl (by decide) rfl)
    have m30 : (sI H25 yd (X.1.2 8 1)).toInt = (sI H0 yd (X.1.2 8 1)).toInt := congrArg Int32.toInt (kp_I hp25 gyd (ci := 8) (k := 1) rfl (by decide) rfl)
    have m31 : (sI H25 yd (X.1.2 8 2)).toInt = (sI H0 yd (X.1.2 8 2)).toInt := congrArg Int32.toInt (kp_I hp25 gyd (ci := 8) (k := 2) rfl (by decide) rfl)
    rcases hr25 with ⟨rfl, q0, q1, q2, q3, q4⟩ | ⟨rfl, qh⟩
    · have oic : OT H0 H25 ic (a2 * 6 + a1) := q1
      have ous : OT H0 H25 us hf9 := q3
      have obr : OT H0 H25 br hf9 := q4
      refine q_if_eq hx hb (a := 1) (by decide) (tgt := 41) dX11_ice_31 rfl (fun c32 => absurd c32 (by omega)) (fun c32 => ?_)
      refine lv_aload_n hx hb dX11_ice_34 rfl (lv_at hl 0 rfl) ?_
      refine q_goI (q_runV (As := []) (rest := []) E hC25 hS25 (m_X11_grant l X Γ H25 hC25 h0 g0) cw_X11_grant cl_RX11_135 g0 ⟨rfl, rfl⟩ rfl hl.1 rfl (Nat.zero_le _) (by decide) dX11_ice_35) hS25 (fun v33 H33 locs33 hr33 hC33 hS33 => ?_)
      obtain ⟨hp33, hr33⟩ := hr33
      have hKp33 := hKp25.tr (hp33.mono rfl)
      have m34 : aI H33 ic ((a2 * 6 + a1)) = aI H25 ic ((a2 * 6 + a1)) := aI_kp hp33 gic rfl rfl
      have m35 : aI H33 us hf9 = aI H25 us hf9 := aI_kp hp33 gus rfl rfl
      have m36 : aI H33 hd hf9 = aI H25 hd hf9 := aI_kp hp33 ghd rfl rfl
      have m37 : (sI H33 yd (X.1.2 8 0)).toInt = (sI H25 yd (X.1.2 8 0)).toInt := congrArg Int32.toInt (kp_I hp33 gyd (ci := 8) (k := 0) rfl (by decide) rfl)
      have m38 : (sI H33 yd (X.1.2 8 1)).toInt = (sI H25 yd (X.1.2 8 1)).toInt := congrArg Int32.toInt (kp_I hp33 gyd (ci := 8) (k := 1) rfl (by decide) rfl)
      have m39 : (sI H33 yd (X.1.2 8 2)).toInt = (sI H25 yd (X.1.2 8 2)).toInt := congrArg Int32.toInt (kp_I hp33 gyd (ci := 8) (k := 2) rfl (by decide) rfl)
      replace oic : OT H0 H33 ic (a2 * 6 + a1) := oic.kp hp33 gic rfl rfl
      replace ous : OT H0 H33 us hf9 := ous.kp hp33 gus rfl rfl
      replace obr : OT H0 H33 br hf9 := obr.kp hp33 gbr rfl rfl
      rcases hr33 with ⟨rfl, -⟩ | ⟨rfl, f33b⟩
      · refine lv_goto (tgt := 47) hx hb dX11_ice_38 rfl ?_
        exact ret 1 H33 locs33 _ _ dX11_ice_47 (Or.inr rfl) ⟨hKp33, Or.inl ⟨rfl, ⟨by omega, oic, by omega, ous, obr⟩⟩⟩ hC33 hS33
      · exact absurd f33b (by decide)
    · have ous : OT H0 H25 us hf9 := by rw [qh]; exact OT.rf
      have obr : OT H0 H25 br hf9 := by rw [qh]; exact OT.rf
      have qe : aI H25 us hf9 = aI H0 us hf9 ∧ aI H25 hd hf9 = aI H0 hd hf9 := by rw [qh]; exact ⟨rfl, rfl⟩
      refine q_if_eq hx hb (a := 0) (by decide) (tgt := 41) dX11_ice_31 rfl (fun c40 => ?_) (fun c40 => absurd c40 (by omega))
      refine lv_aload_n hx hb dX11_ice_41 rfl (lv_at hl 0 rfl) ?_
      refine lv_bipush (v := 9) hx hb dX11_ice_42 rfl ?_
      refine q_goI (q_runV (As := [.int 9]) (rest := []) E hC25 hS25 (m_X11_deny l X Γ H25 hC25 h0 g0 9 (a1 := 9) (by decide)) cw_X11_deny cl_RX11_128 g0 ⟨rfl, rfl⟩ rfl hl.1 rfl (Nat.zero_le _) (by decide) dX11_ice_44) hS25 (fun v41 H41 locs41 hr41 hC41 hS41 => ?_)
      obtain ⟨hp41, hr41⟩ := hr41
      have hKp41 := hKp25.tr (hp41.mono rfl)
      have m42 : aI H41 ic ((a2 * 6 + a1)) = aI H25 ic ((a2 * 6 + a1)) := aI_kp hp41 gic rfl rfl
      have m43 : aI H41 us hf9 = aI H25 us hf9 := aI_kp hp41 gus rfl rfl
      have m44 : aI H41 hd hf9 = aI H25 hd hf9 := aI_kp hp41 ghd rfl rfl
      have m45 : (sI H41 yd (X.1.2 8 0)).toInt = (sI H25 yd (X.1.2 8 0)).toInt := congrArg Int32.toInt (kp_I hp41 gyd (ci := 8) (k := 0) rfl (by decide) rfl)
      have m46 : (sI H41 yd (X.1.2 8 1)).toInt = (sI H25 yd (X.1.2 8 1)).toInt := congrArg Int32.toInt (kp_I hp41 gyd (ci := 8) (k := 1) rfl (by decide) rfl)
      have m47 : (sI H41 yd (X.1.2 8 2)).toInt = (sI H25 yd (X.1.2 8 2)).toInt := congrArg Int32.toInt (kp_I hp41 gyd (ci := 8) (k := 2) rfl (by decide) rfl)
      replace ous : OT H0 H41 us hf9 := ous.kp hp41 gus rfl rfl
      replace obr : OT H0 H41 br hf9 := obr.kp hp41 gbr rfl rfl
      rcases hr41 with ⟨rfl, f41a⟩ | ⟨rfl, -⟩
      · exact absurd f41a (by decide)
      · exact ret 0 H41 locs41 _ _ dX11_ice_47 (Or.inl rfl) ⟨hKp41, Or.inr ⟨rfl, ⟨by omega, ous, obr⟩⟩⟩ hC41 hS41
  · refine q_if_ne hx hb (a := 0) (by decide) (tgt := 18) dX11_ice_9 rfl (fun c48 => absurd c48 (by omega)) (fun c48 => ?_)
    (exfalso; omega)
set_option maxRecDepth 100000 in
set_option maxHeartbeats 4000000 in
theorem m_X9_takes (l : Launch) (X : xW) (Γ : Nat → Option Nat) (H0 : Heap) (hC0 : Conf X Γ H0) (h0 : Nat) (g0 : Γ h0 = some 5) (p1 : Int32) {a1 : Int} (e1 : p1.toInt = a1) (p2 : Int32) {a2 : Int} (e2 : p2.toInt = a2) (p3 : Int32) {a3 : Int} (e3 : p3.toInt = a3) (sn wl su lw ic kn hd us br ar fi : Nat) (yn : YN X Γ H0 h0 sn wl su lw ic kn hd us br ar fi) (hf9 : Int) (hfe : (a1 % 6 < (sI H0 h0 (X.1.2 8 0)).toInt / 2 ∧ hf9 = 0) ∨ ((sI H0 h0 (X.1.2 8 0)).toInt / 2 ≤ a1 % 6 ∧ hf9 = 1)) (r0 : 0 ≤ a1) (r1 : a1 ≤ 35) (r2 : a1 % 6 < (sI H0 h0 (X.1.2 8 0)).toInt) (r3 : a1 / 6 < (sI H0 h0 (X.1.2 8 1)).toInt) (r4 : 0 ≤ a2) (r5 : a2 ≤ 35) (r6 : a2 % 6 < (sI H0 h0 (X.1.2 8 0)).toInt) (r7 : a2 / 6 < (sI H0 h0 (X.1.2 8 1)).toInt) (r8 : 1 ≤ a3) (r9 : a3 ≤ 40) (r10 : aI H0 us hf9 ≤ aI H0 hd hf9) (r11 : 0 ≤ (sI H0 h0 (X.1.2 8 5)).toInt) (r12 : (sI H0 h0 (X.1.2 8 5)).toInt ≤ 1000000) : Ctr l X Γ yX9_takes cX9_takes 8 (some .int) 2 [.ref h0, .int p1, .int p2, .int p3] H0 (QI X Γ (fun v H1 => Kp X Γ [3, 29, 31, 32, 33, 34, 37, 39, 40, 50, 51, 52, 54, 56, 57, 58, 59, 61, 67, 68, 69, 70, 71, 72] H0 H1 ∧ ((0 ≤ v.toInt) ∧ (SM H1 sn 36 + (sI H1 h0 (X.1.2 8 5)).toInt = SM H0 sn 36 + (sI H0 h0 (X.1.2 8 5)).toInt) ∧ (aI H1 us hf9 ≤ aI H1 hd hf9) ∧ (OT H0 H1 us hf9) ∧ (OT H0 H1 br hf9) ∧ ((sI H0 h0 (X.1.2 8 5)).toInt ≤ (sI H1 h0 (X.1.2 8 5)).toInt) ∧ ((sI H1 h0 (X.1.2 8 5)).toInt ≤ (sI H0 h0 (X.1.2 8 5)).toInt + 40)))) := by
  refine q_enterI (own := "SnowForts$Yard") (by decide) rfl (Nat.le_of_ble_eq_true rfl) ?_
  intro p e s m args below meth c ls Qz E hl ret hS0
  have hx := E.1; have hb := E.2.1
  have hKp0 : Kp X Γ [3, 29, 31, 32, 33, 34, 37, 39, 40, 50, 51, 52, 54, 56, 57, 58, 59, 61, 67, 68, 69, 70, 71, 72] H0 H0 := Kp.rf
  have hl : lv_has ls 8 [(0, .ref h0), (1, .int p1), (2, .int p2), (3, .int p3)] := hl
  have gsn := yn.sn.2; have gwl := yn.wl.2; have gsu := yn.su.2; have glw := yn.lw.2; have gic := yn.ic.2; have gkn := yn.kn.2; have ghd := yn.hd.2; have gus := yn.us.2; have gbr := yn.br.2; have gar := yn.ar.2; have gfi := yn.fi.2
  have ous : OT H0 H0 us hf9 := OT.rf
  have obr : OT H0 H0 br hf9 := OT.rf
  refine lv_aload_n hx hb dX9_takes_0 rfl (lv_at hl 0 rfl) ?_
  refine lv_iload_n hx hb dX9_takes_1 rfl (lv_at hl 1 rfl) ?_
  refine q_goIp (q_runV (As := [.int p1]) (rest := []) E hC0 hS0 (m_X9_holds l X Γ H0 hC0 h0 g0 p1 (a1 := a1) e1) cw_X9_holds cl_RX9_99 g0 ⟨rfl, rfl⟩ rfl hl.1 rfl (Nat.zero_le _) (by decide) dX9_takes_2) hS0 (fun v21 locs21 hr21 hS21 => ?_)
  rcases hr21 with ⟨rfl, f21a0, f21a1, f21a2, f21a3⟩ | ⟨rfl, f21b⟩
  · refine q_if_eq hx hb (a := 1) (by decide) (tgt := 29) dX9_takes_5 rfl (fun c22 => absurd c22 (by omega)) (fun c22 => ?_)
    refine lv_aload_n hx hb dX9_takes_8 rfl (lv_at hl 0 rfl) ?_
    refine lv_iload_n hx hb dX9_takes_9 rfl (lv_at hl 2 rfl) ?_
    refine q_goIp (q_runV (As := [.int p2]) (rest := []) E hC0 hS21 (m_X9_holds l X Γ H0 hC0 h0 g0 p2 (a1 := a2) e2) cw_X9_holds cl_RX9_99 g0 ⟨rfl, rfl⟩ rfl hl.1 rfl (Nat.zero_le _) (by decide) dX9_takes_10) hS21 (fun v23 locs23 hr23 hS23 => ?_)
    rcases hr23 with ⟨rfl, f23a0, f23a1, f23a2, f23a3⟩ | ⟨rfl, f23b⟩
    · refine q_if_eq hx hb (a := 1) (by decide) (tgt := 29) dX9_takes_13 rfl (fun c24 => absurd c24 (by omega)) (fun c24 => ?_)
      refine lv_aload_n hx hb dX9_takes_16 rfl (lv_at hl 0 rfl) ?_
      refine lv_iload_n hx hb dX9_takes_17 rfl (lv_at hl 1 rfl) ?_
      refine q_goIp (q_runV (As := [.int p1]) (rest := []) E hC0 hS23 (m_X9_halfOf l X Γ H0 hC0 h0 g0 p1 (a1 := a1) e1 (by omega) (by omega)) cw_X9_halfOf cl_RX9_102 g0 ⟨rfl, rfl⟩ rfl hl.1 rfl (Nat.zero_le _) (by decide) dX9_takes_18) hS23 (fun v25 locs25 hr25 hS25 => ?_)
      obtain ⟨f25_0, f25_1, f25_2⟩ := hr25
      refine lv_aload_n hx hb dX9_takes_21 rfl (lv_at hl 0 rfl) ?_
      refine lv_iload_n hx hb dX9_takes_22 rfl (lv_at hl 2 rfl) ?_
      refine q_goIp (q_runV (As := [.int p2]) (rest := [.int v25]) E hC0 hS25 (m_X9_halfOf l X Γ H0 hC0 h0 g0 p2 (a1 := a2) e2 (by omega) (by omega)) cw_X9_halfOf cl_RX9_102 g0 ⟨rfl, rfl⟩ rfl hl.1 rfl (show _ ≤ _ from by simp [Value.category]) (by decide) dX9_takes_23) hS25 (fun v26 locs26 hr26 hS26 => ?_)
      obtain ⟨f26_0, f26_1, f26_2⟩ := hr26
      refine q_icmp_ne hx hb (a := v25.toInt) (b := v26.toInt) rfl rfl (tgt := 31) dX9_takes_26 rfl (fun c27 => ?_) (fun c27 => ?_)
      · refine lv_aload_n hx hb dX9_takes_31 rfl (lv_at hl 0 rfl) ?_
        refine lv_iload_n hx hb dX9_takes_32 rfl (lv_at hl 1 rfl) ?_
        refine q_goIp (q_runV (As := [.int p1]) (rest := []) E hC0 hS26 (m_X9_halfOf l X Γ H0 hC0 h0 g0 p1 (a1 := a1) e1 (by omega) (by omega)) cw_X9_halfOf cl_RX9_102 g0 ⟨rfl, rfl⟩ rfl hl.1 rfl (Nat.zero_le _) (by decide) dX9_takes_33) hS26 (fun v28 locs28 hr28 hS28 => ?_)
        obtain ⟨f28_0, f28_1, f28_2⟩ := hr28
        refine lv_istore hx hb dX9_takes_36 hl (by decide) rfl (fun ls hl => ?_)
        replace hl : lv_has ls 8 [(4, .int v28), (0, .ref h0), (1, .int p1), (2, .int p2), (3, .int p3)] := hl
        have hh9 : v28.toInt = hf9 := by omega
        refine lv_iload_n hx hb dX9_takes_38 rfl (lv_at hl 4 rfl) ?_
        refine lv_iconst (v := 2) hx hb dX9_takes_39 rfl ?_
        refine lv_aload_n hx hb dX9_takes_40 rfl (lv_at hl 1 rfl) ?_
        refine lv_iload hx hb dX9_takes_41 (lv_at hl 0 rfl) ?_
        refine q_goIp (q_runV (As := [.int v28]) (rest := [.int 2, .int p3]) E hC0 hS28 (m_X9_handsLeft l X Γ H0 hC0 h0 g0 v28 (a1 := hf9) hh9 sn wl su lw ic kn hd us br ar fi yn (by omega) (by omega)) cw_X9_handsLeft cl_RX9_129 g0 ⟨rfl, rfl⟩ rfl hl.1 rfl (show _ ≤ _ from by simp [Value.category]) (by decide) dX9_takes_43) hS28 (fun v29 locs29 hr29 hS29 => ?_)
        obtain ⟨f29_0, f29_1, f29_2, f29_3, f29_4⟩ := hr29
        have hl8 : v29.toInt = 0 ∨ v29.toInt = aI H0 hd hf9 - aI H0 us hf9 := f29_4
        have hub := el_bd hC0 gus rfl rfl (fun _ => rfl) (z := hf9) (by omega) (by omega)
        have hhb := el_bd hC0 ghd rfl rfl (fun _ => rfl) (z := hf9) (by omega) (by omega)
        refine lv_imul hx hb dX9_takes_46 (lv_topi (fun v30 ev30 => ?_))
        have ev30i : v30.toInt = (2 * v29.toInt) := i_mul ev30 (by decide) rfl (by omega) (by omega)
        refine q_mmin E hl.1 w_526 mathw_min (a := a3) (b := (2 * v29.toInt)) e3 ev30i (by decide) (Nat.zero_le _) dX9_takes_47 (fun v31 mv31a mv31b mv31c => ?_)
        refine lv_aload_n hx hb dX9_takes_50 rfl (lv_at hl 1 rfl) ?_
        refine q_getS E hC0 g0 fa_RX9_34 yn.sn.1 dX9_takes_51 (fun _ => ?_)
        refine lv_iload_n hx hb dX9_takes_54 rfl (lv_at hl 3 rfl) ?_
        refine q_iald E hC0 gsn rfl rfl (fun _ h => h) (i_in (a := a2) e2 (by omega) (by omega)) dX9_takes_55 (fun v32 ev32 lv32 uv32 => ?_)
        have m33 : aI H0 sn a2 = v32.toInt := aI_of e2 ev32
        refine q_mmin E hl.1 w_526 mathw_min (a := v31.toInt) (b := v32.toInt) rfl rfl (by decide) (Nat.zero_le _) dX9_takes_56 (fun v34 mv34a mv34b mv34c => ?_)
        refine lv_istore hx hb dX9_takes_59 hl (by decide) rfl (fun ls hl => ?_)
        replace hl : lv_has ls 8 [(5, .int v34), (4, .int v28), (0, .ref h0), (1, .int p1), (2, .int p2), (3, .int p3)] := hl
        refine lv_iload hx hb dX9_takes_61 (lv_at hl 0 rfl) ?_
        refine q_if_gt hx hb (a := v34.toInt) rfl (tgt := 68) dX9_takes_63 rfl (fun c35 => ?_) (fun c35 => ?_)
        · refine lv_iload hx hb dX9_takes_68 (lv_at hl 0 rfl) ?_
          refine lv_iconst (v := 1) hx hb dX9_takes_70 rfl ?_
          refine lv_iadd hx hb dX9_takes_71 (lv_topi (fun v36 ev36 => ?_))
          have ev36i : v36.toInt = (v34.toInt + 1) := i_add ev36 rfl (by decide) (by omega) (by omega)
          refine lv_iconst (v := 2) hx hb dX9_takes_72 rfl ?_
          refine lv_idiv hx hb dX9_takes_73 (by decide) (lv_topi (fun v37 ev37 => ?_))
          have ev37i : v37.toInt = ((v34.toInt + 1) / 2) := i_div ev37 ev36i (by decide) (by omega) (by decide)
          refine lv_istore hx hb dX9_takes_74 hl (by decide) rfl (fun ls hl => ?_)
          replace hl : lv_has ls 8 [(6, .int v37), (5, .int v34), (4, .int v28), (0, .ref h0), (1, .int p1), (2, .int p2), (3, .int p3)] := hl
          refine lv_iconst (v := 0) hx hb dX9_takes_76 rfl ?_
          refine lv_istore hx hb dX9_takes_77 hl (by decide) rfl (fun ls hl => ?_)
          replace hl : lv_has ls 8 [(7, .int 0), (6, .int v37), (5, .int v34), (4, .int v28), (0, .ref h0), (1, .int p1), (2, .int p2), (3, .int p3)] := hl
          have L79 : ∀ (n39 : Nat) (H39 : Heap) (locs39 : List Loc) (v38 : Int32) (z38 : Int) (ls : Array Slot), (((v34.toInt + 1) / 2) - z38).toNat < n39 → v38.toInt = z38 → 0 ≤ z38 → z38 ≤ ((v34.toInt + 1) / 2) → aI H39 us hf9 = aI H0 us hf9 → aI H39 hd hf9 = aI H0 hd hf9 → SM H39 sn 36 = SM H0 sn 36 → aI H39 sn a2 = aI H0 sn a2 → (sI H39 h0 (X.1.2 8 5)).toInt = (sI H0 h0 (X.1.2 8 5)).toInt → Conf X Γ H39 → va_S (AΓ Γ) H0 H39 locs39 → Kp X Γ [3, 29, 31, 32, 33, 34, 37, 39, 40, 50, 51, 52, 54, 56, 57, 58, 59, 61, 67, 68, 69, 70, 71, 72] H0 H39 → (OT H0 H39 us hf9) → (OT H0 H39 br hf9) → lv_has ls 8 [(7, .int v38), (6, .int v37), (5, .int v34), (4, .int v28), (0, .ref h0), (1, .int p1), (2, .int p2), (3, .int p3)] → W p l e (rmL 2) s m args below meth c H39 locs39 0 0 Qz (F0 m 79 ls []) := by
            intro n39
            induction n39 with
            | zero => intro H39 locs39 v38 z38 ls hm39 ev38 iv39_0 iv39_1 iv39_2 iv39_3 iv39_4 iv39_5 iv39_6 hC39 hS39 hKp39 ous obr hl; exact absurd hm39 (Nat.not_lt_zero _)
            | succ n39 ih39 =>
              intro H39 locs39 v38 z38 ls hm39 ev38 iv39_0 iv39_1 iv39_2 iv39_3 iv39_4 iv39_5 iv39_6 hC39 hS39 hKp39 ous obr hl
              refine lv_iload hx hb dX9_takes_79 (lv_at hl 0 rfl) ?_
              refine lv_iload hx hb dX9_takes_81 (lv_at hl 1 rfl) ?_
              refine q_icmp_ge hx hb (a := z38) (b := ((v34.toInt + 1) / 2)) ev38 ev37i (tgt := 110) dX9_takes_83 rfl (fun c40 => ?_) (fun c40 => ?_)
              · refine lv_aload_n hx hb dX9_takes_110 rfl (lv_at hl 4 rfl) ?_
                refine q_getS E hC39 g0 fa_RX9_22 (yn.kp g0 hKp39 rfl).us.1 dX9_takes_111 (fun _ => ?_)
                refine lv_iload hx hb dX9_takes_114 (lv_at hl 3 rfl) ?_
                refine lv_dup2_11 hx hb dX9_takes_116 rfl rfl ?_
                refine q_iald E hC39 gus rfl rfl (fun _ h => h) (i_in (a := hf9) hh9 (by omega) (by omega)) dX9_takes_117 (fun v41 ev41 lv41 uv41 => ?_)
                have m42 : aI H39 us hf9 = v41.toInt := aI_of hh9 ev41
                refine lv_iload hx hb dX9_takes_118 (lv_at hl 1 rfl) ?_
                refine lv_iadd hx hb dX9_takes_120 (lv_topi (fun v43 ev43 => ?_))
                have ev43i : v43.toInt = (v41.toInt + ((v34.toInt + 1) / 2)) := i_add ev43 rfl ev37i (by omega) (by omega)
                refine q_iast E hC39 hS39 gus (by decide) rfl rfl (i_in (a := hf9) hh9 (by omega) (by omega)) (tv_I ev43i (by omega) (by omega)) dX9_takes_121 (fun H44 locs44 hC44 hS44 U44 => ?_)
                have hKp44 := Kp.upA gus rfl (by decide) rfl U44 hKp39
                have m45 : aI H44 us hf9 = (v41.toInt + ((v34.toInt + 1) / 2)) := aI_up U44 hh9 ev43i
                have m47 : aI H44 hd hf9 = aI H39 hd hf9 := aI_ne U44 (nek gus ghd (by decide))
                have m48 : aI H44 sn a2 = aI H39 sn a2 := aI_ne U44 (nek gus gsn (by decide))
                have m49 : SM H44 sn 36 = SM H39 sn 36 := SM_ne U44 (nek gus gsn (by decide))
                replace ous : OT H0 H44 us hf9 := ous.up U44 hh9 (by omega)
                replace obr : OT H0 H44 br hf9 := obr.ne U44 (nek gus gbr (by decide))
                have m50 : (sI H44 h0 (X.1.2 8 0)).toInt = (sI H39 h0 (X.1.2 8 0)).toInt := congrArg Int32.toInt (up_nI U44 (ne_k g0 gus (by decide)))
                have m51 : (sI H44 h0 (X.1.2 8 1)).toInt = (sI H39 h0 (X.1.2 8 1)).toInt := congrArg Int32.toInt (up_nI U44 (ne_k g0 gus (by decide)))
                have m52 : (sI H44 h0 (X.1.2 8 2)).toInt = (sI H39 h0 (X.1.2 8 2)).toInt := congrArg Int32.toInt (up_nI U44 (ne_k g0 gus (by decide)))
                have m53 : (sI H44 h0 (X.1.2 8 5)).toInt = (sI H39 h0 (X.1.2 8 5)).toInt := congrArg Int32.toInt (up_nI U44 (ne_k g0 gus (by decide)))
                refine lv_aload_n hx hb dX9_takes_122 rfl (lv_at hl 4 rfl) ?_
                refine q_getS E hC44 g0 fa_RX9_34 (yn.kp g0 hKp44 rfl).sn.1 dX9_takes_123 (fun _ => ?_)
                refine lv_iload_n hx hb dX9_takes_126 rfl (lv_at hl 6 rfl) ?_
                refine lv_dup2_11 hx hb dX9_takes_127 rfl rfl ?_
                refine q_iald E hC44 gsn rfl rfl (fun _ h => h) (i_in (a := a2) e2 (by omega) (by omega)) dX9_takes_128 (fun v54 ev54 lv54 uv54 => ?_)
                have m55 : aI H44 sn a2 = v54.toInt := aI_of e2 ev54
                refine lv_iload hx hb dX9_takes_129 (lv_at hl 2 rfl) ?_
                refine lv_isub hx hb dX9_takes_131 (lv_topi (fun v56 ev56 => ?_))
                have ev56i : v56.toInt = (v54.toInt - v34.toInt) := i_sub ev56 rfl rfl (by omega) (by omega)
                refine q_iast E hC44 hS44 gsn (by decide) rfl rfl (i_in (a := a2) e2 (by omega) (by omega)) (tv_I ev56i (by omega) (by omega)) dX9_takes_132 (fun H57 locs57 hC57 hS57 U57 => ?_)
                have hKp57 := Kp.upA gsn rfl (by decide) rfl U57 hKp44
                have m58 : aI H57 sn a2 = (v54.toInt - v34.toInt) := aI_up U57 e2 ev56i
                have m59 : aI H57 us hf9 = aI H44 us hf9 := aI_ne U57 (nek gsn gus (by decide))
                have m60 : aI H57 hd hf9 = aI H44 hd hf9 := aI_ne U57 (nek gsn ghd (by decide))
                have m62 : SM H57 sn 36 = SM H44 sn 36 - aI H44 sn a2 + (v54.toInt - v34.toInt) := SM_up U57 e2 ev56i (by omega) (by omega)
                replace ous : OT H0 H57 us hf9 := ous.ne U57 (nek gsn gus (by decide))
                replace obr : OT H0 H57 br hf9 := obr.ne U57 (nek gsn gbr (by decide))
                have m63 : (sI H57 h0 (X.1.2 8 0)).toInt = (sI H44 h0 (X.1.2 8 0)).toInt := congrArg Int32.toInt (up_nI U57 (ne_k g0 gsn (by decide)))
                have m64 : (sI H57 h0 (X.1.2 8 1)).toInt = (sI H44 h0 (X.1.2 8 1)).toInt := congrArg Int32.toInt (up_nI U57 (ne_k g0 gsn (by decide)))
                have m65 : (sI H57 h0 (X.1.2 8 2)).toInt = (sI H44 h0 (X.1.2 8 2)).toInt := congrArg Int32.toInt (up_nI U57 (ne_k g0 gsn (by decide)))
                have m66 : (sI H57 h0 (X.1.2 8 5)).toInt = (sI H44 h0 (X.1.2 8 5)).toInt := congrArg Int32.toInt (up_nI U57 (ne_k g0 gsn (by decide)))
                refine lv_aload_n hx hb dX9_takes_133 rfl (lv_at hl 4 rfl) ?_
                refine lv_iload_n hx hb dX9_takes_134 rfl (lv_at hl 5 rfl) ?_
                refine lv_iload hx hb dX9_takes_135 (lv_at hl 2 rfl) ?_
                refine q_goI (q_runV (As := [.int p1, .int v34]) (rest := []) E hC57 hS57 (m_X9_heaps l X Γ H57 hC57 h0 g0 p1 (a1 := a1) e1 v34 (a2 := v34.toInt) rfl sn wl su lw ic kn hd us br ar fi (yn.kp g0 hKp57 rfl) (by omega) (by omega) (by omega) (by omega) (by omega) (by omega)) cw_X9_heaps cl_RX9_114 g0 ⟨rfl, rfl⟩ rfl hl.1 rfl (Nat.zero_le _) (by decide) dX9_takes_137) hS57 (fun v67 H67 locs67 hr67 hC67 hS67 => ?_)
                obtain ⟨hp67, hr67⟩ := hr67
                have hKp67 := hKp57.tr (hp67.mono rfl)
                have m68 : aI H67 us hf9 = aI H57 us hf9 := aI_kp hp67 gus rfl rfl
                have m69 : aI H67 hd hf9 = aI H57 hd hf9 := aI_kp hp67 ghd rfl rfl
                replace ous : OT H0 H67 us hf9 := ous.kp hp67 gus rfl rfl
                replace obr : OT H0 H67 br hf9 := obr.kp hp67 gbr rfl rfl
                have m72 : (sI H67 h0 (X.1.2 8 0)).toInt = (sI H57 h0 (X.1.2 8 0)).toInt := congrArg Int32.toInt (kp_I hp67 g0 (k := 0) rfl (by decide) rfl)
                have m73 : (sI H67 h0 (X.1.2 8 1)).toInt = (sI H57 h0 (X.1.2 8 1)).toInt := congrArg Int32.toInt (kp_I hp67 g0 (k := 1) rfl (by decide) rfl)
                have m74 : (sI H67 h0 (X.1.2 8 2)).toInt = (sI H57 h0 (X.1.2 8 2)).toInt := congrArg Int32.toInt (kp_I hp67 g0 (k := 2) rfl (by decide) rfl)
                obtain ⟨f67_0, f67_1, f67_2, f67_3, f67_4⟩ := hr67
                have q9 := f67_4.sm (n := 36) (by omega) (by omega)
                refine lv_pop hx hb dX9_takes_140 rfl ?_
                refine lv_aload_n hx hb dX9_takes_141 rfl (lv_at hl 4 rfl) ?_
                refine q_getS E hC67 g0 fa_RX9_49 (yn.kp g0 hKp67 rfl).kn.1 dX9_takes_142 (fun _ => ?_)
                refine lv_iload_n hx hb dX9_takes_145 rfl (lv_at hl 5 rfl) ?_
                refine lv_iconst (v := 0) hx hb dX9_takes_146 rfl ?_
                refine q_iast E hC67 hS67 gkn (by decide) rfl rfl (i_in (a := a1) e1 (by omega) (by omega)) tv_F dX9_takes_147 (fun H75 locs75 hC75 hS75 U75 => ?_)
                have hKp75 := Kp.upA gkn rfl (by decide) rfl U75 hKp67
                have m76 : aI H75 kn a1 = 0 := aI_up U75 e1 (show (0 : Int32).toInt = 0 from by decide)
                have m77 : aI H75 us hf9 = aI H67 us hf9 := aI_ne U75 (nek gkn gus (by decide))
                have m78 : aI H75 hd hf9 = aI H67 hd hf9 := aI_ne U75 (nek gkn ghd (by decide))
                have m79 : aI H75 sn a2 = aI H67 sn a2 := aI_ne U75 (nek gkn gsn (by decide))
                have m80 : SM H75 sn 36 = SM H67 sn 36 := SM_ne U75 (nek gkn gsn (by decide))
                replace ous : OT H0 H75 us hf9 := ous.ne U75 (nek gkn gus (by decide))
                replace obr : OT H0 H75 br hf9 := obr.ne U75 (nek gkn gbr (by decide))
                have m81 : (sI H75 h0 (X.1.2 8 0)).toInt = (sI H67 h0 (X.1.2 8 0)).toInt := congrArg Int32.toInt (up_nI U75 (ne_k g0 gkn (by decide)))
                have m82 : (sI H75 h0 (X.1.2 8 1)).toInt = (sI H67 h0 (X.1.2 8 1)).toInt := congrArg Int32.toInt (up_nI U75 (ne_k g0 gkn (by decide)))
                have m83 : (sI H75 h0 (X.1.2 8 2)).toInt = (sI H67 h0 (X.1.2 8 2)).toInt := congrArg Int32.toInt (up_nI U75 (ne_k g0 gkn (by decide)))
                have m84 : (sI H75 h0 (X.1.2 8 5)).toInt = (sI H67 h0 (X.1.2 8 5)).toInt := congrArg Int32.toInt (up_nI U75 (ne_k g0 gkn (by decide)))
                refine lv_aload_n hx hb dX9_takes_148 rfl (lv_at hl 4 rfl) ?_
                refine q_getS E hC75 g0 fa_RX9_49 (yn.kp g0 hKp75 rfl).kn.1 dX9_takes_149 (fun _ => ?_)
                refine lv_iload_n hx hb dX9_takes_152 rfl (lv_at hl 6 rfl) ?_
                refine lv_iconst (v := 0) hx hb dX9_takes_153 rfl ?_
                refine q_iast E hC75 hS75 gkn (by decide) rfl rfl (i_in (a := a2) e2 (by omega) (by omega)) tv_F dX9_takes_154 (fun H85 locs85 hC85 hS85 U85 => ?_)
                have hKp85 := Kp.upA gkn rfl (by decide) rfl U85 hKp75
                have m86 : aI H85 kn a2 = 0 := aI_up U85 e2 (show (0 : Int32).toInt = 0 from by decide)
                have m87 : aI H85 us hf9 = aI H75 us hf9 := aI_ne U85 (nek gkn gus (by decide))
                have m88 : aI H85 hd hf9 = aI H75 hd hf9 := aI_ne U85 (nek gkn ghd (by decide))
                have m89 : aI H85 sn a2 = aI H75 sn a2 := aI_ne U85 (nek gkn gsn (by decide))
                have m90 : SM H85 sn 36 = SM H75 sn 36 := SM_ne U85 (nek gkn gsn (by decide))
                replace ous : OT H0 H85 us hf9 := ous.ne U85 (nek gkn gus (by decide))
                replace obr : OT H0 H85 br hf9 := obr.ne U85 (nek gkn gbr (by decide))
                have m91 : (sI H85 h0 (X.1.2 8 0)).toInt = (sI H75 h0 (X.1.2 8 0)).toInt := congrArg Int32.toInt (up_nI U85 (ne_k g0 gkn (by decide)))
                have m92 : (sI H85 h0 (X.1.2 8 1)).toInt = (sI H75 h0 (X.1.2 8 1)).toInt := congrArg Int32.toInt (up_nI U85 (ne_k g0 gkn (by decide)))
                have m93 : (sI H85 h0 (X.1.2 8 2)).toInt = (sI H75 h0 (X.1.2 8 2)).toInt := congrArg Int32.toInt (up_nI U85 (ne_k g0 gkn (by decide)))
                have m94 : (sI H85 h0 (X.1.2 8 5)).toInt = (sI H75 h0 (X.1.2 8 5)).toInt := congrArg Int32.toInt (up_nI U85 (ne_k g0 gkn (by decide)))
                refine lv_iload hx hb dX9_takes_155 (lv_at hl 2 rfl) ?_
                have c95 : v34.toInt = v34.toInt := rfl
                exact ret v34 H85 locs85 _ _ dX9_takes_157 ⟨hKp85, ⟨by omega, by omega, by omega, ous, obr, by omega, by omega⟩⟩ hC85 hS85
              · refine lv_aload_n hx hb dX9_takes_86 rfl (lv_at hl 4 rfl) ?_
                refine q_getS E hC39 g0 fa_RX9_28 (yn.kp g0 hKp39 rfl).ar.1 dX9_takes_87 (fun _ => ?_)
                refine lv_iconst (v := 2) hx hb dX9_takes_90 rfl ?_
                refine q_iald E hC39 gar rfl rfl (fun _ h => h) (i_in (a := 2) (show (2 : Int32).toInt = 2 from by decide) (by omega) (by omega)) dX9_takes_91 (fun v96 ev96 lv96 uv96 => ?_)
                have m97 : aI H39 ar (2) = v96.toInt := aI_of (show (2 : Int32).toInt = 2 from by decide) ev96
                refine lv_iconst (v := (-1)) hx hb dX9_takes_92 rfl ?_
                refine q_icmp_eq hx hb (a := v96.toInt) (b := (-1)) rfl (by decide) (tgt := 110) dX9_takes_93 rfl (fun c98 => ?_) (fun c98 => ?_)
                · refine lv_aload_n hx hb dX9_takes_110 rfl (lv_at hl 4 rfl) ?_
                  refine q_getS E hC39 g0 fa_RX9_22 (yn.kp g0 hKp39 rfl).us.1 dX9_takes_111 (fun _ => ?_)
                  refine lv_iload hx hb dX9_takes_114 (lv_at hl 3 rfl) ?_
                  refine lv_dup2_11 hx hb dX9_takes_116 rfl rfl ?_
                  refine q_iald E hC39 gus rfl rfl (fun _ h => h) (i_in (a := hf9) hh9 (by omega) (by omega)) dX9_takes_117 (fun v99 ev99 lv99 uv99 => ?_)
                  have m100 : aI H39 us hf9 = v99.toInt := aI_of hh9 ev99
                  refine lv_iload hx hb dX9_takes_118 (lv_at hl 1 rfl) ?_
                  refine lv_iadd hx hb dX9_takes_120 (lv_topi (fun v101 ev101 => ?_))
                  have ev101i : v101.toInt = (v99.toInt + ((v34.toInt + 1) / 2)) := i_add ev101 rfl ev37i (by omega) (by omega)
                  refine q_iast E hC39 hS39 gus (by decide) rfl rfl (i_in (a := hf9) hh9 (by omega) (by omega)) (tv_I ev101i (by omega) (by omega)) dX9_takes_121 (fun H102 locs102 hC102 hS102 U102 => ?_)
                  have hKp102 := Kp.upA gus rfl (by decide) rfl U102 hKp39
                  have m103 : aI H102 us hf9 = (v99.toInt + ((v34.toInt + 1) / 2)) := aI_up U102 hh9 ev101i
                  have m105 : aI H102 hd hf9 = aI H39 hd hf9 := aI_ne U102 (nek gus ghd (by decide))
                  have m106 : aI H102 sn a2 = aI H39 sn a2 := aI_ne U102 (nek gus gsn (by decide))
                  have m107 : SM H102 sn 36 = SM H39 sn 36 := SM_ne U102 (nek gus gsn (by decide))
                  replace ous : OT H0 H102 us hf9 := ous.up U102 hh9 (by omega)
                  replace obr : OT H0 H102 br hf9 := obr.ne U102 (nek gus gbr (by decide))
                  have m108 : (sI H102 h0 (X.1.2 8 0)).toInt = (sI H39 h0 (X.1.2 8 0)).toInt := congrArg Int32.toInt (up_nI U102 (ne_k g0 gus (by decide)))
                  have m109 : (sI H102 h0 (X.1.2 8 1)).toInt = (sI H39 h0 (X.1.2 8 1)).toInt := congrArg Int32.toInt (up_nI U102 (ne_k g0 gus (by decide)))
                  have m110 : (sI H102 h0 (X.1.2 8 2)).toInt = (sI H39 h0 (X.1.2 8 2)).toInt := congrArg Int32.toInt (up_nI U102 (ne_k g0 gus (by decide)))
                  have m111 : (sI H102 h0 (X.1.2 8 5)).toInt = (sI H39 h0 (X.1.2 8 5)).toInt := congrArg Int32.toInt (up_nI U102 (ne_k g0 gus (by decide)))
                  refine lv_aload_n hx hb dX9_takes_122 rfl (lv_at hl 4 rfl) ?_
                  refine q_getS E hC102 g0 fa_RX9_34 (yn.kp g0 hKp102 rfl).sn.1 dX9_takes_123 (fun _ => ?_)
                  refine lv_iload_n hx hb dX9_takes_126 rfl (lv_at hl 6 rfl) ?_
                  refine lv_dup2_11 hx hb dX9_takes_127 rfl rfl ?_
                  refine q_iald E hC102 gsn rfl rfl (fun _ h => h) (i_in (a := a2) e2 (by omega) (by omega)) dX9_takes_128 (fun v112 ev112 lv112 uv112 => ?_)
                  have m113 : aI H102 sn a2 = v112.toInt := aI_of e2 ev112
                  refine lv_iload hx hb dX9_takes_129 (lv_at hl 2 rfl) ?_
                  refine lv_isub hx hb dX9_takes_131 (lv_topi (fun v114 ev114 => ?_))
                  have ev114i : v114.toInt = (v112.toInt - v34.toInt) := i_sub ev114 rfl rfl (by omega) (by omega)
                  refine q_iast E hC102 hS102 gsn (by decide) rfl rfl (i_in (a := a2) e2 (by omega) (by omega)) (tv_I ev114i (by omega) (by omega)) dX9_takes_132 (fun H115 locs115 hC115 hS115 U115 => ?_)
                  have hKp115 := Kp.upA gsn rfl (by decide) rfl U115 hKp102
                  have m116 : aI H115 sn a2 = (v112.toInt - v34.toInt) := aI_up U115 e2 ev114i
                  have m117 : aI H115 us hf9 = aI H102 us hf9 := aI_ne U115 (nek gsn gus (by decide))
                  have m118 : aI H115 hd hf9 = aI H102 hd hf9 := aI_ne U115 (nek gsn ghd (by decide))
                  have m120 : SM H115 sn 36 = SM H102 sn 36 - aI H102 sn a2 + (v112.toInt - v34.toInt) := SM_up U115 e2 ev114i (by omega) (by omega)
                  replace ous : OT H0 H115 us hf9 := ous.ne U115 (nek gsn gus (by decide))
                  replace obr : OT H0 H115 br hf9 := obr.ne U115 (nek gsn gbr (by decide))
                  have m121 : (sI H115 h0 (X.1.2 8 0)).toInt = (sI H102 h0 (X.1.2 8 0)).toInt := congrArg Int32.toInt (up_nI U115 (ne_k g0 gsn (by decide)))
                  have m122 : (sI H115 h0 (X.1.2 8 1)).toInt = (sI H102 h0 (X.1.2 8 1)).toInt := congrArg Int32.toInt (up_nI U115 (ne_k g0 gsn (by decide)))
                  have m123 : (sI H115 h0 (X.1.2 8 2)).toInt = (sI H102 h0 (X.1.2 8 2)).toInt := congrArg Int32.toInt (up_nI U115 (ne_k g0 gsn (by decide)))
                  have m124 : (sI H115 h0 (X.1.2 8 5)).toInt = (sI H102 h0 (X.1.2 8 5)).toInt := congrArg Int32.toInt (up_nI U115 (ne_k g0 gsn (by decide)))
                  refine lv_aload_n hx hb dX9_takes_133 rfl (lv_at hl 4 rfl) ?_
                  refine lv_iload_n hx hb dX9_takes_134 rfl (lv_at hl 5 rfl) ?_
                  refine lv_iload hx hb dX9_takes_135 (lv_at hl 2 rfl) ?_
                  refine q_goI (q_runV (As := [.int p1, .int v34]) (rest := []) E hC115 hS115 (m_X9_heaps l X Γ H115 hC115 h0 g0 p1 (a1 := a1) e1 v34 (a2 := v34.toInt) rfl sn wl su lw ic kn hd us br ar fi (yn.kp g0 hKp115 rfl) (by omega) (by omega) (by omega) (by omega) (by omega) (by omega)) cw_X9_heaps cl_RX9_114 g0 ⟨rfl, rfl⟩ rfl hl.1 rfl (Nat.zero_le _) (by decide) dX9_takes_137) hS115 (fun v125 H125 locs125 hr125 hC125 hS125 => ?_)
                  obtain ⟨hp125, hr125⟩ := hr125
                  have hKp125 := hKp115.tr (hp125.mono rfl)
                  have m126 : aI H125 us hf9 = aI H115 us hf9 := aI_kp hp125 gus rfl rfl
                  have m127 : aI H125 hd hf9 = aI H115 hd hf9 := aI_kp hp125 ghd rfl rfl
                  replace ous : OT H0 H125 us hf9 := ous.kp hp125 gus rfl rfl
                  replace obr : OT H0 H125 br hf9 := obr.kp hp125 gbr rfl rfl
                  have m130 : (sI H125 h0 (X.1.2 8 0)).toInt = (sI H115 h0 (X.1.2 8 0)).toInt := congrArg Int32.toInt (kp_I hp125 g0 (k := 0) rfl (by decide) rfl)
                  have m131 : (sI H125 h0 (X.1.2 8 1)).toInt = (sI H115 h0 (X.1.2 8 1)).toInt := congrArg Int32.toInt (kp_I hp125 g0 (k := 1) rfl (by decide) rfl)
                  have m132 : (sI H125 h0 (X.1.2 8 2)).toInt = (sI H115 h0 (X.1.2 8 2)).toInt := congrArg Int32.toInt (kp_I hp125 g0 (k := 2) rfl (by decide) rfl)
                  obtain ⟨f125_0, f125_1, f125_2, f125_3, f125_4⟩ := hr125
                  have q9 := f125_4.sm (n := 36) (by omega) (by omega)
                  refine lv_pop hx hb dX9_takes_140 rfl ?_
                  refine lv_aload_n hx hb dX9_takes_141 rfl (lv_at hl 4 rfl) ?_
                  refine q_getS E hC125 g0 fa_RX9_49 (yn.kp g0 hKp125 rfl).kn.1 dX9_takes_142 (fun _ => ?_)
                  refine lv_iload_n hx hb dX9_takes_145 rfl (lv_at hl 5 rfl) ?_
                  refine lv_iconst (v := 0) hx hb dX9_takes_146 rfl ?_
                  refine q_iast E hC125 hS125 gkn (by decide) rfl rfl (i_in (a := a1) e1 (by omega) (by omega)) tv_F dX9_takes_147 (fun H133 locs133 hC133 hS133 U133 => ?_)
                  have hKp133 := Kp.upA gkn rfl (by decide) rfl U133 hKp125
                  have m134 : aI H133 kn a1 = 0 := aI_up U133 e1 (show (0 : Int32).toInt = 0 from by decide)
                  have m135 : aI H133 us hf9 = aI H125 us hf9 := aI_ne U133 (nek gkn gus (by decide))
                  have m136 : aI H133 hd hf9 = aI H125 hd hf9 := aI_ne U133 (nek gkn ghd (by decide))
                  have m137 : aI H133 sn a2 = aI H125 sn a2 := aI_ne U133 (nek gkn gsn (by decide))
                  have m138 : SM H133 sn 36 = SM H125 sn 36 := SM_ne U133 (nek gkn gsn (by decide))
                  replace ous : OT H0 H133 us hf9 := ous.ne U133 (nek gkn gus (by decide))
                  replace obr : OT H0 H133 br hf9 := obr.ne U133 (nek gkn gbr (by decide))
                  have m139 : (sI H133 h0 (X.1.2 8 0)).toInt = (sI H125 h0 (X.1.2 8 0)).toInt := congrArg Int32.toInt (up_nI U133 (ne_k g0 gkn (by decide)))
                  have m140 : (sI H133 h0 (X.1.2 8 1)).toInt = (sI H125 h0 (X.1.2 8 1)).toInt := congrArg Int32.toInt (up_nI U133 (ne_k g0 gkn (by decide)))
                  have m141 : (sI H133 h0 (X.1.2 8 2)).toInt = (sI H125 h0 (X.1.2 8 2)).toInt := congrArg Int32.toInt (up_nI U133 (ne_k g0 gkn (by decide)))
                  have m142 : (sI H133 h0 (X.1.2 8 5)).toInt = (sI H125 h0 (X.1.2 8 5)).toInt := congrArg Int32.toInt (up_nI U133 (ne_k g0 gkn (by decide)))
                  refine lv_aload_n hx hb dX9_takes_148 rfl (lv_at hl 4 rfl) ?_
                  refine q_getS E hC133 g0 fa_RX9_49 (yn.kp g0 hKp133 rfl).kn.1 dX9_takes_149 (fun _ => ?_)
                  refine lv_iload_n hx hb dX9_takes_152 rfl (lv_at hl 6 rfl) ?_
                  refine lv_iconst (v := 0) hx hb dX9_takes_153 rfl ?_
                  refine q_iast E hC133 hS133 gkn (by decide) rfl rfl (i_in (a := a2) e2 (by omega) (by omega)) tv_F dX9_takes_154 (fun H143 locs143 hC143 hS143 U143 => ?_)
                  have hKp143 := Kp.upA gkn rfl (by decide) rfl U143 hKp133
                  have m144 : aI H143 kn a2 = 0 := aI_up U143 e2 (show (0 : Int32).toInt = 0 from by decide)
                  have m145 : aI H143 us hf9 = aI H133 us hf9 := aI_ne U143 (nek gkn gus (by decide))
                  have m146 : aI H143 hd hf9 = aI H133 hd hf9 := aI_ne U143 (nek gkn ghd (by decide))
                  have m147 : aI H143 sn a2 = aI H133 sn a2 := aI_ne U143 (nek gkn gsn (by decide))
                  have m148 : SM H143 sn 36 = SM H133 sn 36 := SM_ne U143 (nek gkn gsn (by decide))
                  replace ous : OT H0 H143 us hf9 := ous.ne U143 (nek gkn gus (by decide))
                  replace obr : OT H0 H143 br hf9 := obr.ne U143 (nek gkn gbr (by decide))
                  have m149 : (sI H143 h0 (X.1.2 8 0)).toInt = (sI H133 h0 (X.1.2 8 0)).toInt := congrArg Int32.toInt (up_nI U143 (ne_k g0 gkn (by decide)))
                  have m150 : (sI H143 h0 (X.1.2 8 1)).toInt = (sI H133 h0 (X.1.2 8 1)).toInt := congrArg Int32.toInt (up_nI U143 (ne_k g0 gkn (by decide)))
                  have m151 : (sI H143 h0 (X.1.2 8 2)).toInt = (sI H133 h0 (X.1.2 8 2)).toInt := congrArg Int32.toInt (up_nI U143 (ne_k g0 gkn (by decide)))
                  have m152 : (sI H143 h0 (X.1.2 8 5)).toInt = (sI H133 h0 (X.1.2 8 5)).toInt := congrArg Int32.toInt (up_nI U143 (ne_k g0 gkn (by decide)))
                  refine lv_iload hx hb dX9_takes_155 (lv_at hl 2 rfl) ?_
                  have c153 : v34.toInt = v34.toInt := rfl
                  exact ret v34 H143 locs143 _ _ dX9_takes_157 ⟨hKp143, ⟨by omega, by omega, by omega, ous, obr, by omega, by omega⟩⟩ hC143 hS143
                · refine lv_aload_n hx hb dX9_takes_96 rfl (lv_at hl 4 rfl) ?_
                  refine lv_iload hx hb dX9_takes_97 (lv_at hl 3 rfl) ?_
                  refine lv_iconst (v := 2) hx hb dX9_takes_99 rfl ?_
                  refine lv_iload_n hx hb dX9_takes_100 rfl (lv_at hl 6 rfl) ?_
                  refine q_goV (q_runV (As := [.int v28, .int 2, .int p2]) (rest := []) E hC39 hS39 (m_X9_breaks l X Γ H39 hC39 h0 g0 v28 (a1 := hf9) hh9 2 (a2 := 2) (by decide) p2 (a3 := a2) e2 sn wl su lw ic kn hd us br ar fi (yn.kp g0 hKp39 rfl) (by omega) (by omega)) cw_X9_breaks cl_RX9_139 g0 ⟨rfl, rfl⟩ rfl hl.1 rfl (Nat.zero_le _) (by decide) dX9_takes_101) hS39 (fun H154 locs154 hr154 hC154 hS154 => ?_)
                  obtain ⟨hp154, hr154⟩ := hr154
                  have hKp154 := hKp39.tr (hp154.mono rfl)
                  have m155 : aI H154 us hf9 = aI H39 us hf9 := aI_kp hp154 gus rfl rfl
                  have m156 : aI H154 hd hf9 = aI H39 hd hf9 := aI_kp hp154 ghd rfl rfl
                  have m157 : aI H154 sn a2 = aI H39 sn a2 := aI_kp hp154 gsn rfl rfl
                  have m158 : SM H154 sn 36 = SM H39 sn 36 := SM_kp hp154 gsn rfl rfl
                  replace ous : OT H0 H154 us hf9 := ous.kp hp154 gus rfl rfl
                  have m159 : (sI H154 h0 (X.1.2 8 0)).toInt = (sI H39 h0 (X.1.2 8 0)).toInt := congrArg Int32.toInt (kp_I hp154 g0 (k := 0) rfl (by decide) rfl)
                  have m160 : (sI H154 h0 (X.1.2 8 1)).toInt = (sI H39 h0 (X.1.2 8 1)).toInt := congrArg Int32.toInt (kp_I hp154 g0 (k := 1) rfl (by decide) rfl)
                  have m161 : (sI H154 h0 (X.1.2 8 2)).toInt = (sI H39 h0 (X.1.2 8 2)).toInt := congrArg Int32.toInt (kp_I hp154 g0 (k := 2) rfl (by decide) rfl)
                  have m162 : (sI H154 h0 (X.1.2 8 5)).toInt = (sI H39 h0 (X.1.2 8 5)).toInt := congrArg Int32.toInt (kp_I hp154 g0 (k := 5) rfl (by decide) rfl)
                  have f154_0 := hr154
                  have obr : OT H0 H154 br hf9 := obr.tr f154_0
                  obtain ⟨v163, ev163⟩ : ∃ z, z = v38 + Int32.ofInt 1 := ⟨_, rfl⟩
                  have ev163i : v163.toInt = (z38 + 1) := i_add ev163 ev38 (by decide) (by omega) (by omega)
                  refine lv_iinc hx hb dX9_takes_104 hl (k := 0) rfl ev163.symm (by decide) rfl (fun ls hl => ?_)
                  replace hl : lv_has ls 8 [(7, .int v163), (6, .int v37), (5, .int v34), (4, .int v28), (0, .ref h0), (1, .int p1), (2, .int p2), (3, .int p3)] := hl
                  refine lv_goto (tgt := 79) hx hb dX9_takes_107 rfl ?_
                  exact ih39 H154 locs154 v163 ((z38 + 1)) ls (ms_lt hm39 (by omega) (by omega)) ev163i (by omega) (by omega) (by omega) (by omega) (by omega) (by omega) (by omega) hC154 hS154 hKp154 ous obr hl
          exact L79 _ H0 locs29 0 0 ls (Nat.lt_succ_self _) (by decide) (by omega) (by omega) (by omega) (by omega) (by omega) (by omega) (by omega) hC0 hS29 hKp0 ous obr hl
        · refine lv_iconst (v := 0) hx hb dX9_takes_66 rfl ?_
          have c164 : (0 : Int32).toInt = 0 := (by decide)
          exact ret 0 H0 locs29 _ _ dX9_takes_67 ⟨hKp0, ⟨by omega, by omega, by omega, ous, obr, by omega, by omega⟩⟩ hC0 hS29
      · refine lv_iconst (v := 0) hx hb dX9_takes_29 rfl ?_
        have c165 : (0 : Int32).toInt = 0 := (by decide)
        exact ret 0 H0 locs26 _ _ dX9_takes_30 ⟨hKp0, ⟨by omega, by omega, by omega, ous, obr, by omega, by omega⟩⟩ hC0 hS26
    · refine q_if_eq hx hb (a := 0) (by decide) (tgt := 29) dX9_takes_13 rfl (fun c166 => ?_) (fun c166 => absurd c166 (by omega))
      refine lv_iconst (v := 0) hx hb dX9_takes_29 rfl ?_
      have c167 : (0 : Int32).toInt = 0 := (by decide)
      exact ret 0 H0 locs23 _ _ dX9_takes_30 ⟨hKp0, ⟨by omega, by omega, by omega, ous, obr, by omega, by omega⟩⟩ hC0 hS23
  · refine q_if_eq hx hb (a := 0) (by decide) (tgt := 29) dX9_takes_5 rfl (fun c168 => ?_) (fun c168 => absurd c168 (by omega))
    refine lv_iconst (v := 0) hx hb dX9_takes_29 rfl ?_
    have c169 : (0 : Int32).toInt = 0 := (by decide)
    exact ret 0 H0 locs21 _ _ dX9_takes_30 ⟨hKp0, ⟨by omega, by omega, by omega, ous, obr, by omega, by omega⟩⟩ hC0 hS21
