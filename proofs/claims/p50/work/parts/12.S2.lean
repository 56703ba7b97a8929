set_option maxRecDepth 100000 in
set_option maxHeartbeats 4000000 in
theorem m_X4_byteAt (l : Launch) (X : xW) (Γ : Nat → Option Nat) (H0 : Heap) (hC0 : Conf X Γ H0) (h0 : Nat) (g0 : Γ h0 = some 2) (p1 : Int32) {a1 : Int} (e1 : p1.toInt = a1) (tp : Nat) (htp : sR H0 h0 (X.1.2 4 0) = some tp) (gtp : Γ tp = some 25) : Ctr l X Γ yX4_byteAt cX4_byteAt 2 (some .int) 0 [.ref h0, .int p1] H0 (QI X Γ (fun v H1 => H1 = H0 ∧ (((a1 < 0 ∨ (sI H0 h0 (X.1.2 4 6)).toInt ≤ a1 ∨ 900 ≤ a1) ∧ v.toInt = -1 ∨ 0 ≤ a1 ∧ a1 < (sI H0 h0 (X.1.2 4 6)).toInt ∧ a1 < 900 ∧ v.toInt = bf H0 tp (a1).toNat)))) := by
  refine q_enterI (own := "SnowForts$Reader") (by decide) rfl (Nat.le_of_ble_eq_true rfl) ?_
  intro p e s m args below meth c ls Qz E hl ret hS0
  have hx := E.1; have hb := E.2.1
  have hl : lv_has ls 2 [(0, .ref h0), (1, .int p1)] := hl
  refine lv_iload_n hx hb dX4_byteAt_0 rfl (lv_at hl 1 rfl) ?_
  refine q_if_lt hx hb (a := a1) e1 (tgt := 28) dX4_byteAt_1 rfl (fun c21 => ?_) (fun c21 => ?_)
  · refine lv_iconst (v := (-1)) hx hb dX4_byteAt_28 rfl ?_
    have c22 : ((-1) : Int32).toInt = (-1) := (by decide)
    exact ret (-1) H0 [] _ _ dX4_byteAt_29 ⟨rfl, by omega⟩ hC0 hS0
  · refine lv_iload_n hx hb dX4_byteAt_4 rfl (lv_at hl 1 rfl) ?_
    refine lv_aload_n hx hb dX4_byteAt_5 rfl (lv_at hl 0 rfl) ?_
    refine q_getI E hC0 g0 fa_RX4_48 dX4_byteAt_6 (fun v23 ev23 _ _ => ?_)
    have m24 : (sI H0 h0 (X.1.2 4 6)).toInt = v23.toInt := (congrArg Int32.toInt ev23).trans rfl
    have c25 := i_rng v23; rw [show v23.toInt = v23.toInt from rfl] at c25
    refine q_icmp_ge hx hb (a := a1) (b := v23.toInt) e1 rfl (tgt := 28) dX4_byteAt_9 rfl (fun c26 => ?_) (fun c26 => ?_)
    · refine lv_iconst (v := (-1)) hx hb dX4_byteAt_28 rfl ?_
      have c27 : ((-1) : Int32).toInt = (-1) := (by decide)
      exact ret (-1) H0 [] _ _ dX4_byteAt_29 ⟨rfl, by omega⟩ hC0 hS0
    · refine lv_iload_n hx hb dX4_byteAt_12 rfl (lv_at hl 1 rfl) ?_
      refine lv_sipush (v := 900) hx hb dX4_byteAt_13 rfl ?_
      refine q_icmp_ge hx hb (a := a1) (b := 900) e1 (by decide) (tgt := 28) dX4_byteAt_16 rfl (fun c28 => ?_) (fun c28 => ?_)
      · refine lv_iconst (v := (-1)) hx hb dX4_byteAt_28 rfl ?_
        have c29 : ((-1) : Int32).toInt = (-1) := (by decide)
        exact ret (-1) H0 [] _ _ dX4_byteAt_29 ⟨rfl, by omega⟩ hC0 hS0
      · refine lv_aload_n hx hb dX4_byteAt_19 rfl (lv_at hl 0 rfl) ?_
        refine q_getS E hC0 g0 fa_RX4_9 htp dX4_byteAt_20 (fun _ => ?_)
        refine lv_iload_n hx hb dX4_byteAt_23 rfl (lv_at hl 1 rfl) ?_
        refine q_bald E hC0 gtp rfl rfl (fun _ h => h) (i_in (a := a1) e1 (by omega) (by omega)) dX4_byteAt_24 (fun v30 ev30 lv30 uv30 => ?_)
        have hbv : v30.toInt = bf H0 tp (a1).toNat := by rw [← ev30, i_ix e1]; rfl
        refine lv_goto (tgt := 29) hx hb dX4_byteAt_25 rfl ?_
        have c31 : v30.toInt = v30.toInt := rfl
        exact ret v30 H0 [] _ _ dX4_byteAt_29 ⟨rfl, by omega⟩ hC0 hS0
set_option maxRecDepth 100000 in
set_option maxHeartbeats 4000000 in
theorem m_X4_passBlanks (l : Launch) (X : xW) (Γ : Nat → Option Nat) (H0 : Heap) (hC0 : Conf X Γ H0) (h0 : Nat) (g0 : Γ h0 = some 2) (tp : Nat) (htp : sR H0 h0 (X.1.2 4 0) = some tp) (gtp : Γ tp = some 25) (r0 : 0 ≤ (sI H0 h0 (X.1.2 4 7)).toInt) (r1 : (sI H0 h0 (X.1.2 4 6)).toInt ≤ 900) (r2 : (sI H0 h0 (X.1.2 4 7)).toInt ≤ (sI H0 h0 (X.1.2 4 6)).toInt) : Ctr l X Γ yX4_passBlanks cX4_passBlanks 1 none 1 [.ref h0] H0 (QV X Γ (fun H1 => Kp X Γ [3, 29, 31, 32, 33, 34, 37, 39, 40, 50, 51, 52, 53, 54, 55, 56, 57, 58, 59, 60, 61, 62, 63, 65, 67, 68, 69, 70, 71, 72] H0 H1 ∧ ((SpZ isBl (bf H0 tp) (sI H0 h0 (X.1.2 4 6)).toInt (sI H0 h0 (X.1.2 4 7)).toInt (sI H1 h0 (X.1.2 4 7)).toInt) ∧ ((sI H1 h0 (X.1.2 4 6)).toInt = (sI H0 h0 (X.1.2 4 6)).toInt) ∧ ((sI H0 h0 (X.1.2 4 7)).toInt ≤ (sI H1 h0 (X.1.2 4 7)).toInt) ∧ ((sI H1 h0 (X.1.2 4 7)).toInt ≤ (sI H1 h0 (X.1.2 4 6)).toInt)))) := by
  refine q_enterV (own := "SnowForts$Reader") (by decide) rfl (Nat.le_of_ble_eq_true rfl) ?_
  intro p e s m args below meth c ls Qz E hl ret hS0
  have hx := E.1; have hb := E.2.1
  have hKp0 : Kp X Γ [3, 29, 31, 32, 33, 34, 37, 39, 40, 50, 51, 52, 53, 54, 55, 56, 57, 58, 59, 60, 61, 62, 63, 65, 67, 68, 69, 70, 71, 72] H0 H0 := Kp.rf
  have hl : lv_has ls 1 [(0, .ref h0)] := hl
  have tpt : ∀ j, sI H0 tp j = sI H0 tp j := fun _ => rfl
  have L0 : ∀ (n21 : Nat) (H21 : Heap) (locs21 : List Loc) (ls : Array Slot), ((sI H21 h0 (X.1.2 4 6)).toInt - (sI H21 h0 (X.1.2 4 7)).toInt).toNat < n21 → (sI H0 h0 (X.1.2 4 7)).toInt ≤ (sI H21 h0 (X.1.2 4 7)).toInt → (sI H21 h0 (X.1.2 4 6)).toInt = (sI H0 h0 (X.1.2 4 6)).toInt → SpP isBl (bf H0 tp) (sI H0 h0 (X.1.2 4 6)).toInt (sI H0 h0 (X.1.2 4 7)).toInt (sI H21 h0 (X.1.2 4 7)).toInt → (sI H21 h0 (X.1.2 4 7)).toInt ≤ (sI H21 h0 (X.1.2 4 6)).toInt → Conf X Γ H21 → va_S (AΓ Γ) H0 H21 locs21 → Kp X Γ [3, 29, 31, 32, 33, 34, 37, 39, 40, 50, 51, 52, 53, 54, 55, 56, 57, 58, 59, 60, 61, 62, 63, 65, 67, 68, 69, 70, 71, 72] H0 H21 → (∀ j, sI H21 tp j = sI H0 tp j) → lv_has ls 1 [(0, .ref h0)] → W p l e (rmL 1) s m args below meth c H21 locs21 0 0 Qz (F0 m 0 ls []) := by
    intro n21
    induction n21 with
    | zero => intro H21 locs21 ls hm21 iv21_0 iv21_1 iv21_2 iv21_3 hC21 hS21 hKp21 tpt hl; exact absurd hm21 (Nat.not_lt_zero _)
    | succ n21 ih21 =>
      intro H21 locs21 ls hm21 iv21_0 iv21_1 iv21_2 iv21_3 hC21 hS21 hKp21 tpt hl
      have hsp := iv21_2
      refine lv_aload_n hx hb dX4_passBlanks_0 rfl (lv_at hl 0 rfl) ?_
      refine q_getI E hC21 g0 fa_RX4_51 dX4_passBlanks_1 (fun v22 ev22 _ _ => ?_)
      have m23 : (sI H21 h0 (X.1.2 4 7)).toInt = v22.toInt := (congrArg Int32.toInt ev22).trans rfl
      refine lv_aload_n hx hb dX4_passBlanks_4 rfl (lv_at hl 0 rfl) ?_
      refine q_getI E hC21 g0 fa_RX4_48 dX4_passBlanks_5 (fun v24 ev24 _ _ => ?_)
      have m25 : (sI H21 h0 (X.1.2 4 6)).toInt = v24.toInt := (congrArg Int32.toInt ev24).trans rfl
      have c26 := i_rng v22; rw [show v22.toInt = v22.toInt from rfl] at c26
      have c27 := i_rng v24; rw [show v24.toInt = v24.toInt from rfl] at c27
      refine q_icmp_ge hx hb (a := v22.toInt) (b := v24.toInt) rfl rfl (tgt := 50) dX4_passBlanks_8 rfl (fun c28 => ?_) (fun c28 => ?_)
      · have hpost : SpZ isBl (bf H0 tp) (sI H0 h0 (X.1.2 4 6)).toInt (sI H0 h0 (X.1.2 4 7)).toInt (sI H21 h0 (X.1.2 4 7)).toInt := by first | exact ⟨hsp, fun q => absurd q.1 (by omega)⟩ | exact ⟨hsp, fun q => by have q2 := q.2; rw [hz1] at q2; unfold isBl at q2; omega⟩
        exact ret H21 locs21 _ _ dX4_passBlanks_50 ⟨hKp21, ⟨hpost, by omega, by omega, by omega⟩⟩ hC21 hS21
      · refine lv_aload_n hx hb dX4_passBlanks_11 rfl (lv_at hl 0 rfl) ?_
        refine lv_aload_n hx hb dX4_passBlanks_12 rfl (lv_at hl 0 rfl) ?_
        refine q_getI E hC21 g0 fa_RX4_51 dX4_passBlanks_13 (fun v29 ev29 _ _ => ?_)
        have qv29 := ev22.symm.trans ev29; subst qv29
        refine q_goIp (q_runV (As := [.int v22]) (rest := []) E hC21 hS21 (m_X4_byteAt l X Γ H21 hC21 h0 g0 v22 (a1 := v22.toInt) rfl tp ((kp_R hKp21 g0 (ci := 4) (k := 0) rfl (by decide) rfl).trans htp) gtp) cw_X4_byteAt cl_RX4_78 g0 ⟨rfl, rfl⟩ rfl hl.1 rfl (Nat.zero_le _) (by decide) dX4_passBlanks_16) hS21 (fun v30 locs30 hr30 hS30 => ?_)
        have f30_0 := hr30
        have hb1 : v30.toInt = bf H0 tp (v22.toInt : Int).toNat := BA.get f30_0 tpt (by omega) (by omega) (by omega)
        have hz1 : (sI H21 h0 (X.1.2 4 7)).toInt = v22.toInt := by omega
        have hst := fun hP => (hsp.cast hz1).step (by omega) (by omega) (show isBl (bf H0 tp (v22.toInt : Int).toNat) from hP)
        refine lv_bipush (v := 10) hx hb dX4_passBlanks_19 rfl ?_
        refine q_icmp_eq hx hb (a := v30.toInt) (b := 10) rfl (by decide) (tgt := 37) dX4_passBlanks_21 rfl (fun c31 => ?_) (fun c31 => ?_)
        · refine lv_aload_n hx hb dX4_passBlanks_37 rfl (lv_at hl 0 rfl) ?_
          refine lv_dup hx hb dX4_passBlanks_38 rfl ?_
          refine q_getI E hC21 g0 fa_RX4_51 dX4_passBlanks_39 (fun v32 ev32 _ _ => ?_)
          have qv32 := ev22.symm.trans ev32; subst qv32
          refine lv_iconst (v := 1) hx hb dX4_passBlanks_42 rfl ?_
          refine lv_iadd hx hb dX4_passBlanks_43 (lv_topi (fun v33 ev33 => ?_))
          have ev33i : v33.toInt = (v22.toInt + 1) := i_add ev33 rfl (by decide) (by omega) (by omega)
          refine q_put E hC21 hS30 g0 fp_RX4_51 tv_F rfl rfl dX4_passBlanks_44 (fun H34 locs34 hC34 hS34 U34 => ?_)
          have hKp34 := Kp.upO E g0 fp_RX4_51 rfl U34 hKp21
          have e35 := up_I U34
          have m36 : (sI H34 h0 (X.1.2 4 7)).toInt = (v22.toInt + 1) := (congrArg Int32.toInt e35).trans ev33i
          replace tpt : ∀ j, sI H34 tp j = sI H0 tp j := fun j => (up_nI U34 (ne_k gtp g0 (by decide))).trans (tpt j)
          have m37 : (sI H34 h0 (X.1.2 4 6)).toInt = (sI H21 h0 (X.1.2 4 6)).toInt := congrArg Int32.toInt (up_nI U34 (ne_f E 4 6 7 rfl (by decide) (by decide) (by decide)))
          refine lv_goto (tgt := 0) hx hb dX4_passBlanks_47 rfl ?_
          have m1_length : (sI H21 h0 (X.1.2 4 6)).toInt = v24.toInt := (congrArg Int32.toInt ev24).trans rfl
          have e38 := (up_nI U34 (ne_f E 4 6 7 rfl (by decide) (by decide) (by decide))).trans ev24
          have m2_length : (sI H34 h0 (X.1.2 4 6)).toInt = v24.toInt := (congrArg Int32.toInt e38).trans rfl
          have m1_next : (sI H21 h0 (X.1.2 4 7)).toInt = v22.toInt := (congrArg Int32.toInt ev22).trans rfl
          have m2_next : (sI H34 h0 (X.1.2 4 7)).toInt = (v22.toInt + 1) := (congrArg Int32.toInt e35).trans ev33i
          exact ih21 H34 locs34 ls (ms_lt hm21 (by omega) (by omega)) (by omega) (by omega) (SpP.cast (hst (by unfold isBl; omega)) (by omega)) (by omega) hC34 hS34 hKp34 tpt hl
        · refine lv_aload_n hx hb dX4_passBlanks_24 rfl (lv_at hl 0 rfl) ?_
          refine lv_aload_n hx hb dX4_passBlanks_25 rfl (lv_at hl 0 rfl) ?_
          refine q_getI E hC21 g0 fa_RX4_51 dX4_passBlanks_26 (fun v39 ev39 _ _ => ?_)
          have qv39 := ev22.symm.trans ev39; subst qv39
          refine q_goIp (q_runV (As := [.int v22]) (rest := []) E hC21 hS30 (m_X4_byteAt l X Γ H21 hC21 h0 g0 v22 (a1 := v22.toInt) rfl tp ((kp_R hKp21 g0 (ci := 4) (k := 0) rfl (by decide) rfl).trans htp) gtp) cw_X4_byteAt cl_RX4_78 g0 ⟨rfl, rfl⟩ rfl hl.1 rfl (Nat.zero_le _) (by decide) dX4_passBlanks_29) hS30 (fun v40 locs40 hr40 hS40 => ?_)
          have f40_0 := hr40
          have hb2 : v40.toInt = bf H0 tp (v22.toInt : Int).toNat := BA.get f40_0 tpt (by omega) (by omega) (by omega)
          refine lv_bipush (v := 32) hx hb dX4_passBlanks_32 rfl ?_
          refine q_icmp_ne hx hb (a := v40.toInt) (b := 32) rfl (by decide) (tgt := 50) dX4_passBlanks_34 rfl (fun c41 => ?_) (fun c41 => ?_)
          · have hpost : SpZ isBl (bf H0 tp) (sI H0 h0 (X.1.2 4 6)).toInt (sI H0 h0 (X.1.2 4 7)).toInt (sI H21 h0 (X.1.2 4 7)).toInt := by first | exact ⟨hsp, fun q => absurd q.1 (by omega)⟩ | exact ⟨hsp, fun q => by have q2 := q.2; rw [hz1] at q2; unfold isBl at q2; omega⟩
            exact ret H21 locs40 _ _ dX4_passBlanks_50 ⟨hKp21, ⟨hpost, by omega, by omega, by omega⟩⟩ hC21 hS40
          · refine lv_aload_n hx hb dX4_passBlanks_37 rfl (lv_at hl 0 rfl) ?_
            refine lv_dup hx hb dX4_passBlanks_38 rfl ?_
            refine q_getI E hC21 g0 fa_RX4_51 dX4_passBlanks_39 (fun v42 ev42 _ _ => ?_)
            have qv42 := ev22.symm.trans ev42; subst qv42
            refine lv_iconst (v := 1) hx hb dX4_passBlanks_42 rfl ?_
            refine lv_iadd hx hb dX4_passBlanks_43 (lv_topi (fun v43 ev43 => ?_))
            have ev43i : v43.toInt = (v22.toInt + 1) := i_add ev43 rfl (by decide) (by omega) (by omega)
            refine q_put E hC21 hS40 g0 fp_RX4_51 tv_F rfl rfl dX4_passBlanks_44 (fun H44 locs44 hC44 hS44 U44 => ?_)
            have hKp44 := Kp.upO E g0 fp_RX4_51 rfl U44 hKp21
            have e45 := up_I U44
            have m46 : (sI H44 h0 (X.1.2 4 7)).toInt = (v22.toInt + 1) := (congrArg Int32.toInt e45).trans ev43i
            replace tpt : ∀ j, sI H44 tp j = sI H0 tp j := fun j => (up_nI U44 (ne_k gtp g0 (by decide))).trans (tpt j)
            have m47 : (sI H44 h0 (X.1.2 4 6)).toInt = (sI H21 h0 (X.1.2 4 6)).toInt := congrArg Int32.toInt (up_nI U44 (ne_f E 4 6 7 rfl (by decide) (by decide) (by decide)))
            refine lv_goto (tgt := 0) hx hb dX4_passBlanks_47 rfl ?_
            have m1_length : (sI H21 h0 (X.1.2 4 6)).toInt = v24.toInt := (congrArg Int32.toInt ev24).trans rfl
            have e48 := (up_nI U44 (ne_f E 4 6 7 rfl (by decide) (by decide) (by decide))).trans ev24
            have m2_length : (sI H44 h0 (X.1.2 4 6)).toInt = v24.toInt := (congrArg Int32.toInt e48).trans rfl
            have m1_next : (sI H21 h0 (X.1.2 4 7)).toInt = v22.toInt := (congrArg Int32.toInt ev22).trans rfl
            have m2_next : (sI H44 h0 (X.1.2 4 7)).toInt = (v22.toInt + 1) := (congrArg Int32.toInt e45).trans ev43i
            exact ih21 H44 locs44 ls (ms_lt hm21 (by omega) (by omega)) (by omega) (by omega) (SpP.cast (hst (by unfold isBl; omega)) (by omega)) (by omega) hC44 hS44 hKp44 tpt hl
  exact L0 _ H0 [] ls (Nat.lt_succ_self _) (by omega) (by omega) (SpP.nil) (by omega) hC0 hS0 hKp0 tpt hl
set_option maxRecDepth 100000 in
set_option maxHeartbeats 4000000 in
theorem m_X4_isLetter (l : Launch) (X : xW) (Γ : Nat → Option Nat) (H0 : Heap) (hC0 : Conf X Γ H0) (p0 : Int32) {a0 : Int} (e0 : p0.toInt = a0) : Ctr l X Γ yX4_isLetter cX4_isLetter 1 (some .boolean) 0 [.int p0] H0 (QI X Γ (fun v H1 => H1 = H0 ∧ ((v = 1 ∧ (isLt a0)) ∨ (v = 0 ∧ (¬ isLt a0))))) := by
  refine q_enterZ (own := "SnowForts$Reader") (by decide) rfl (Nat.le_of_ble_eq_true rfl) ?_
  intro p e s m args below meth c ls Qz E hl ret hS0
  have hx := E.1; have hb := E.2.1
  have hl : lv_has ls 1 [(0, .int p0)] := hl
  refine lv_iload_n hx hb dX4_isLetter_0 rfl (lv_at hl 0 rfl) ?_
  refine lv_bipush (v := 97) hx hb dX4_isLetter_1 rfl ?_
  refine q_icmp_lt hx hb (a := a0) (b := 97) e0 (by decide) (tgt := 16) dX4_isLetter_3 rfl (fun c21 => ?_) (fun c21 => ?_)
  · refine lv_iconst (v := 0) hx hb dX4_isLetter_16 rfl ?_
    exact ret 0 H0 [] _ _ dX4_isLetter_17 (Or.inl rfl) ⟨rfl, Or.inr ⟨rfl, (by unfold isLt; omega)⟩⟩ hC0 hS0
  · refine lv_iload_n hx hb dX4_isLetter_6 rfl (lv_at hl 0 rfl) ?_
    refine lv_bipush (v := 122) hx hb dX4_isLetter_7 rfl ?_
    refine q_icmp_gt hx hb (a := a0) (b := 122) e0 (by decide) (tgt := 16) dX4_isLetter_9 rfl (fun c22 => ?_) (fun c22 => ?_)
    · refine lv_iconst (v := 0) hx hb dX4_isLetter_16 rfl ?_
      exact ret 0 H0 [] _ _ dX4_isLetter_17 (Or.inl rfl) ⟨rfl, Or.inr ⟨rfl, (by unfold isLt; omega)⟩⟩ hC0 hS0
    · refine lv_iconst (v := 1) hx hb dX4_isLetter_12 rfl ?_
      refine lv_goto (tgt := 17) hx hb dX4_isLetter_13 rfl ?_
      exact ret 1 H0 [] _ _ dX4_isLetter_17 (Or.inr rfl) ⟨rfl, Or.inl ⟨rfl, (by unfold isLt; omega)⟩⟩ hC0 hS0
set_option maxRecDepth 100000 in
set_option maxHeartbeats 4000000 in
theorem m_X4_isDigit (l : Launch) (X : xW) (Γ : Nat → Option Nat) (H0 : Heap) (hC0 : Conf X Γ H0) (p0 : Int32) {a0 : Int} (e0 : p0.toInt = a0) : Ctr l X Γ yX4_isDigit cX4_isDigit 1 (some .boolean) 0 [.int p0] H0 (QI X Γ (fun v H1 => H1 = H0 ∧ ((v = 1 ∧ (isDg a0)) ∨ (v = 0 ∧ (¬ isDg a0))))) := by
  refine q_enterZ (own := "SnowForts$Reader") (by decide) rfl (Nat.le_of_ble_eq_true rfl) ?_
  intro p e s m args below meth c ls Qz E hl ret hS0
  have hx := E.1; have hb := E.2.1
  have hl : lv_has ls 1 [(0, .int p0)] := hl
  refine lv_iload_n hx hb dX4_isDigit_0 rfl (lv_at hl 0 rfl) ?_
  refine lv_bipush (v := 48) hx hb dX4_isDigit_1 rfl ?_
  refine q_icmp_lt hx hb (a := a0) (b := 48) e0 (by decide) (tgt := 16) dX4_isDigit_3 rfl (fun c21 => ?_) (fun c21 => ?_)
  · refine lv_iconst (v := 0) hx hb dX4_isDigit_16 rfl ?_
    exact ret 0 H0 [] _ _ dX4_isDigit_17 (Or.inl rfl) ⟨rfl, Or.inr ⟨rfl, (by unfold isDg; omega)⟩⟩ hC0 hS0
  · refine lv_iload_n hx hb dX4_isDigit_6 rfl (lv_at hl 0 rfl) ?_
    refine lv_bipush (v := 57) hx hb dX4_isDigit_7 rfl ?_
    refine q_icmp_gt hx hb (a := a0) (b := 57) e0 (by decide) (tgt := 16) dX4_isDigit_9 rfl (fun c22 => ?_) (fun c22 => ?_)
    · refine lv_iconst (v := 0) hx hb dX4_isDigit_16 rfl ?_
      exact ret 0 H0 [] _ _ dX4_isDigit_17 (Or.inl rfl) ⟨rfl, Or.inr ⟨rfl, (by unfold isDg; omega)⟩⟩ hC0 hS0
    · refine lv_iconst (v := 1) hx hb dX4_isDigit_12 rfl ?_
      refine lv_goto (tgt := 17) hx hb dX4_isDigit_13 rfl ?_
      exact ret 1 H0 [] _ _ dX4_isDigit_17 (Or.inr rfl) ⟨rfl, Or.inl ⟨rfl, (by unfold isDg; omega)⟩⟩ hC0 hS0
set_option maxRecDepth 100000 in
set_option maxHeartbeats 4000000 in
theorem m_X4_kindHere (l : Launch) (X : xW) (Γ : Nat → Option Nat) (H0 : Heap) (hC0 : Conf X Γ H0) (h0 : Nat) (g0 : Γ h0 = some 2) (tp : Nat) (htp : sR H0 h0 (X.1.2 4 0) = some tp) (gtp : Γ tp = some 25) (r0 : 0 ≤ (sI H0 h0 (X.1.2 4 7)).toInt) (r1 : (sI H0 h0 (X.1.2 4 6)).toInt ≤ 900) (r2 : (sI H0 h0 (X.1.2 4 7)).toInt ≤ (sI H0 h0 (X.1.2 4 6)).toInt) : Ctr l X Γ yX4_kindHere cX4_kindHere 2 (some .int) 1 [.ref h0] H0 (QI X Γ (fun v H1 => H1 = H0 ∧ ((((sI H0 h0 (X.1.2 4 6)).toInt ≤ (sI H0 h0 (X.1.2 4 7)).toInt ∧ v.toInt = 0) ∨ ((sI H0 h0 (X.1.2 4 7)).toInt < (sI H0 h0 (X.1.2 4 6)).toInt ∧ KHR (bf H0 tp ((sI H0 h0 (X.1.2 4 7)).toInt).toNat) v.toInt))))) := by
  refine q_enterI (own := "SnowForts$Reader") (by decide) rfl (Nat.le_of_ble_eq_true rfl) ?_
  intro p e s m args below meth c ls Qz E hl ret hS0
  have hx := E.1; have hb := E.2.1
  have hl : lv_has ls 2 [(0, .ref h0)] := hl
  have tpt : ∀ j, sI H0 tp j = sI H0 tp j := fun _ => rfl
  refine lv_aload_n hx hb dX4_kindHere_0 rfl (lv_at hl 0 rfl) ?_
  refine q_getI E hC0 g0 fa_RX4_51 dX4_kindHere_1 (fun v21 ev21 _ _ => ?_)
  have m22 : (sI H0 h0 (X.1.2 4 7)).toInt = v21.toInt := (congrArg Int32.toInt ev21).trans rfl
  refine lv_aload_n hx hb dX4_kindHere_4 rfl (lv_at hl 0 rfl) ?_
  refine q_getI E hC0 g0 fa_RX4_48 dX4_kindHere_5 (fun v23 ev23 _ _ => ?_)
  have m24 : (sI H0 h0 (X.1.2 4 6)).toInt = v23.toInt := (congrArg Int32.toInt ev23).trans rfl
  have c25 := i_rng v21; rw [show v21.toInt = v21.toInt from rfl] at c25
  have c26 := i_rng v23; rw [show v23.toInt = v23.toInt from rfl] at c26
  refine q_icmp_lt hx hb (a := v21.toInt) (b := v23.toInt) rfl rfl (tgt := 13) dX4_kindHere_8 rfl (fun c27 => ?_) (fun c27 => ?_)
  · refine lv_aload_n hx hb dX4_kindHere_13 rfl (lv_at hl 0 rfl) ?_
    refine lv_aload_n hx hb dX4_kindHere_14 rfl (lv_at hl 0 rfl) ?_
    refine q_getI E hC0 g0 fa_RX4_51 dX4_kindHere_15 (fun v28 ev28 _ _ => ?_)
    have qv28 := ev21.symm.trans ev28; subst qv28
    refine q_goIp (q_runV (As := [.int v21]) (rest := []) E hC0 hS0 (m_X4_byteAt l X Γ H0 hC0 h0 g0 v21 (a1 := v21.toInt) rfl tp htp gtp) cw_X4_byteAt cl_RX4_78 g0 ⟨rfl, rfl⟩ rfl hl.1 rfl (Nat.zero_le _) (by decide) dX4_kindHere_18) hS0 (fun v29 locs29 hr29 hS29 => ?_)
    have f29_0 := hr29
    have hb0 : v29.toInt = bf H0 tp (v21.toInt : Int).toNat := BA.get f29_0 tpt (by omega) (by omega) (by omega)
    have hz1 : (sI H0 h0 (X.1.2 4 7)).toInt = v21.toInt := by omega
    have hb1 : v29.toInt = bf H0 tp ((sI H0 h0 (X.1.2 4 7)).toInt).toNat := by rw [hz1]; exact hb0
    refine lv_istore_n hx hb dX4_kindHere_21 rfl hl (by decide) rfl (fun ls hl => ?_)
    replace hl : lv_has ls 2 [(1, .int v29), (0, .ref h0)] := hl
    refine lv_iload_n hx hb dX4_kindHere_22 rfl (lv_at hl 0 rfl) ?_
    refine q_goIp (q_runS (As := [.int v29]) (rest := []) E hS29 (m_X4_isLetter l X Γ H0 hC0 v29 (a0 := v29.toInt) rfl) cw_X4_isLetter cl_RX4_82 rfl hl.1 rfl (Nat.zero_le _) (by decide) dX4_kindHere_23) hS29 (fun v30 locs30 hr30 hS30 => ?_)
    rcases hr30 with ⟨rfl, hil⟩ | ⟨rfl, hil⟩
    · refine q_if_eq hx hb (a := 1) (by decide) (tgt := 31) dX4_kindHere_26 rfl (fun c31 => absurd c31 (by omega)) (fun c31 => ?_)
      refine lv_iconst (v := 2) hx hb dX4_kindHere_29 rfl ?_
      have hpost : ((sI H0 h0 (X.1.2 4 6)).toInt ≤ (sI H0 h0 (X.1.2 4 7)).toInt ∧ (2 : Int32).toInt = 0) ∨ ((sI H0 h0 (X.1.2 4 7)).toInt < (sI H0 h0 (X.1.2 4 6)).toInt ∧ KHR (bf H0 tp ((sI H0 h0 (X.1.2 4 7)).toInt).toNat) (2 : Int32).toInt) := by have hcc : (2 : Int32).toInt = 2 := (show (2 : Int32).toInt = 2 from by decide); first | exact Or.inl ⟨by omega, by omega⟩ | exact Or.inr ⟨by omega, KHR.lt hb1 (by assumption) (by omega)⟩ | exact Or.inr ⟨by omega, KHR.dg hb1 (by assumption) (by assumption) (by omega)⟩ | exact Or.inr ⟨by omega, KHR.sg hb1 (by assumption) (by assumption) (by omega) (by omega) (by omega)⟩ | exact Or.inr ⟨by omega, KHR.no hb1 (by assumption) (by assumption) (by omega) (by omega)⟩
      have c32 : (2 : Int32).toInt = 2 := (by decide)
      exact ret 2 H0 locs30 _ _ dX4_kindHere_30 ⟨rfl, hpost⟩ hC0 hS30
    · refine q_if_eq hx hb (a := 0) (by decide) (tgt := 31) dX4_kindHere_26 rfl (fun c33 => ?_) (fun c33 => absurd c33 (by omega))
      refine lv_iload_n hx hb dX4_kindHere_31 rfl (lv_at hl 0 rfl) ?_
      refine q_goIp (q_runS (As := [.int v29]) (rest := []) E hS30 (m_X4_isDigit l X Γ H0 hC0 v29 (a0 := v29.toInt) rfl) cw_X4_isDigit cl_RX4_86 rfl hl.1 rfl (Nat.zero_le _) (by decide) dX4_kindHere_32) hS30 (fun v34 locs34 hr34 hS34 => ?_)
      rcases hr34 with ⟨rfl, hid⟩ | ⟨rfl, hid⟩
      · refine q_if_eq hx hb (a := 1) (by decide) (tgt := 40) dX4_kindHere_35 rfl (fun c35 => absurd c35 (by omega)) (fun c35 => ?_)
        refine lv_iconst (v := 3) hx hb dX4_kindHere_38 rfl ?_
        have hpost : ((sI H0 h0 (X.1.2 4 6)).toInt ≤ (sI H0 h0 (X.1.2 4 7)).toInt ∧ (3 : Int32).toInt = 0) ∨ ((sI H0 h0 (X.1.2 4 7)).toInt < (sI H0 h0 (X.1.2 4 6)).toInt ∧ KHR (bf H0 tp ((sI H0 h0 (X.1.2 4 7)).toInt).toNat) (3 : Int32).toInt) := by have hcc : (3 : Int32).toInt = 3 := (show (3 : Int32).toInt = 3 from by decide); first | exact Or.inl ⟨by omega, by omega⟩ | exact Or.inr ⟨by omega, KHR.lt hb1 (by assumption) (by omega)⟩ | exact Or.inr ⟨by omega, KHR.dg hb1 (by assumption) (by assumption) (by omega)⟩ | exact Or.inr ⟨by omega, KHR.sg hb1 (by assumption) (by assumption) (by omega) (by omega) (by omega)⟩ | exact Or.inr ⟨by omega, KHR.no hb1 (by assumption) (by assumption) (by omega) (by omega)⟩
        have c36 : (3 : Int32).toInt = 3 := (by decide)
        exact ret 3 H0 locs34 _ _ dX4_kindHere_39 ⟨rfl, hpost⟩ hC0 hS34
      · refine q_if_eq hx hb (a := 0) (by decide) (tgt := 40) dX4_kindHere_35 rfl (fun c37 => ?_) (fun c37 => absurd c37 (by omega))
        refine lv_iload_n hx hb dX4_kindHere_40 rfl (lv_at hl 0 rfl) ?_
        refine lv_bipush (v := 59) hx hb dX4_kindHere_41 rfl ?_
        refine q_icmp_lt hx hb (a := v29.toInt) (b := 59) rfl (by decide) (tgt := 56) dX4_kindHere_43 rfl (fun c38 => ?_) (fun c38 => ?_)
        · refine lv_iconst (v := 1) hx hb dX4_kindHere_56 rfl ?_
          have hpost : ((sI H0 h0 (X.1.2 4 6)).toInt ≤ (sI H0 h0 (X.1.2 4 7)).toInt ∧ (1 : Int32).toInt = 0) ∨ ((sI H0 h0 (X.1.2 4 7)).toInt < (sI H0 h0 (X.1.2 4 6)).toInt ∧ KHR (bf H0 tp ((sI H0 h0 (X.1.2 4 7)).toInt).toNat) (1 : Int32).toInt) := by have hcc : (1 : Int32).toInt = 1 := (show (1 : Int32).toInt = 1 from by decide); first | exact Or.inl ⟨by omega, by omega⟩ | exact Or.inr ⟨by omega, KHR.lt hb1 (by assumption) (by omega)⟩ | exact Or.inr ⟨by omega, KHR.dg hb1 (by assumption) (by assumption) (by omega)⟩ | exact Or.inr ⟨by omega, KHR.sg hb1 (by assumption) (by assumption) (by omega) (by omega) (by omega)⟩ | exact Or.inr ⟨by omega, KHR.no hb1 (by assumption) (by assumption) (by omega) (by omega)⟩
          have c39 : (1 : Int32).toInt = 1 := (by decide)
          exact ret 1 H0 locs34 _ _ dX4_kindHere_57 ⟨rfl, hpost⟩ hC0 hS34
        · refine lv_iload_n hx hb dX4_kindHere_46 rfl (lv_at hl 0 rfl) ?_
          refine lv_bipush (v := 62) hx hb dX4_kindHere_47 rfl ?_
          refine q_icmp_gt hx hb (a := v29.toInt) (b := 62) rfl (by decide) (tgt := 56) dX4_kindHere_49 rfl (fun c40 => ?_) (fun c40 => ?_)
          · refine lv_iconst (v := 1) hx hb dX4_kindHere_56 rfl ?_
            have hpost : ((sI H0 h0 (X.1.2 4 6)).toInt ≤ (sI H0 h0 (X.1.2 4 7)).toInt ∧ (1 : Int32).toInt = 0) ∨ ((sI H0 h0 (X.1.2 4 7)).toInt < (sI H0 h0 (X.1.2 4 6)).toInt ∧ KHR (bf H0 tp ((sI H0 h0 (X.1.2 4 7)).toInt).toNat) (1 : Int32).toInt) := by have hcc : (1 : Int32).toInt = 1 := (show (1 : Int32).toInt = 1 from by decide); first | exact Or.inl ⟨by omega, by omega⟩ | exact Or.inr ⟨by omega, KHR.lt hb1 (by assumption) (by omega)⟩ | exact Or.inr ⟨by omega, KHR.dg hb1 (by assumption) (by assumption) (by omega)⟩ | exact Or.inr ⟨by omega, KHR.sg hb1 (by assumption) (by assumption) (by omega) (by omega) (by omega)⟩ | exact Or.inr ⟨by omega, KHR.no hb1 (by assumption) (by assumption) (by omega) (by omega)⟩
            have c41 : (1 : Int32).toInt = 1 := (by decide)
            exact ret 1 H0 locs34 _ _ dX4_kindHere_57 ⟨rfl, hpost⟩ hC0 hS34
          · refine lv_iload_n hx hb dX4_kindHere_52 rfl (lv_at hl 0 rfl) ?_
            refine lv_goto (tgt := 57) hx hb dX4_kindHere_53 rfl ?_
            have hpost : ((sI H0 h0 (X.1.2 4 6)).toInt ≤ (sI H0 h0 (X.1.2 4 7)).toInt ∧ (v29 : Int32).toInt = 0) ∨ ((sI H0 h0 (X.1.2 4 7)).toInt < (sI H0 h0 (X.1.2 4 6)).toInt ∧ KHR (bf H0 tp ((sI H0 h0 (X.1.2 4 7)).toInt).toNat) (v29 : Int32).toInt) := by have hcc : (v29 : Int32).toInt = v29.toInt := rfl; first | exact Or.inl ⟨by omega, by omega⟩ | exact Or.inr ⟨by omega, KHR.lt hb1 (by assumption) (by omega)⟩ | exact Or.inr ⟨by omega, KHR.dg hb1 (by assumption) (by assumption) (by omega)⟩ | exact Or.inr ⟨by omega, KHR.sg hb1 (by assumption) (by assumption) (by omega) (by omega) (by omega)⟩ | exact Or.inr ⟨by omega, KHR.no hb1 (by assumption) (by assumption) (by omega) (by omega)⟩
            have c42 : v29.toInt = v29.toInt := rfl
            exact ret v29 H0 locs34 _ _ dX4_kindHere_57 ⟨rfl, hpost⟩ hC0 hS34
  · refine lv_iconst (v := 0) hx hb dX4_kindHere_11 rfl ?_
    have hpost : ((sI H0 h0 (X.1.2 4 6)).toInt ≤ (sI H0 h0 (X.1.2 4 7)).toInt ∧ (0 : Int32).toInt = 0) ∨ ((sI H0 h0 (X.1.2 4 7)).toInt < (sI H0 h0 (X.1.2 4 6)).toInt ∧ KHR (bf H0 tp ((sI H0 h0 (X.1.2 4 7)).toInt).toNat) (0 : Int32).toInt) := by have hcc : (0 : Int32).toInt = 0 := (show (0 : Int32).toInt = 0 from by decide); first | exact Or.inl ⟨by omega, by omega⟩ | exact Or.inr ⟨by omega, KHR.lt hb1 (by assumption) (by omega)⟩ | exact Or.inr ⟨by omega, KHR.dg hb1 (by assumption) (by assumption) (by omega)⟩ | exact Or.inr ⟨by omega, KHR.sg hb1 (by assumption) (by assumption) (by omega) (by omega) (by omega)⟩ | exact Or.inr ⟨by omega, KHR.no hb1 (by assumption) (by assumption) (by omega) (by omega)⟩
    have c43 : (0 : Int32).toInt = 0 := (by decide)
    exact ret 0 H0 [] _ _ dX4_kindHere_12 ⟨rfl, hpost⟩ hC0 hS0
set_option maxRecDepth 100000 in
set_option maxHeartbeats 4000000 in
theorem m_X4_passWord (l : Launch) (X : xW) (Γ : Nat → Option Nat) (H0 : Heap) (hC0 : Conf X Γ H0) (h0 : Nat) (g0 : Γ h0 = some 2) (tp : Nat) (htp : sR H0 h0 (X.1.2 4 0) = some tp) (gtp : Γ tp = some 25) (r0 : 0 ≤ (sI H0 h0 (X.1.2 4 7)).toInt) (r1 : (sI H0 h0 (X.1.2 4 6)).toInt ≤ 900) (r2 : (sI H0 h0 (X.1.2 4 7)).toInt ≤ (sI H0 h0 (X.1.2 4 6)).toInt) : Ctr l X Γ yX4_passWord cX4_passWord 4 (some .long) 1 [.ref h0] H0 (QJ X Γ (fun v H1 => Kp X Γ [3, 29, 31, 32, 33, 34, 37, 39, 40, 50, 51, 52, 53, 54, 55, 56, 57, 58, 59, 60, 61, 62, 63, 65, 67, 68, 69, 70, 71, 72] H0 H1 ∧ ((SpZ isLt (bf H0 tp) (sI H0 h0 (X.1.2 4 6)).toInt (sI H0 h0 (X.1.2 4 7)).toInt (sI H1 h0 (X.1.2 4 7)).toInt) ∧ ((sI H1 h0 (X.1.2 4 6)).toInt = (sI H0 h0 (X.1.2 4 6)).toInt) ∧ ((sI H0 h0 (X.1.2 4 7)).toInt ≤ (sI H1 h0 (X.1.2 4 7)).toInt) ∧ ((sI H1 h0 (X.1.2 4 7)).toInt ≤ (sI H1 h0 (X.1.2 4 6)).toInt) ∧ (v.toInt = if (sI H1 h0 (X.1.2 4 7)).toInt - (sI H0 h0 (X.1.2 4 7)).toInt ≤ 8 then cdN 27 (bf H0 tp) ((sI H0 h0 (X.1.2 4 7)).toInt).toNat ((sI H1 h0 (X.1.2 4 7)).toInt - (sI H0 h0 (X.1.2 4 7)).toInt).toNat else 0)))) := by
  refine q_enterJ (own := "SnowForts$Reader") (by decide) rfl (Nat.le_of_ble_eq_true rfl) ?_
  intro p e s m args below meth c ls Qz E hl ret hS0
  have hx := E.1; have hb := E.2.1
  have hKp0 : Kp X Γ [3, 29, 31, 32, 33, 34, 37, 39, 40, 50, 51, 52, 53, 54, 55, 56, 57, 58, 59, 60, 61, 62, 63, 65, 67, 68, 69, 70, 71, 72] H0 H0 := Kp.rf
  have hl : lv_has ls 4 [(0, .ref h0)] := hl
  have tpt : ∀ j, sI H0 tp j = sI H0 tp j := fun _ => rfl
  refine lv_aload_n hx hb dX4_passWord_0 rfl (lv_at hl 0 rfl) ?_
  refine q_getI E hC0 g0 fa_RX4_51 dX4_passWord_1 (fun v21 ev21 _ _ => ?_)
  have m22 : (sI H0 h0 (X.1.2 4 7)).toInt = v21.toInt := (congrArg Int32.toInt ev21).trans rfl
  refine lv_istore_n hx hb dX4_passWord_4 rfl hl (by decide) rfl (fun ls hl => ?_)
  replace hl : lv_has ls 4 [(1, .int v21), (0, .ref h0)] := hl
  refine lv_lconst (v := 0) hx hb dX4_passWord_5 rfl ?_
  refine lv_lstore_n hx hb dX4_passWord_6 rfl hl (by decide) rfl (fun ls hl => ?_)
  replace hl : lv_has ls 4 [(2, .long 0), (1, .int v21), (0, .ref h0)] := hl
  have L7 : ∀ (n24 : Nat) (H24 : Heap) (locs24 : List Loc) (v23 : Int64) (z23 : Int) (ls : Array Slot), ((sI H24 h0 (X.1.2 4 6)).toInt - (sI H24 h0 (X.1.2 4 7)).toInt).toNat < n24 → v23.toInt = z23 → (sI H0 h0 (X.1.2 4 7)).toInt ≤ (sI H24 h0 (X.1.2 4 7)).toInt → (sI H24 h0 (X.1.2 4 6)).toInt = (sI H0 h0 (X.1.2 4 6)).toInt → v21.toInt = (sI H0 h0 (X.1.2 4 7)).toInt → SpP isLt (bf H0 tp) (sI H0 h0 (X.1.2 4 6)).toInt (sI H0 h0 (X.1.2 4 7)).toInt (sI H24 h0 (X.1.2 4 7)).toInt → PWI (bf H0 tp) (sI H0 h0 (X.1.2 4 7)).toInt (sI H24 h0 (X.1.2 4 7)).toInt z23 → (sI H24 h0 (X.1.2 4 7)).toInt ≤ (sI H24 h0 (X.1.2 4 6)).toInt → Conf X Γ H24 → va_S (AΓ Γ) H0 H24 locs24 → Kp X Γ [3, 29, 31, 32, 33, 34, 37, 39, 40, 50, 51, 52, 53, 54, 55, 56, 57, 58, 59, 60, 61, 62, 63, 65, 67, 68, 69, 70, 71, 72] H0 H24 → (∀ j, sI H24 tp j = sI H0 tp j) → lv_has ls 4 [(2, .long v23), (1, .int v21), (0, .ref h0)] → W p l e (rmL 1) s m args below meth c H24 locs24 0 0 Qz (F0 m 7 ls []) := by
    intro n24
    induction n24 with
    | zero => intro H24 locs24 v23 z23 ls hm24 ev23 iv24_0 iv24_1 iv24_2 iv24_3 iv24_4 iv24_5 hC24 hS24 hKp24 tpt hl; exact absurd hm24 (Nat.not_lt_zero _)
    | succ n24 ih24 =>
      intro H24 locs24 v23 z23 ls hm24 ev23 iv24_0 iv24_1 iv24_2 iv24_3 iv24_4 iv24_5 hC24 hS24 hKp24 tpt hl
      have hsp := iv24_3
      have hpi := iv24_4
      refine lv_aload_n hx hb dX4_passWord_7 rfl (lv_at hl 2 rfl) ?_
      refine q_getI E hC24 g0 fa_RX4_51 dX4_passWord_8 (fun v25 ev25 _ _ => ?_)
      have m26 : (sI H24 h0 (X.1.2 4 7)).toInt = v25.toInt := (congrArg Int32.toInt ev25).trans rfl
      refine lv_aload_n hx hb dX4_passWord_11 rfl (lv_at hl 2 rfl) ?_
      refine q_getI E hC24 g0 fa_RX4_48 dX4_passWord_12 (fun v27 ev27 _ _ => ?_)
      have m28 : (sI H24 h0 (X.1.2 4 6)).toInt = v27.toInt := (congrArg Int32.toInt ev27).trans rfl
      refine q_icmp_ge hx hb (a := v25.toInt) (b := v27.toInt) rfl rfl (tgt := 67) dX4_passWord_15 rfl (fun c29 => ?_) (fun c29 => ?_)
      · refine lv_aload_n hx hb dX4_passWord_67 rfl (lv_at hl 2 rfl) ?_
        refine q_getI E hC24 g0 fa_RX4_51 dX4_passWord_68 (fun v30 ev30 _ _ => ?_)
        have qv30 := ev25.symm.trans ev30; subst qv30
        refine lv_iload_n hx hb dX4_passWord_71 rfl (lv_at hl 1 rfl) ?_
        refine lv_isub hx hb dX4_passWord_72 (lv_topi (fun v31 ev31 => ?_))
        have ev31i : v31.toInt = (v25.toInt - v21.toInt) := i_sub ev31 rfl rfl (by omega) (by omega)
        refine lv_bipush (v := 8) hx hb dX4_passWord_73 rfl ?_
        refine q_icmp_le hx hb (a := (v25.toInt - v21.toInt)) (b := 8) ev31i (by decide) (tgt := 82) dX4_passWord_75 rfl (fun c32 => ?_) (fun c32 => ?_)
        · refine lv_lload_n hx hb dX4_passWord_82 rfl (lv_at hl 0 rfl) ?_
          have hpost : SpZ isLt (bf H0 tp) (sI H0 h0 (X.1.2 4 6)).toInt (sI H0 h0 (X.1.2 4 7)).toInt (sI H24 h0 (X.1.2 4 7)).toInt := by first | exact ⟨hsp, fun q => absurd q.1 (by omega)⟩ | exact ⟨hsp, fun q => by have q2 := q.2; rw [hz1, ← hb1] at q2; exact absurd q2 (by assumption)⟩
          have hpw : (v23 : Int64).toInt = if (sI H24 h0 (X.1.2 4 7)).toInt - (sI H0 h0 (X.1.2 4 7)).toInt ≤ 8 then cdN 27 (bf H0 tp) ((sI H0 h0 (X.1.2 4 7)).toInt).toNat ((sI H24 h0 (X.1.2 4 7)).toInt - (sI H0 h0 (X.1.2 4 7)).toInt).toNat else 0 := by first | (rw [if_neg (by omega)]; decide) | (rw [if_pos (by omega)]; exact ev23.trans (hpi (by omega)))
          exact ret v23 H24 locs24 _ _ dX4_passWord_83 ⟨hKp24, ⟨hpost, by omega, by omega, by omega, hpw⟩⟩ hC24 hS24
        · refine lv_lconst (v := 0) hx hb dX4_passWord_78 rfl ?_
          refine lv_goto (tgt := 83) hx hb dX4_passWord_79 rfl ?_
          have hpost : SpZ isLt (bf H0 tp) (sI H0 h0 (X.1.2 4 6)).toInt (sI H0 h0 (X.1.2 4 7)).toInt (sI H24 h0 (X.1.2 4 7)).toInt := by first | exact ⟨hsp, fun q => absurd q.1 (by omega)⟩ | exact ⟨hsp, fun q => by have q2 := q.2; rw [hz1, ← hb1] at q2; exact absurd q2 (by assumption)⟩
          have hpw : (0 : Int64).toInt = if (sI H24 h0 (X.1.2 4 7)).toInt - (sI H0 h0 (X.1.2 4 7)).toInt ≤ 8 then cdN 27 (bf H0 tp) ((sI H0 h0 (X.1.2 4 7)).toInt).toNat ((sI H24 h0 (X.1.2 4 7)).toInt - (sI H0 h0 (X.1.2 4 7)).toInt).toNat else 0 := by first | (rw [if_neg (by omega)]; decide) | (rw [if_pos (by omega)]; exact (show (0 : Int64).toInt = 0 from by decide).trans (hpi (by omega)))
          exact ret 0 H24 locs24 _ _ dX4_passWord_83 ⟨hKp24, ⟨hpost, by omega, by omega, by omega, hpw⟩⟩ hC24 hS24
      · refine lv_aload_n hx hb dX4_passWord_18 rfl (lv_at hl 2 rfl) ?_
        refine lv_aload_n hx hb dX4_passWord_19 rfl (lv_at hl 2 rfl) ?_
        refine q_getI E hC24 g0 fa_RX4_51 dX4_passWord_20 (fun v33 ev33 _ _ => ?_)
        have qv33 := ev25.symm.trans ev33; subst qv33
        refine q_goIp (q_runV (As := [.int v25]) (rest := []) E hC24 hS24 (m_X4_byteAt l X Γ H24 hC24 h0 g0 v25 (a1 := v25.toInt) rfl tp ((kp_R hKp24 g0 (ci := 4) (k := 0) rfl (by decide) rfl).trans htp) gtp) cw_X4_byteAt cl_RX4_78 g0 ⟨rfl, rfl⟩ rfl hl.1 rfl (Nat.zero_le _) (by decide) dX4_passWord_23) hS24 (fun v34 locs34 hr34 hS34 => ?_)
        have f34_0 := hr34
        have hb1 : v34.toInt = bf H0 tp (v25.toInt : Int).toNat := BA.get f34_0 tpt (by omega) (by omega) (by omega)
        have hz1 : (sI H24 h0 (X.1.2 4 7)).toInt = v25.toInt := by omega
        refine q_goIp (q_runS (As := [.int v34]) (rest := []) E hS34 (m_X4_isLetter l X Γ H24 hC24 v34 (a0 := v34.toInt) rfl) cw_X4_isLetter cl_RX4_82 rfl hl.1 rfl (Nat.zero_le _) (by decide) dX4_passWord_26) hS34 (fun v35 locs35 hr35 hS35 => ?_)
        rcases hr35 with ⟨rfl, hil⟩ | ⟨rfl, hil⟩
        · refine q_if_eq hx hb (a := 1) (by decide) (tgt := 67) dX4_passWord_29 rfl (fun c36 => absurd c36 (by omega)) (fun c36 => ?_)
          have hlt := hb1 ▸ hil
          refine lv_lload_n hx hb dX4_passWord_32 rfl (lv_at hl 0 rfl) ?_
          refine lv_ldc2 (v := 27) hx hb E.2.2.2.1 (E.2.2.2.2.1 _ w_838) dX4_passWord_33 ?_
          refine lv_lmul hx hb dX4_passWord_36 (lv_topl (fun v37 ev37 => ?_))
          have qm1 := ev37; have qx := ev23
          refine lv_aload_n hx hb dX4_passWord_37 rfl (lv_at hl 2 rfl) ?_
          refine lv_aload_n hx hb dX4_passWord_38 rfl (lv_at hl 2 rfl) ?_
          refine q_getI E hC24 g0 fa_RX4_51 dX4_passWord_39 (fun v38 ev38 _ _ => ?_)
          have qv38 := ev25.symm.trans ev38; subst qv38
          refine q_goIp (q_runV (As := [.int v25]) (rest := [.long v37]) E hC24 hS35 (m_X4_byteAt l X Γ H24 hC24 h0 g0 v25 (a1 := v25.toInt) rfl tp ((kp_R hKp24 g0 (ci := 4) (k := 0) rfl (by decide) rfl).trans htp) gtp) cw_X4_byteAt cl_RX4_78 g0 ⟨rfl, rfl⟩ rfl hl.1 rfl (show _ ≤ _ from by simp [Value.category]) (by decide) dX4_passWord_42) hS35 (fun v39 locs39 hr39 hS39 => ?_)
          have f39_0 := hr39
          have hb2 : v39.toInt = bf H0 tp (v25.toInt : Int).toNat := BA.get f39_0 tpt (by omega) (by omega) (by omega)
          refine lv_i2l (v := v39.toInt64) hx hb dX4_passWord_45 rfl (lv_topl (fun v40 ev40 => ?_))
          have ev40i : v40.toInt = v39.toInt := l_ofi ev40.symm rfl
          refine lv_ladd hx hb dX4_passWord_46 (lv_topl (fun v41 ev41 => ?_))
          have qm2 := ev41; have qb2 := ev40i
          refine lv_ldc2 (v := 97) hx hb E.2.2.2.1 (E.2.2.2.2.1 _ w_839) dX4_passWord_47 ?_
          refine lv_lsub hx hb dX4_passWord_50 (lv_topl (fun v42 ev42 => ?_))
          have qm3 := ev42
          refine lv_lconst (v := 1) hx hb dX4_passWord_51 rfl ?_
          refine lv_ladd hx hb dX4_passWord_52 (lv_topl (fun v43 ev43 => ?_))
          have qm4 := ev43
          refine lv_lstore_n hx hb dX4_passWord_53 rfl hl (by decide) rfl (fun ls hl => ?_)
          replace hl : lv_has ls 4 [(2, .long v43), (1, .int v21), (0, .ref h0)] := hl
          have hps := pw_step qm1 qm2 qm3 qm4 qb2 (hb2 ▸ hlt) qx (hpi.cast hz1) hb2 (hsp.cast hz1) (by omega)
          refine lv_aload_n hx hb dX4_passWord_54 rfl (lv_at hl 2 rfl) ?_
          refine lv_dup hx hb dX4_passWord_55 rfl ?_
          refine q_getI E hC24 g0 fa_RX4_51 dX4_passWord_56 (fun v44 ev44 _ _ => ?_)
          have qv44 := ev25.symm.trans ev44; subst qv44
          refine lv_iconst (v := 1) hx hb dX4_passWord_59 rfl ?_
          refine lv_iadd hx hb dX4_passWord_60 (lv_topi (fun v45 ev45 => ?_))
          have ev45i : v45.toInt = (v25.toInt + 1) := i_add ev45 rfl (by decide) (by omega) (by omega)
          refine q_put E hC24 hS39 g0 fp_RX4_51 tv_F rfl rfl dX4_passWord_61 (fun H46 locs46 hC46 hS46 U46 => ?_)
          have hKp46 := Kp.upO E g0 fp_RX4_51 rfl U46 hKp24
          have e47 := up_I U46
          have m48 : (sI H46 h0 (X.1.2 4 7)).toInt = (v25.toInt + 1) := (congrArg Int32.toInt e47).trans ev45i
          replace tpt : ∀ j, sI H46 tp j = sI H0 tp j := fun j => (up_nI U46 (ne_k gtp g0 (by decide))).trans (tpt j)
          have m49 : (sI H46 h0 (X.1.2 4 6)).toInt = (sI H24 h0 (X.1.2 4 6)).toInt := congrArg Int32.toInt (up_nI U46 (ne_f E 4 6 7 rfl (by decide) (by decide) (by decide)))
          refine lv_goto (tgt := 7) hx hb dX4_passWord_64 rfl ?_
          have m1_length : (sI H24 h0 (X.1.2 4 6)).toInt = v27.toInt := (congrArg Int32.toInt ev27).trans rfl
          have e50 := (up_nI U46 (ne_f E 4 6 7 rfl (by decide) (by decide) (by decide))).trans ev27
          have m2_length : (sI H46 h0 (X.1.2 4 6)).toInt = v27.toInt := (congrArg Int32.toInt e50).trans rfl
          have m1_next : (sI H24 h0 (X.1.2 4 7)).toInt = v25.toInt := (congrArg Int32.toInt ev25).trans rfl
          have m2_next : (sI H46 h0 (X.1.2 4 7)).toInt = (v25.toInt + 1) := (congrArg Int32.toInt e47).trans ev45i
          exact ih24 H46 locs46 v43 (v43.toInt) ls (ms_lt hm24 (by omega) (by omega)) rfl (by omega) (by omega) (by omega) (SpP.cast ((hsp.cast hz1).step (by omega) (by omega) hlt) (by omega)) (PWI.cast hps (by omega)) (by omega) hC46 hS46 hKp46 tpt hl
        · refine q_if_eq hx hb (a := 0) (by decide) (tgt := 67) dX4_passWord_29 rfl (fun c51 => ?_) (fun c51 => absurd c51 (by omega))
          refine lv_aload_n hx hb dX4_passWord_67 rfl (lv_at hl 2 rfl) ?_
          refine q_getI E hC24 g0 fa_RX4_51 dX4_passWord_68 (fun v52 ev52 _ _ => ?_)
          have qv52 := ev25.symm.trans ev52; subst qv52
          refine lv_iload_n hx hb dX4_passWord_71 rfl (lv_at hl 1 rfl) ?_
          refine lv_isub hx hb dX4_passWord_72 (lv_topi (fun v53 ev53 => ?_))
          have ev53i : v53.toInt = (v25.toInt - v21.toInt) := i_sub ev53 rfl rfl (by omega) (by omega)
          refine lv_bipush (v := 8) hx hb dX4_passWord_73 rfl ?_
          refine q_icmp_le hx hb (a := (v25.toInt - v21.toInt)) (b := 8) ev53i (by decide) (tgt := 82) dX4_passWord_75 rfl (fun c54 => ?_) (fun c54 => ?_)
          · refine lv_lload_n hx hb dX4_passWord_82 rfl (lv_at hl 0 rfl) ?_
            have hpost : SpZ isLt (bf H0 tp) (sI H0 h0 (X.1.2 4 6)).toInt (sI H0 h0 (X.1.2 4 7)).toInt (sI H24 h0 (X.1.2 4 7)).toInt := by first | exact ⟨hsp, fun q => absurd q.1 (by omega)⟩ | exact ⟨hsp, fun q => by have q2 := q.2; rw [hz1, ← hb1] at q2; exact absurd q2 (by assumption)⟩
            have hpw : (v23 : Int64).toInt = if (sI H24 h0 (X.1.2 4 7)).toInt - (sI H0 h0 (X.1.2 4 7)).toInt ≤ 8 then cdN 27 (bf H0 tp) ((sI H0 h0 (X.1.2 4 7)).toInt).toNat ((sI H24 h0 (X.1.2 4 7)).toInt - (sI H0 h0 (X.1.2 4 7)).toInt).toNat else 0 := by first | (rw [if_neg (by omega)]; decide) | (rw [if_pos (by omega)]; exact ev23.trans (hpi (by omega)))
            exact ret v23 H24 locs35 _ _ dX4_passWord_83 ⟨hKp24, ⟨hpost, by omega, by omega, by omega, hpw⟩⟩ hC24 hS35
          · refine lv_lconst (v := 0) hx hb dX4_passWord_78 rfl ?_
            refine lv_goto (tgt := 83) hx hb dX4_passWord_79 rfl ?_
            have hpost : SpZ isLt (bf H0 tp) (sI H0 h0 (X.1.2 4 6)).toInt (sI H0 h0 (X.1.2 4 7)).toInt (sI H24 h0 (X.1.2 4 7)).toInt := by first | exact ⟨hsp, fun q => absurd q.1 (by omega)⟩ | exact ⟨hsp, fun q => by have q2 := q.2; rw [hz1, ← hb1] at q2; exact absurd q2 (by assumption)⟩
            have hpw : (0 : Int64).toInt = if (sI H24 h0 (X.1.2 4 7)).toInt - (sI H0 h0 (X.1.2 4 7)).toInt ≤ 8 then cdN 27 (bf H0 tp) ((sI H0 h0 (X.1.2 4 7)).toInt).toNat ((sI H24 h0 (X.1.2 4 7)).toInt - (sI H0 h0 (X.1.2 4 7)).toInt).toNat else 0 := by first | (rw [if_neg (by omega)]; decide) | (rw [if_pos (by omega)]; exact (show (0 : Int64).toInt = 0 from by decide).trans (hpi (by omega)))
            exact ret 0 H24 locs35 _ _ dX4_passWord_83 ⟨hKp24, ⟨hpost, by omega, by omega, by omega, hpw⟩⟩ hC24 hS35
  exact L7 _ H0 [] 0 0 ls (Nat.lt_succ_self _) (show (0 : Int64).toInt = 0 from by decide) (by omega) (by omega) (by omega) (SpP.nil) (fun _ => by rw [Int.sub_self]; rfl) (by omega) hC0 hS0 hKp0 tpt hl
set_option maxRecDepth 100000 in
set_option maxHeartbeats 4000000 in
theorem m_X8_of (l : Launch) (X : xW) (Γ : Nat → Option Nat) (H0 : Heap) (hC0 : Conf X Γ H0) (p0 : Int64) {a0 : Int} (e0 : p0.toInt = a0) : Ctr l X Γ yX8_of cX8_of 6 (some (.object "SnowForts$Word")) 0 [.long p0] H0 (QQ X Γ (fun v H1 => H1 = H0 ∧ ((∀ q, v = some q → Γ q = some 12) ∧ (WOF X v a0)))) := by
  refine q_enterQ (own := "SnowForts$Word") (by decide) rfl (Nat.le_of_ble_eq_true rfl) ?_
  intro p e s m args below meth c ls Qz E hl ret hS0
  have hx := E.1; have hb := E.2.1
  have hl : lv_has ls 6 [(0, .long p0)] := hl
  refine q_stALL E hS0 w_843 dX8_of_0 (fun q21 tq21 => ?_)
  refine lv_astore_n hx hb dX8_of_3 rfl hl (by decide) rfl (fun ls hl => ?_)
  replace hl : lv_has ls 6 [(2, .ref q21), (0, .long p0)] := hl
  refine lv_aload_n hx hb dX8_of_4 rfl (lv_at hl 0 rfl) ?_
  refine q_lenALL E hS0 tq21 dX8_of_5 ?_
  refine lv_istore_n hx hb dX8_of_6 rfl hl (by decide) rfl (fun ls hl => ?_)
  replace hl : lv_has ls 6 [(3, .int 29), (2, .ref q21), (0, .long p0)] := hl
  refine lv_iconst (v := 0) hx hb dX8_of_7 rfl ?_
  refine lv_istore hx hb dX8_of_8 hl (by decide) rfl (fun ls hl => ?_)
  replace hl : lv_has ls 6 [(4, .int 0), (3, .int 29), (2, .ref q21), (0, .long p0)] := hl
  have L10 : ∀ (n23 : Nat) (locs23 : List Loc) (v22 : Int32) (z22 : Int) (ls : Array Slot), (29 - z22).toNat < n23 → v22.toInt = z22 → z22 ≤ 29 → 0 ≤ z22 → (∀ t : Nat, (t : Int) < z22 → kw t ≠ a0) → va_S (AΓ Γ) H0 H0 locs23 → lv_has ls 6 [(4, .int v22), (3, .int 29), (2, .ref q21), (0, .long p0)] → W p l e (rmL 0) s m args below meth c H0 locs23 0 0 Qz (F0 m 10 ls []) := by
    intro n23
    induction n23 with
    | zero => intro locs23 v22 z22 ls hm23 ev22 iv23_0 iv23_1 iv23_2 hS23 hl; exact absurd hm23 (Nat.not_lt_zero _)
    | succ n23 ih23 =>
      intro locs23 v22 z22 ls hm23 ev22 iv23_0 iv23_1 iv23_2 hS23 hl
      have hof := iv23_2
      refine lv_iload hx hb dX8_of_10 (lv_at hl 0 rfl) ?_
      refine lv_iload_n hx hb dX8_of_12 rfl (lv_at hl 1 rfl) ?_
      refine q_icmp_ge hx hb (a := z22) (b := 29) ev22 (by decide) (tgt := 41) dX8_of_13 rfl (fun c24 => ?_) (fun c24 => ?_)
      · refine lv_null hx hb dX8_of_41 ?_
        exact ret none H0 locs23 _ _ dX8_of_42 ⟨rfl, ⟨(fun _ h => by cases h), WOF.none (fun t ht => hof t (by omega))⟩⟩ hC0 hS23
      · refine lv_aload_n hx hb dX8_of_16 rfl (lv_at hl 2 rfl) ?_
        refine lv_iload hx hb dX8_of_17 (lv_at hl 0 rfl) ?_
        refine q_ldALL E hS23 tq21 (a := z22) ev22 (by omega) (by omega) dX8_of_19 (fun g25 => ?_)
        refine lv_astore hx hb dX8_of_20 hl (by decide) rfl (fun ls hl => ?_)
        replace hl : lv_has ls 6 [(5, .ref (wad X (z22 : Int).toNat)), (4, .int v22), (3, .int 29), (2, .ref q21), (0, .long p0)] := hl
        refine lv_aload hx hb dX8_of_22 (lv_at hl 0 rfl) ?_
        refine q_letters E hS23 g25 w_1046 dX8_of_24 (fun jw26 hjw26 wjw26 => ?_)
        have hji := wad_inj E (i := (z22 : Int).toNat) (by omega) hjw26 wjw26
        refine lv_lload_n hx hb dX8_of_27 rfl (lv_at hl 4 rfl) ?_
        refine q_lcmp_ne hx hb (a := (kwN jw26).toInt) (b := a0) rfl e0 (tgt := 35) dX8_of_28 dX8_of_29 rfl (fun c27 => ?_) (fun c27 => ?_)
        · have hof2 : ∀ t : Nat, (t : Int) < z22 + 1 → kw t ≠ a0 := fun t ht => by by_cases e : t = (z22 : Int).toNat; (rw [e]; unfold kw; rw [hji]; assumption); exact hof t (by omega)
          obtain ⟨v28, ev28⟩ : ∃ z, z = v22 + Int32.ofInt 1 := ⟨_, rfl⟩
          have ev28i : v28.toInt = (z22 + 1) := i_add ev28 ev22 (by decide) (by omega) (by omega)
          refine lv_iinc hx hb dX8_of_35 hl (k := 1) rfl ev28.symm (by decide) rfl (fun ls hl => ?_)
          replace hl : lv_has ls 6 [(4, .int v28), (5, .ref (wad X (z22 : Int).toNat)), (3, .int 29), (2, .ref q21), (0, .long p0)] := hl
          refine lv_goto (tgt := 10) hx hb dX8_of_38 rfl ?_
          exact ih23 locs23 v28 ((z22 + 1)) ls (ms_lt hm23 (by omega) (by omega)) ev28i (by omega) (by omega) (hof2) hS23 (lv_sub hl [0, 2, 3, 4] rfl)
        · refine lv_aload hx hb dX8_of_32 (lv_at hl 0 rfl) ?_
          exact ret (some (wad X (z22 : Int).toNat)) H0 locs23 _ _ dX8_of_34 ⟨rfl, ⟨(fun _ h => by cases h; exact g25), WOF.some (by omega) (by unfold kw; rw [hji]; omega)⟩⟩ hC0 hS23
  exact L10 _ [] 0 0 ls (Nat.lt_succ_self _) (by decide) (by omega) (by omega) (fun t ht => absurd ht (by omega)) hS0 hl
set_option maxRecDepth 100000 in
set_option maxHeartbeats 4000000 in
theorem m_X4_passNumber (l : Launch) (X : xW) (Γ : Nat → Option Nat) (H0 : Heap) (hC0 : Conf X Γ H0) (h0 : Nat) (g0 : Γ h0 = some 2) (tp : Nat) (htp : sR H0 h0 (X.1.2 4 0) = some tp) (gtp : Γ tp = some 25) (r0 : 0 ≤ (sI H0 h0 (X.1.2 4 7)).toInt) (r1 : (sI H0 h0 (X.1.2 4 6)).toInt ≤ 900) (r2 : (sI H0 h0 (X.1.2 4 7)).toInt ≤ (sI H0 h0 (X.1.2 4 6)).toInt) : Ctr l X Γ yX4_passNumber cX4_passNumber 3 (some .int) 1 [.ref h0] H0 (QI X Γ (fun v H1 => Kp X Γ [3, 29, 31, 32, 33, 34, 37, 39, 40, 50, 51, 52, 53, 54, 55, 56, 57, 58, 59, 60, 61, 62, 63, 65, 67, 68, 69, 70, 71, 72] H0 H1 ∧ ((SpZ isDg (bf H0 tp) (sI H0 h0 (X.1.2 4 6)).toInt (sI H0 h0 (X.1.2 4 7)).toInt (sI H1 h0 (X.1.2 4 7)).toInt) ∧ ((sI H1 h0 (X.1.2 4 6)).toInt = (sI H0 h0 (X.1.2 4 6)).toInt) ∧ ((sI H0 h0 (X.1.2 4 7)).toInt ≤ (sI H1 h0 (X.1.2 4 7)).toInt) ∧ ((sI H1 h0 (X.1.2 4 7)).toInt ≤ (sI H1 h0 (X.1.2 4 6)).toInt) ∧ ((sI H1 h0 (X.1.2 4 7)).toInt - (sI H0 h0 (X.1.2 4 7)).toInt ≤ 4 → v.toInt = nmN (bf H0 tp) ((sI H0 h0 (X.1.2 4 7)).toInt).toNat ((sI H1 h0 (X.1.2 4 7)).toInt - (sI H0 h0 (X.1.2 4 7)).toInt).toNat) ∧ (0 ≤ v.toInt) ∧ (v.toInt ≤ 9999)))) := by
  refine q_enterI (own := "SnowForts$Reader") (by decide) rfl (Nat.le_of_ble_eq_true rfl) ?_
  intro p e s m args below meth c ls Qz E hl ret hS0
  have hx := E.1; have hb := E.2.1
  have hKp0 : Kp X Γ [3, 29, 31, 32, 33, 34, 37, 39, 40, 50, 51, 52, 53, 54, 55, 56, 57, 58, 59, 60, 61, 62, 63, 65, 67, 68, 69, 70, 71, 72] H0 H0 := Kp.rf
  have hl : lv_has ls 3 [(0, .ref h0)] := hl
  have tpt : ∀ j, sI H0 tp j = sI H0 tp j := fun _ => rfl
  refine lv_aload_n hx hb dX4_passNumber_0 rfl (lv_at hl 0 rfl) ?_
  refine q_getI E hC0 g0 fa_RX4_51 dX4_passNumber_1 (fun v21 ev21 _ _ => ?_)
  have m22 : (sI H0 h0 (X.1.2 4 7)).toInt = v21.toInt := (congrArg Int32.toInt ev21).trans rfl
  refine lv_istore_n hx hb dX4_passNumber_4 rfl hl (by decide) rfl (fun ls hl => ?_)
  replace hl : lv_has ls 3 [(1, .int v21), (0, .ref h0)] := hl
  refine lv_iconst (v := 0) hx hb dX4_passNumber_5 rfl ?_
  refine lv_istore_n hx hb dX4_passNumber_6 rfl hl (by decide) rfl (fun ls hl => ?_)
  replace hl : lv_has ls 3 [(2, .int 0), (1, .int v21), (0, .ref h0)] := hl
  have L7 : ∀ (n24 : Nat) (H24 : Heap) (locs24 : List Loc) (v23 : Int32) (z23 : Int) (ls : Array Slot), ((sI H24 h0 (X.1.2 4 6)).toInt - (sI H24 h0 (X.1.2 4 7)).toInt).toNat < n24 → v23.toInt = z23 → (sI H0 h0 (X.1.2 4 7)).toInt ≤ (sI H24 h0 (X.1.2 4 7)).toInt → (sI H24 h0 (X.1.2 4 6)).toInt = (sI H0 h0 (X.1.2 4 6)).toInt → v21.toInt = (sI H0 h0 (X.1.2 4 7)).toInt → SpP isDg (bf H0 tp) (sI H0 h0 (X.1.2 4 6)).toInt (sI H0 h0 (X.1.2 4 7)).toInt (sI H24 h0 (X.1.2 4 7)).toInt → PNI (bf H0 tp) (sI H0 h0 (X.1.2 4 7)).toInt (sI H24 h0 (X.1.2 4 7)).toInt z23 → 0 ≤ z23 → z23 ≤ 9999 → (sI H24 h0 (X.1.2 4 7)).toInt ≤ (sI H24 h0 (X.1.2 4 6)).toInt → Conf X Γ H24 → va_S (AΓ Γ) H0 H24 locs24 → Kp X Γ [3, 29, 31, 32, 33, 34, 37, 39, 40, 50, 51, 52, 53, 54, 55, 56, 57, 58, 59, 60, 61, 62, 63, 65, 67, 68, 69, 70, 71, 72] H0 H24 → (∀ j, sI H24 tp j = sI H0 tp j) → lv_has ls 3 [(2, .int v23), (1, .int v21), (0, .ref h0)] → W p l e (rmL 1) s m args below meth c H24 locs24 0 0 Qz (F0 m 7 ls []) := by
    intro n24
    induction n24 with
    | zero => intro H24 locs24 v23 z23 ls hm24 ev23 iv24_0 iv24_1 iv24_2 iv24_3 iv24_4 iv24_5 iv24_6 iv24_7 hC24 hS24 hKp24 tpt hl; exact absurd hm24 (Nat.not_lt_zero _)
    | succ n24 ih24 =>
      intro H24 locs24 v23 z23 ls hm24 ev23 iv24_0 iv24_1 iv24_2 iv24_3 iv24_4 iv24_5 iv24_6 iv24_7 hC24 hS24 hKp24 tpt hl
      have hsp := iv24_3
      have hpi := iv24_4
      refine lv_aload_n hx hb dX4_passNumber_7 rfl (lv_at hl 2 rfl) ?_
      refine q_getI E hC24 g0 fa_RX4_51 dX4_passNumber_8 (fun v25 ev25 _ _ => ?_)
      have m26 : (sI H24 h0 (X.1.2 4 7)).toInt = v25.toInt := (congrArg Int32.toInt ev25).trans rfl
      refine lv_aload_n hx hb dX4_passNumber_11 rfl (lv_at hl 2 rfl) ?_
      refine q_getI E hC24 g0 fa_RX4_48 dX4_passNumber_12 (fun v27 ev27 _ _ => ?_)
      have m28 : (sI H24 h0 (X.1.2 4 6)).toInt = v27.toInt := (congrArg Int32.toInt ev27).trans rfl
      refine q_icmp_ge hx hb (a := v25.toInt) (b := v27.toInt) rfl rfl (tgt := 72) dX4_passNumber_15 rfl (fun c29 => ?_) (fun c29 => ?_)
      · refine lv_iload_n hx hb dX4_passNumber_72 rfl (lv_at hl 0 rfl) ?_
        have hpost : SpZ isDg (bf H0 tp) (sI H0 h0 (X.1.2 4 6)).toInt (sI H0 h0 (X.1.2 4 7)).toInt (sI H24 h0 (X.1.2 4 7)).toInt := by first | exact ⟨hsp, fun q => absurd q.1 (by omega)⟩ | exact ⟨hsp, fun q => by have q2 := q.2; rw [hz1, ← hb1] at q2; exact absurd q2 (by assumption)⟩
        have hpw : (sI H24 h0 (X.1.2 4 7)).toInt - (sI H0 h0 (X.1.2 4 7)).toInt ≤ 4 → (v23 : Int32).toInt = nmN (bf H0 tp) ((sI H0 h0 (X.1.2 4 7)).toInt).toNat ((sI H24 h0 (X.1.2 4 7)).toInt - (sI H0 h0 (X.1.2 4 7)).toInt).toNat := fun q => ev23.trans (hpi q)
        have c30 : v23.toInt = z23 := ev23
        exact ret v23 H24 locs24 _ _ dX4_passNumber_73 ⟨hKp24, ⟨hpost, by omega, by omega, by omega, hpw, by omega, by omega⟩⟩ hC24 hS24
      · refine lv_aload_n hx hb dX4_passNumber_18 rfl (lv_at hl 2 rfl) ?_
        refine lv_aload_n hx hb dX4_passNumber_19 rfl (lv_at hl 2 rfl) ?_
        refine q_getI E hC24 g0 fa_RX4_51 dX4_passNumber_20 (fun v31 ev31 _ _ => ?_)
        have qv31 := ev25.symm.trans ev31; subst qv31
        refine q_goIp (q_runV (As := [.int v25]) (rest := []) E hC24 hS24 (m_X4_byteAt l X Γ H24 hC24 h0 g0 v25 (a1 := v25.toInt) rfl tp ((kp_R hKp24 g0 (ci := 4) (k := 0) rfl (by decide) rfl).trans htp) gtp) cw_X4_byteAt cl_RX4_78 g0 ⟨rfl, rfl⟩ rfl hl.1 rfl (Nat.zero_le _) (by decide) dX4_passNumber_23) hS24 (fun v32 locs32 hr32 hS32 => ?_)
        have f32_0 := hr32
        have hb1 : v32.toInt = bf H0 tp (v25.toInt : Int).toNat := BA.get f32_0 tpt (by omega) (by omega) (by omega)
        have hz1 : (sI H24 h0 (X.1.2 4 7)).toInt = v25.toInt := by omega
        refine q_goIp (q_runS (As := [.int v32]) (rest := []) E hS32 (m_X4_isDigit l X Γ H24 hC24 v32 (a0 := v32.toInt) rfl) cw_X4_isDigit cl_RX4_86 rfl hl.1 rfl (Nat.zero_le _) (by decide) dX4_passNumber_26) hS32 (fun v33 locs33 hr33 hS33 => ?_)
        rcases hr33 with ⟨rfl, hid⟩ | ⟨rfl, hid⟩
        · refine q_if_eq hx hb (a := 1) (by decide) (tgt := 72) dX4_passNumber_29 rfl (fun c34 => absurd c34 (by omega)) (fun c34 => ?_)
          have hlt := hb1 ▸ hid
          refine lv_aload_n hx hb dX4_passNumber_32 rfl (lv_at hl 2 rfl) ?_
          refine q_getI E hC24 g0 fa_RX4_51 dX4_passNumber_33 (fun v35 ev35 _ _ => ?_)
          have qv35 := ev25.symm.trans ev35; subst qv35
          refine lv_iload_n hx hb dX4_passNumber_36 rfl (lv_at hl 1 rfl) ?_
          refine lv_isub hx hb dX4_passNumber_37 (lv_topi (fun v36 ev36 => ?_))
          have ev36i : v36.toInt = (v25.toInt - v21.toInt) := i_sub ev36 rfl rfl (by omega) (by omega)
          refine lv_iconst (v := 4) hx hb dX4_passNumber_38 rfl ?_
          refine q_icmp_ge hx hb (a := (v25.toInt - v21.toInt)) (b := 4) ev36i (by decide) (tgt := 59) dX4_passNumber_39 rfl (fun c37 => ?_) (fun c37 => ?_)
          · have hps : PNI (bf H0 tp) (sI H0 h0 (X.1.2 4 7)).toInt ((sI H24 h0 (X.1.2 4 7)).toInt + 1) z23 := by first | exact PNI.out (by omega) | exact PNI.step hpi hsp (by omega) (hb2.trans (by rw [hz1])) (by omega) (by omega)
            refine lv_aload_n hx hb dX4_passNumber_59 rfl (lv_at hl 2 rfl) ?_
            refine lv_dup hx hb dX4_passNumber_60 rfl ?_
            refine q_getI E hC24 g0 fa_RX4_51 dX4_passNumber_61 (fun v38 ev38 _ _ => ?_)
            have qv38 := ev25.symm.trans ev38; subst qv38
            refine lv_iconst (v := 1) hx hb dX4_passNumber_64 rfl ?_
            refine lv_iadd hx hb dX4_passNumber_65 (lv_topi (fun v39 ev39 => ?_))
            have ev39i : v39.toInt = (v25.toInt + 1) := i_add ev39 rfl (by decide) (by omega) (by omega)
            refine q_put E hC24 hS33 g0 fp_RX4_51 tv_F rfl rfl dX4_passNumber_66 (fun H40 locs40 hC40 hS40 U40 => ?_)
            have hKp40 := Kp.upO E g0 fp_RX4_51 rfl U40 hKp24
            have e41 := up_I U40
            have m42 : (sI H40 h0 (X.1.2 4 7)).toInt = (v25.toInt + 1) := (congrArg Int32.toInt e41).trans ev39i
            replace tpt : ∀ j, sI H40 tp j = sI H0 tp j := fun j => (up_nI U40 (ne_k gtp g0 (by decide))).trans (tpt j)
            have m43 : (sI H40 h0 (X.1.2 4 6)).toInt = (sI H24 h0 (X.1.2 4 6)).toInt := congrArg Int32.toInt (up_nI U40 (ne_f E 4 6 7 rfl (by decide) (by decide) (by decide)))
            refine lv_goto (tgt := 7) hx hb dX4_passNumber_69 rfl ?_
            have m1_length : (sI H24 h0 (X.1.2 4 6)).toInt = v27.toInt := (congrArg Int32.toInt ev27).trans rfl
            have e44 := (up_nI U40 (ne_f E 4 6 7 rfl (by decide) (by decide) (by decide))).trans ev27
            have m2_length : (sI H40 h0 (X.1.2 4 6)).toInt = v27.toInt := (congrArg Int32.toInt e44).trans rfl
            have m1_next : (sI H24 h0 (X.1.2 4 7)).toInt = v25.toInt := (congrArg Int32.toInt ev25).trans rfl
            have m2_next : (sI H40 h0 (X.1.2 4 7)).toInt = (v25.toInt + 1) := (congrArg Int32.toInt e41).trans ev39i
            exact ih24 H40 locs40 v23 (z23) ls (ms_lt hm24 (by omega) (by omega)) ev23 (by omega) (by omega) (by omega) (SpP.cast ((hsp.cast hz1).step (by omega) (by omega) hlt) (by omega)) (PNI.cast hps (by omega)) (by omega) (by omega) (by omega) hC40 hS40 hKp40 tpt hl
          · have hbd := (hpi.cast hz1).bd (hsp.cast hz1) (by omega) (by omega)
            have hdg := hlt
            unfold isDg at hdg
            refine lv_iload_n hx hb dX4_passNumber_42 rfl (lv_at hl 0 rfl) ?_
            refine lv_bipush (v := 10) hx hb dX4_passNumber_43 rfl ?_
            refine lv_imul hx hb dX4_passNumber_45 (lv_topi (fun v45 ev45 => ?_))
            have ev45i : v45.toInt = (z23 * 10) := i_mul ev45 ev23 (by decide) (by omega) (by omega)
            refine lv_aload_n hx hb dX4_passNumber_46 rfl (lv_at hl 2 rfl) ?_
            refine lv_aload_n hx hb dX4_passNumber_47 rfl (lv_at hl 2 rfl) ?_
            refine q_getI E hC24 g0 fa_RX4_51 dX4_passNumber_48 (fun v46 ev46 _ _ => ?_)
            have qv46 := ev25.symm.trans ev46; subst qv46
            refine q_goIp (q_runV (As := [.int v25]) (rest := [.int v45]) E hC24 hS33 (m_X4_byteAt l X Γ H24 hC24 h0 g0 v25 (a1 := v25.toInt) rfl tp ((kp_R hKp24 g0 (ci := 4) (k := 0) rfl (by decide) rfl).trans htp) gtp) cw_X4_byteAt cl_RX4_78 g0 ⟨rfl, rfl⟩ rfl hl.1 rfl (show _ ≤ _ from by simp [Value.category]) (by decide) dX4_passNumber_51) hS33 (fun v47 locs47 hr47 hS47 => ?_)
            have f47_0 := hr47
            have hb2 : v47.toInt = bf H0 tp (v25.toInt : Int).toNat := BA.get f47_0 tpt (by omega) (by omega) (by omega)
            refine lv_iadd hx hb dX4_passNumber_54 (lv_topi (fun v48 ev48 => ?_))
            have ev48i : v48.toInt = ((z23 * 10) + v47.toInt) := i_add ev48 ev45i rfl (by omega) (by omega)
            refine lv_bipush (v := 48) hx hb dX4_passNumber_55 rfl ?_
            refine lv_isub hx hb dX4_passNumber_57 (lv_topi (fun v49 ev49 => ?_))
            have ev49i : v49.toInt = (((z23 * 10) + v47.toInt) - 48) := i_sub ev49 ev48i (by decide) (by omega) (by omega)
            refine lv_istore_n hx hb dX4_passNumber_58 rfl hl (by decide) rfl (fun ls hl => ?_)
            replace hl : lv_has ls 3 [(2, .int v49), (1, .int v21), (0, .ref h0)] := hl
            have hps : PNI (bf H0 tp) (sI H0 h0 (X.1.2 4 7)).toInt ((sI H24 h0 (X.1.2 4 7)).toInt + 1) (((z23 * 10) + v47.toInt) - 48) := by first | exact PNI.out (by omega) | exact PNI.step hpi hsp (by omega) (hb2.trans (by rw [hz1])) (by omega) (by omega)
            refine lv_aload_n hx hb dX4_passNumber_59 rfl (lv_at hl 2 rfl) ?_
            refine lv_dup hx hb dX4_passNumber_60 rfl ?_
            refine q_getI E hC24 g0 fa_RX4_51 dX4_passNumber_61 (fun v50 ev50 _ _ => ?_)
            have qv50 := ev25.symm.trans ev50; subst qv50
            refine lv_iconst (v := 1) hx hb dX4_passNumber_64 rfl ?_
            refine lv_iadd hx hb dX4_passNumber_65 (lv_topi (fun v51 ev51 => ?_))
            have ev51i : v51.toInt = (v25.toInt + 1) := i_add ev51 rfl (by decide) (by omega) (by omega)
            refine q_put E hC24 hS47 g0 fp_RX4_51 tv_F rfl rfl dX4_passNumber_66 (fun H52 locs52 hC52 hS52 U52 => ?_)
            have hKp52 := Kp.upO E g0 fp_RX4_51 rfl U52 hKp24
            have e53 := up_I U52
            have m54 : (sI H52 h0 (X.1.2 4 7)).toInt = (v25.toInt + 1) := (congrArg Int32.toInt e53).trans ev51i
            replace tpt : ∀ j, sI H52 tp j = sI H0 tp j := fun j => (up_nI U52 (ne_k gtp g0 (by decide))).trans (tpt j)
            have m55 : (sI H52 h0 (X.1.2 4 6)).toInt = (sI H24 h0 (X.1.2 4 6)).toInt := congrArg Int32.toInt (up_nI U52 (ne_f E 4 6 7 rfl (by decide) (by decide) (by decide)))
            refine lv_goto (tgt := 7) hx hb dX4_passNumber_69 rfl ?_
            have m1_length : (sI H24 h0 (X.1.2 4 6)).toInt = v27.toInt := (congrArg Int32.toInt ev27).trans rfl
            have e56 := (up_nI U52 (ne_f E 4 6 7 rfl (by decide) (by decide) (by decide))).trans ev27
            have m2_length : (sI H52 h0 (X.1.2 4 6)).toInt = v27.toInt := (congrArg Int32.toInt e56).trans rfl
            have m1_next : (sI H24 h0 (X.1.2 4 7)).toInt = v25.toInt := (congrArg Int32.toInt ev25).trans rfl
            have m2_next : (sI H52 h0 (X.1.2 4 7)).toInt = (v25.toInt + 1) := (congrArg Int32.toInt e53).trans ev51i
            exact ih24 H52 locs52 v49 ((((z23 * 10) + v47.toInt) - 48)) ls (ms_lt hm24 (by omega) (by omega)) ev49i (by omega) (by omega) (by omega) (SpP.cast ((hsp.cast hz1).step (by omega) (by omega) hlt) (by omega)) (PNI.cast hps (by omega)) (by omega) (by omega) (by omega) hC52 hS52 hKp52 tpt hl
        · refine q_if_eq hx hb (a := 0) (by decide) (tgt := 72) dX4_passNumber_29 rfl (fun c57 => ?_) (fun c57 => absurd c57 (by omega))
          refine lv_iload_n hx hb dX4_passNumber_72 rfl (lv_at hl 0 rfl) ?_
          have hpost : SpZ isDg (bf H0 tp) (sI H0 h0 (X.1.2 4 6)).toInt (sI H0 h0 (X.1.2 4 7)).toInt (sI H24 h0 (X.1.2 4 7)).toInt := by first | exact ⟨hsp, fun q => absurd q.1 (by omega)⟩ | exact ⟨hsp, fun q => by have q2 := q.2; rw [hz1, ← hb1] at q2; exact absurd q2 (by assumption)⟩
          have hpw : (sI H24 h0 (X.1.2 4 7)).toInt - (sI H0 h0 (X.1.2 4 7)).toInt ≤ 4 → (v23 : Int32).toInt = nmN (bf H0 tp) ((sI H0 h0 (X.1.2 4 7)).toInt).toNat ((sI H24 h0 (X.1.2 4 7)).toInt - (sI H0 h0 (X.1.2 4 7)).toInt).toNat := fun q => ev23.trans (hpi q)
          have c58 : v23.toInt = z23 := ev23
          exact ret v23 H24 locs33 _ _ dX4_passNumber_73 ⟨hKp24, ⟨hpost, by omega, by omega, by omega, hpw, by omega, by omega⟩⟩ hC24 hS33
  exact L7 _ H0 [] 0 0 ls (Nat.lt_succ_self _) (by decide) (by omega) (by omega) (by omega) (SpP.nil) (fun _ => by rw [Int.sub_self]; rfl) (by omega) (by omega) (by omega) hC0 hS0 hKp0 tpt hl
set_option maxRecDepth 100000 in
set_option maxHeartbeats 4000000 in
theorem m_X4_advance (l : Launch) (X : xW) (Γ : Nat → Option Nat) (H0 : Heap) (hC0 : Conf X Γ H0) (h0 : Nat) (g0 : Γ h0 = some 2) : Ctr l X Γ yX4_advance cX4_advance 1 none 1 [.ref h0] H0 (QV X Γ (fun H1 => Kp X Γ [3, 29, 31, 33, 34, 37, 39, 40, 50, 51, 52, 53, 54, 55, 56, 57, 58, 59, 60, 61, 62, 63, 65, 67, 68, 69, 70, 71, 72] H0 H1 ∧ ((∀ j : Nat, (sI H0 h0 (X.1.2 4 8)).toInt + 1 = j → j ≤ 900 → RDA X H1 h0 j)))) := by
  refine q_enterV (own := "SnowForts$Reader") (by decide) rfl (Nat.le_of_ble_eq_true rfl) ?_
  intro p e s m args below meth c ls Qz E hl ret hS0
  have hx := E.1; have hb := E.2.1
  have hKp0 : Kp X Γ [3, 29, 31, 33, 34, 37, 39, 40, 50, 51, 52, 53, 54, 55, 56, 57, 58, 59, 60, 61, 62, 63, 65, 67, 68, 69, 70, 71, 72] H0 H0 := Kp.rf
  have hl : lv_has ls 1 [(0, .ref h0)] := hl
  obtain ⟨ks, hks, gks⟩ := f_ref hC0 g0 (ci := 4) (kf := 2) rfl rfl
  obtain ⟨vs, hvs, gvs⟩ := f_ref hC0 g0 (ci := 4) (kf := 4) rfl rfl
  obtain ⟨ws, hws, gws⟩ := f_ref hC0 g0 (ci := 4) (kf := 5) rfl rfl
  refine lv_aload_n hx hb dX4_advance_0 rfl (lv_at hl 0 rfl) ?_
  refine lv_aload_n hx hb dX4_advance_1 rfl (lv_at hl 0 rfl) ?_
  refine q_getI E hC0 g0 fa_RX4_72 dX4_advance_2 (fun v21 ev21 _ _ => ?_)
  have m22 : (sI H0 h0 (X.1.2 4 8)).toInt = v21.toInt := (congrArg Int32.toInt ev21).trans rfl
  refine lv_iconst (v := 1) hx hb dX4_advance_5 rfl ?_
  refine lv_iadd hx hb dX4_advance_6 (lv_topi (fun v23 ev23 => ?_))
  have qt := ev23
  refine lv_sipush (v := 900) hx hb dX4_advance_7 rfl ?_
  refine q_mmin E hl.1 w_815 mathw_min (a := v23.toInt) (b := 900) rfl (show (900 : Int32).toInt = 900 from by decide) (by decide) (show _ ≤ _ from by simp [Value.category]) dX4_advance_10 (fun v24 mv24a mv24b mv24c => ?_)
  refine q_put E hC0 hS0 g0 fp_RX4_72 tv_F rfl rfl dX4_advance_13 (fun H25 locs25 hC25 hS25 U25 => ?_)
  have hKp25 := Kp.upO E g0 fp_RX4_72 rfl U25 hKp0
  have e26 := up_I U25
  have m27 : (sI H25 h0 (X.1.2 4 8)).toInt = v24.toInt := (congrArg Int32.toInt e26).trans rfl
  have hU0 := U25
  have hK0 := hKp25
  refine lv_aload_n hx hb dX4_advance_16 rfl (lv_at hl 0 rfl) ?_
  refine q_getI E hC25 g0 fa_RX4_72 dX4_advance_17 (fun v28 ev28 _ _ => ?_)
  have qv28 := e26.symm.trans ev28; subst qv28
  refine q_if_lt hx hb (a := v24.toInt) rfl (tgt := 75) dX4_advance_20 rfl (fun c29 => ?_) (fun c29 => ?_)
  · have hpost : ∀ j : Nat, (sI H0 h0 (X.1.2 4 8)).toInt + 1 = j → j ≤ 900 → RDA X H25 h0 j := fun j h1 h2 => by have hq := i_add qt rfl (show (1 : Int32).toInt = 1 from by decide) (by omega) (by omega); first | (exfalso; omega) | exact (RDA.mk E g0 gks gvs gws ((kp_R hK0 g0 (ci := 4) (k := 2) rfl (by decide) rfl).trans hks) ((kp_R hK0 g0 (ci := 4) (k := 4) rfl (by decide) rfl).trans hvs) ((kp_R hK0 g0 (ci := 4) (k := 5) rfl (by decide) rfl).trans hws) (by rw [up_I hU0]; omega) (hix ▸ hE1) hU1 hU2 hE3 hU3 (hix ▸ hE4) hU4).cast (by omega)
    exact ret H25 locs25 _ _ dX4_advance_75 ⟨hKp25, hpost⟩ hC25 hS25
  · refine lv_aload_n hx hb dX4_advance_23 rfl (lv_at hl 0 rfl) ?_
    refine lv_aload_n hx hb dX4_advance_24 rfl (lv_at hl 0 rfl) ?_
    refine q_getS E hC25 g0 fa_RX4_15 ((kp_R hKp25 g0 (ci := 4) (k := 2) rfl (by decide) rfl).trans hks) dX4_advance_25 (fun _ => ?_)
    refine lv_aload_n hx hb dX4_advance_28 rfl (lv_at hl 0 rfl) ?_
    refine q_getI E hC25 g0 fa_RX4_72 dX4_advance_29 (fun v30 ev30 _ _ => ?_)
    have qv30 := e26.symm.trans ev30; subst qv30
    refine q_iald E hC25 gks rfl rfl (fun _ h => h) (i_in (a := v24.toInt) rfl (by omega) (by omega)) dX4_advance_32 (fun v31 ev31 _ _ => ?_)
    have m32 : aI H25 ks (v24.toInt) = v31.toInt := aI_of rfl ev31
    have hE1 := ev31
    have hix : (v24 : Int32).toNatClampNeg = (v24.toInt : Int).toNat := i_ix rfl
    refine q_put E hC25 hS25 g0 fp_RX4_93 tv_F rfl rfl dX4_advance_33 (fun H33 locs33 hC33 hS33 U33 => ?_)
    have hKp33 := Kp.upO E g0 fp_RX4_93 rfl U33 hKp25
    have e34 := up_I U33
    have m35 : (sI H33 h0 (X.1.2 4 8)).toInt = (sI H25 h0 (X.1.2 4 8)).toInt := congrArg Int32.toInt (up_nI U33 (ne_f E 4 8 9 rfl (by decide) (by decide) (by decide)))
    have hU1 := U33
    refine lv_aload_n hx hb dX4_advance_36 rfl (lv_at hl 0 rfl) ?_
    refine lv_aload_n hx hb dX4_advance_37 rfl (lv_at hl 0 rfl) ?_
    refine q_getR E hC33 g0 fa_RX4_19 dX4_advance_38 (fun q36 eq36 gq36 => ?_)
    refine lv_aload_n hx hb dX4_advance_41 rfl (lv_at hl 0 rfl) ?_
    have e38 := (up_nI U33 (ne_f E 4 8 9 rfl (by decide) (by decide) (by decide))).trans e26
    refine q_getI E hC33 g0 fa_RX4_72 dX4_advance_42 (fun v37 ev37 _ _ => ?_)
    have qv37 := e38.symm.trans ev37; subst qv37
    have m39 : (sI H33 h0 (X.1.2 4 8)).toInt = v24.toInt := (congrArg Int32.toInt ev37).trans rfl
    refine q_iald E hC33 gq36 rfl rfl (fun _ h => h) (i_in (a := v24.toInt) rfl (by omega) (by omega)) dX4_advance_45 (fun v40 ev40 _ _ => ?_)
    have m41 : aI H33 q36 (v24.toInt) = v40.toInt := aI_of rfl ev40
    refine q_put E hC33 hS33 g0 fp_RX4_96 tv_F rfl rfl dX4_advance_46 (fun H42 locs42 hC42 hS42 U42 => ?_)
    have hKp42 := Kp.upO E g0 fp_RX4_96 rfl U42 hKp33
    have e43 := up_I U42
    have m44 : (sI H42 h0 (X.1.2 4 8)).toInt = (sI H33 h0 (X.1.2 4 8)).toInt := congrArg Int32.toInt (up_nI U42 (ne_f E 4 8 10 rfl (by decide) (by decide) (by decide)))
    have hU2 := U42
    refine lv_aload_n hx hb dX4_advance_49 rfl (lv_at hl 0 rfl) ?_
    refine lv_aload_n hx hb dX4_advance_50 rfl (lv_at hl 0 rfl) ?_
    refine q_getS E hC42 g0 fa_RX4_22 ((kp_R hKp42 g0 (ci := 4) (k := 4) rfl (by decide) rfl).trans hvs) dX4_advance_51 (fun _ => ?_)
    refine lv_aload_n hx hb dX4_advance_54 rfl (lv_at hl 0 rfl) ?_
    have e46 := (up_nI U42 (ne_f E 4 8 10 rfl (by decide) (by decide) (by decide))).trans e38
    refine q_getI E hC42 g0 fa_RX4_72 dX4_advance_55 (fun v45 ev45 _ _ => ?_)
    have qv45 := e46.symm.trans ev45; subst qv45
    have m47 : (sI H42 h0 (X.1.2 4 8)).toInt = v24.toInt := (congrArg Int32.toInt ev45).trans rfl
    refine q_lald2 E hC42 gvs rfl rfl (fun _ => rfl) (a := v24.toInt) rfl (by omega) (by omega) dX4_advance_58 (fun v48 ev48 => ?_)
    have hE3 := ev48
    refine q_put E hC42 hS42 g0 fp_RX4_99 tv_J rfl rfl dX4_advance_59 (fun H49 locs49 hC49 hS49 U49 => ?_)
    have hKp49 := Kp.upO E g0 fp_RX4_99 rfl U49 hKp42
    have m50 : (sI H49 h0 (X.1.2 4 8)).toInt = (sI H42 h0 (X.1.2 4 8)).toInt := congrArg Int32.toInt (up_nI U49 (ne_f E 4 8 11 rfl (by decide) (by decide) (by decide)))
    have hU3 := U49
    refine lv_aload_n hx hb dX4_advance_62 rfl (lv_at hl 0 rfl) ?_
    refine lv_aload_n hx hb dX4_advance_63 rfl (lv_at hl 0 rfl) ?_
    refine q_getS E hC49 g0 fa_RX4_28 ((kp_R hKp49 g0 (ci := 4) (k := 5) rfl (by decide) rfl).trans hws) dX4_advance_64 (fun _ => ?_)
    refine lv_aload_n hx hb dX4_advance_67 rfl (lv_at hl 0 rfl) ?_
    have e52 := (up_nI U49 (ne_f E 4 8 11 rfl (by decide) (by decide) (by decide))).trans e46
    refine q_getI E hC49 g0 fa_RX4_72 dX4_advance_68 (fun v51 ev51 _ _ => ?_)
    have qv51 := e52.symm.trans ev51; subst qv51
    have m53 : (sI H49 h0 (X.1.2 4 8)).toInt = v24.toInt := (congrArg Int32.toInt ev51).trans rfl
    refine q_aaldQ E hC49 gws rfl rfl (fun _ => rfl) (C := "SnowForts$Word") rfl (i_in (a := v24.toInt) rfl (by omega) (by omega)) dX4_advance_71 (fun q54 eq54 gq54 => ?_)
    have hE4 := eq54
    refine q_put E hC49 hS49 g0 fp_RX4_103 (tv_Q gq54) (nar_Q _) (fit_Q _) dX4_advance_72 (fun H55 locs55 hC55 hS55 U55 => ?_)
    have hKp55 := Kp.upO E g0 fp_RX4_103 rfl U55 hKp49
    have m56 : (sI H55 h0 (X.1.2 4 8)).toInt = (sI H49 h0 (X.1.2 4 8)).toInt := congrArg Int32.toInt (up_nI U55 (ne_f E 4 8 12 rfl (by decide) (by decide) (by decide)))
    have hU4 := U55
    have hpost : ∀ j : Nat, (sI H0 h0 (X.1.2 4 8)).toInt + 1 = j → j ≤ 900 → RDA X H55 h0 j := fun j h1 h2 => by have hq := i_add qt rfl (show (1 : Int32).toInt = 1 from by decide) (by omega) (by omega); first | (exfalso; omega) | exact (RDA.mk E g0 gks gvs gws ((kp_R hK0 g0 (ci := 4) (k := 2) rfl (by decide) rfl).trans hks) ((kp_R hK0 g0 (ci := 4) (k := 4) rfl (by decide) rfl).trans hvs) ((kp_R hK0 g0 (ci := 4) (k := 5) rfl (by decide) rfl).trans hws) (by rw [up_I hU0]; omega) (hix ▸ hE1) hU1 hU2 hE3 hU3 (hix ▸ hE4) hU4).cast (by omega)
    exact ret H55 locs55 _ _ dX4_advance_75 ⟨hKp55, hpost⟩ hC55 hS55
set_option maxRecDepth 100000 in
set_option maxHeartbeats 4000000 in
theorem m_X4_start (l : Launch) (X : xW) (Γ : Nat → Option Nat) (H0 : Heap) (hC0 : Conf X Γ H0) (h0 : Nat) (g0 : Γ h0 = some 2) (p1 : Int32) {a1 : Int} (e1 : p1.toInt = a1) (tp : Nat) (htp : sR H0 h0 (X.1.2 4 0) = some tp) (gtp : Γ tp = some 25) (r0 : 0 ≤ a1) (r1 : a1 ≤ 900) : Ctr l X Γ yX4_start cX4_start 4 none 2 [.ref h0, .int p1] H0 (QV X Γ (fun H1 => Kp X Γ [3, 29, 33, 34, 37, 39, 40, 50, 51, 52, 53, 54, 55, 56, 57, 58, 59, 60, 61, 62, 63, 65, 67, 68, 69, 70, 71, 72] H0 H1 ∧ ((∃ (kd vl w3 : Nat → Int) (pos : Nat → Nat) (N : Nat), TKS (bf H0 tp) (a1).toNat N pos kd vl w3 ∧ CU X Γ H1 h0 kd vl N 0)))) := by
  refine q_enterV (own := "SnowForts$Reader") (by decide) rfl (Nat.le_of_ble_eq_true rfl) ?_
  intro p e s m args below meth c ls Qz E hl ret hS0
  have hx := E.1; have hb := E.2.1
  have hKp0 : Kp X Γ [3, 29, 33, 34, 37, 39, 40, 50, 51, 52, 53, 54, 55, 56, 57, 58, 59, 60, 61, 62, 63, 65, 67, 68, 69, 70, 71, 72] H0 H0 := Kp.rf
  have hl : lv_has ls 4 [(0, .ref h0), (1, .int p1)] := hl
  obtain ⟨ks, hks, gks⟩ := f_ref hC0 g0 (ci := 4) (kf := 2) rfl rfl
  obtain ⟨vs, hvs, gvs⟩ := f_ref hC0 g0 (ci := 4) (kf := 4) rfl rfl
  obtain ⟨ws, hws, gws⟩ := f_ref hC0 g0 (ci := 4) (kf := 5) rfl rfl
  obtain ⟨ps, hps, gps⟩ := f_ref hC0 g0 (ci := 4) (kf := 3) rfl rfl
  have tpt : ∀ j, sI H0 tp j = sI H0 tp j := fun _ => rfl
  refine lv_aload_n hx hb dX4_start_0 rfl (lv_at hl 0 rfl) ?_
  refine lv_iconst (v := 0) hx hb dX4_start_1 rfl ?_
  refine q_put E hC0 hS0 g0 fp_RX4_32 tv_F rfl rfl dX4_start_2 (fun H21 locs21 hC21 hS21 U21 => ?_)
  have hKp21 := Kp.upO E g0 fp_RX4_32 rfl U21 hKp0
  have e22 := up_I U21
  replace tpt : ∀ j, sI H21 tp j = sI H0 tp j := fun j => (up_nI U21 (ne_k gtp g0 (by decide))).trans (tpt j)
  have m23 : (sI H21 h0 (X.1.2 4 7)).toInt = (sI H0 h0 (X.1.2 4 7)).toInt := congrArg Int32.toInt (up_nI U21 (ne_f E 4 7 15 rfl (by decide) (by decide) (by decide)))
  have m24 : (sI H21 h0 (X.1.2 4 6)).toInt = (sI H0 h0 (X.1.2 4 6)).toInt := congrArg Int32.toInt (up_nI U21 (ne_f E 4 6 15 rfl (by decide) (by decide) (by decide)))
  refine lv_aload_n hx hb dX4_start_5 rfl (lv_at hl 0 rfl) ?_
  refine lv_iconst (v := (-1)) hx hb dX4_start_6 rfl ?_
  refine q_put E hC21 hS21 g0 fp_RX4_36 tv_F rfl rfl dX4_start_7 (fun H25 locs25 hC25 hS25 U25 => ?_)
  have hKp25 := Kp.upO E g0 fp_RX4_36 rfl U25 hKp21
  have e26 := up_I U25
  replace tpt : ∀ j, sI H25 tp j = sI H0 tp j := fun j => (up_nI U25 (ne_k gtp g0 (by decide))).trans (tpt j)
  have m27 : (sI H25 h0 (X.1.2 4 7)).toInt = (sI H21 h0 (X.1.2 4 7)).toInt := congrArg Int32.toInt (up_nI U25 (ne_f E 4 7 16 rfl (by decide) (by decide) (by decide)))
  have m28 : (sI H25 h0 (X.1.2 4 6)).toInt = (sI H21 h0 (X.1.2 4 6)).toInt := congrArg Int32.toInt (up_nI U25 (ne_f E 4 6 16 rfl (by decide) (by decide) (by decide)))
  refine lv_aload_n hx hb dX4_start_10 rfl (lv_at hl 0 rfl) ?_
  refine lv_iload_n hx hb dX4_start_11 rfl (lv_at hl 1 rfl) ?_
  refine lv_sipush (v := 900) hx hb dX4_start_12 rfl ?_
  refine q_mmin E hl.1 w_815 mathw_min (a := a1) (b := 900) e1 (show (900 : Int32).toInt = 900 from by decide) (by decide) (show _ ≤ _ from by simp [Value.category]) dX4_start_15 (fun v29 mv29a mv29b mv29c => ?_)
  refine q_put E hC25 hS25 g0 fp_RX4_48 tv_F rfl rfl dX4_start_18 (fun H30 locs30 hC30 hS30 U30 => ?_)
  have hKp30 := Kp.upO E g0 fp_RX4_48 rfl U30 hKp25
  have e31 := up_I U30
  have m32 : (sI H30 h0 (X.1.2 4 6)).toInt = v29.toInt := (congrArg Int32.toInt e31).trans rfl
  replace tpt : ∀ j, sI H30 tp j = sI H0 tp j := fun j => (up_nI U30 (ne_k gtp g0 (by decide))).trans (tpt j)
  have m33 : (sI H30 h0 (X.1.2 4 7)).toInt = (sI H25 h0 (X.1.2 4 7)).toInt := congrArg Int32.toInt (up_nI U30 (ne_f E 4 7 6 rfl (by decide) (by decide) (by decide)))
  refine lv_aload_n hx hb dX4_start_21 rfl (lv_at hl 0 rfl) ?_
  refine lv_iconst (v := 0) hx hb dX4_start_22 rfl ?_
  refine q_put E hC30 hS30 g0 fp_RX4_51 tv_F rfl rfl dX4_start_23 (fun H34 locs34 hC34 hS34 U34 => ?_)
  have hKp34 := Kp.upO E g0 fp_RX4_51 rfl U34 hKp30
  have e35 := up_I U34
  have m36 : (sI H34 h0 (X.1.2 4 7)).toInt = 0 := (congrArg Int32.toInt e35).trans (show (0 : Int32).toInt = 0 from by decide)
  replace tpt : ∀ j, sI H34 tp j = sI H0 tp j := fun j => (up_nI U34 (ne_k gtp g0 (by decide))).trans (tpt j)
  have m37 : (sI H34 h0 (X.1.2 4 6)).toInt = (sI H30 h0 (X.1.2 4 6)).toInt := congrArg Int32.toInt (up_nI U34 (ne_f E 4 6 7 rfl (by decide) (by decide) (by decide)))
  refine lv_iconst (v := 0) hx hb dX4_start_26 rfl ?_
  refine lv_istore_n hx hb dX4_start_27 rfl hl (by decide) rfl (fun ls hl => ?_)
  replace hl : lv_has ls 4 [(2, .int 0), (0, .ref h0), (1, .int p1)] := hl
  refine lv_iconst (v := 0) hx hb dX4_start_28 rfl ?_
  refine lv_istore_n hx hb dX4_start_29 rfl hl (by decide) rfl (fun ls hl => ?_)
  replace hl : lv_has ls 4 [(3, .int 0), (2, .int 0), (0, .ref h0), (1, .int p1)] := hl
  have L30 : ∀ (n40 : Nat) (H40 : Heap) (locs40 : List Loc) (v38 : Int32) (z38 : Int) (v39 : Int32) (z39 : Int) (ls : Array Slot), (901 - z38).toNat < n40 → v38.toInt = z38 → v39.toInt = z39 → z38 ≤ 901 → 0 ≤ z38 → z39 = 0 ∨ z39 = 1 → (sI H40 h0 (X.1.2 4 6)).toInt = a1 → 0 ≤ (sI H40 h0 (X.1.2 4 7)).toInt → (z39 = 0 → (sI H40 h0 (X.1.2 4 7)).toInt ≤ a1) → (((z39 : Int) = 0 → TSP X H40 ks vs ws (bf H0 tp) (a1).toNat (z38 : Int).toNat (sI H40 h0 (X.1.2 4 7)).toInt) ∧ ((z39 : Int) = 1 → TSF X H40 ks vs ws (bf H0 tp) (a1).toNat)) → Conf X Γ H40 → va_S (AΓ Γ) H0 H40 locs40 → Kp X Γ [3, 29, 33, 34, 37, 39, 40, 50, 51, 52, 53, 54, 55, 56, 57, 58, 59, 60, 61, 62, 63, 65, 67, 68, 69, 70, 71, 72] H0 H40 → (∀ j, sI H40 tp j = sI H0 tp j) → lv_has ls 4 [(3, .int v38), (2, .int v39), (0, .ref h0), (1, .int p1)] → W p l e (rmL 2) s m args below meth c H40 locs40 0 0 Qz (F0 m 30 ls []) := by
    intro n40
    induction n40 with
    | zero => intro H40 locs40 v38 z38 v39 z39 ls hm40 ev38 ev39 iv40_0 iv40_1 iv40_2 iv40_3 iv40_4 iv40_5 iv40_6 hC40 hS40 hKp40 tpt hl; exact absurd hm40 (Nat.not_lt_zero _)
    | succ n40 ih40 =>
      intro H40 locs40 v38 z38 v39 z39 ls hm40 ev38 ev39 iv40_0 iv40_1 iv40_2 iv40_3 iv40_4 iv40_5 iv40_6 hC40 hS40 hKp40 tpt hl
      have hts := iv40_6
      obtain ⟨Hb, hHb⟩ : ∃ h, h = H40 := ⟨_, rfl⟩
      have hnb : (sI H40 h0 (X.1.2 4 7)).toInt = (sI Hb h0 (X.1.2 4 7)).toInt := by rw [hHb]
      rw [← hHb] at hts
      have rwe : RWE ks vs ws (z38 : Int).toNat Hb H40 := by rw [hHb]; exact RWE.rf
      refine lv_iload_n hx hb dX4_start_30 rfl (lv_at hl 0 rfl) ?_
      refine lv_sipush (v := 901) hx hb dX4_start_31 rfl ?_
      refine q_icmp_ge hx hb (a := z38) (b := 901) ev38 (by decide) (tgt := 198) dX4_start_34 rfl (fun c41 => ?_) (fun c41 => ?_)
      · refine lv_aload_n hx hb dX4_start_198 rfl (lv_at hl 2 rfl) ?_
        refine lv_iconst (v := (-1)) hx hb dX4_start_199 rfl ?_
        refine q_put E hC40 hS40 g0 fp_RX4_72 tv_F rfl rfl dX4_start_200 (fun H42 locs42 hC42 hS42 U42 => ?_)
        have hKp42 := Kp.upO E g0 fp_RX4_72 rfl U42 hKp40
        have e43 := up_I U42
        replace tpt : ∀ j, sI H42 tp j = sI H0 tp j := fun j => (up_nI U42 (ne_k gtp g0 (by decide))).trans (tpt j)
        have m44 : (sI H42 h0 (X.1.2 4 7)).toInt = (sI H40 h0 (X.1.2 4 7)).toInt := congrArg Int32.toInt (up_nI U42 (ne_f E 4 7 8 rfl (by decide) (by decide) (by decide)))
        have m45 : (sI H42 h0 (X.1.2 4 6)).toInt = (sI H40 h0 (X.1.2 4 6)).toInt := congrArg Int32.toInt (up_nI U42 (ne_f E 4 6 8 rfl (by decide) (by decide) (by decide)))
        have htk := up_I U42
        have hR1 : ∀ i, RWE ks vs ws i Hb H42 := fun i => by rw [hHb]; exact RWE.up RWE.rf U42 (Or.inr ⟨nek g0 gks (by decide), nek g0 gvs (by decide), nek g0 gws (by decide)⟩)
        refine lv_aload_n hx hb dX4_start_203 rfl (lv_at hl 2 rfl) ?_
        refine q_goV (q_runV (As := []) (rest := []) E hC42 hS42 (m_X4_advance l X Γ H42 hC42 h0 g0) cw_X4_advance cl_RX4_75 g0 ⟨rfl, rfl⟩ rfl hl.1 rfl (Nat.zero_le _) (by decide) dX4_start_204) hS42 (fun H46 locs46 hr46 hC46 hS46 => ?_)
        obtain ⟨hp46, hr46⟩ := hr46
        have hKp46 := hKp42.tr (hp46.mono rfl)
        replace tpt : ∀ j, sI H46 tp j = sI H0 tp j := fun j => (kp_aI hp46 j gtp rfl rfl).trans (tpt j)
        have f46_0 := hr46
        have hav := f46_0
        have hR2 : ∀ i, RWE ks vs ws i Hb H46 := fun i => (hR1 i).kp hp46 gks gvs gws rfl
        have hpost : ∃ (kd vl w3 : Nat → Int) (pos : Nat → Nat) (N : Nat), TKS (bf H0 tp) (a1).toNat N pos kd vl w3 ∧ CU X Γ H46 h0 kd vl N 0 := by rcases (show z39 = 0 ∨ z39 = 1 by omega) with he | he; (exfalso; have q1 := (hts.1 he).lt; omega); exact ((hts.2 he).kp hR2).cu g0 ((kp_R hKp46 g0 (ci := 4) (k := 2) rfl (by decide) rfl).trans hks) ((kp_R hKp46 g0 (ci := 4) (k := 4) rfl (by decide) rfl).trans hvs) ((kp_R hKp46 g0 (ci := 4) (k := 5) rfl (by decide) rfl).trans hws) gks gvs gws (hav 0 (by rw [htk]; decide) (by omega))
        exact ret H46 locs46 _ _ dX4_start_207 ⟨hKp46, hpost⟩ hC46 hS46
      · refine lv_iload_n hx hb dX4_start_37 rfl (lv_at hl 1 rfl) ?_
        refine q_if_ne hx hb (a := z39) ev39 (tgt := 198) dX4_start_38 rfl (fun c47 => ?_) (fun c47 => ?_)
        · refine lv_aload_n hx hb dX4_start_198 rfl (lv_at hl 2 rfl) ?_
          refine lv_iconst (v := (-1)) hx hb dX4_start_199 rfl ?_
          refine q_put E hC40 hS40 g0 fp_RX4_72 tv_F rfl rfl dX4_start_200 (fun H48 locs48 hC48 hS48 U48 => ?_)
          have hKp48 := Kp.upO E g0 fp_RX4_72 rfl U48 hKp40
          have e49 := up_I U48
          replace tpt : ∀ j, sI H48 tp j = sI H0 tp j := fun j => (up_nI U48 (ne_k gtp g0 (by decide))).trans (tpt j)
          have m50 : (sI H48 h0 (X.1.2 4 7)).toInt = (sI H40 h0 (X.1.2 4 7)).toInt := congrArg Int32.toInt (up_nI U48 (ne_f E 4 7 8 rfl (by decide) (by decide) (by decide)))
          have m51 : (sI H48 h0 (X.1.2 4 6)).toInt = (sI H40 h0 (X.1.2 4 6)).toInt := congrArg Int32.toInt (up_nI U48 (ne_f E 4 6 8 rfl (by decide) (by decide) (by decide)))
          have htk := up_I U48
          have hR1 : ∀ i, RWE ks vs ws i Hb H48 := fun i => by rw [hHb]; exact RWE.up RWE.rf U48 (Or.inr ⟨nek g0 gks (by decide), nek g0 gvs (by decide), nek g0 gws (by decide)⟩)
          refine lv_aload_n hx hb dX4_start_203 rfl (lv_at hl 2 rfl) ?_
          refine q_goV (q_runV (As := []) (rest := []) E hC48 hS48 (m_X4_advance l X Γ H48 hC48 h0 g0) cw_X4_advance cl_RX4_75 g0 ⟨rfl, rfl⟩ rfl hl.1 rfl (Nat.zero_le _) (by decide) dX4_start_204) hS48 (fun H52 locs52 hr52 hC52 hS52 => ?_)
          obtain ⟨hp52, hr52⟩ := hr52
          have hKp52 := hKp48.tr (hp52.mono rfl)
          replace tpt : ∀ j, sI H52 tp j = sI H0 tp j := fun j => (kp_aI hp52 j gtp rfl rfl).trans (tpt j)
          have f52_0 := hr52
          have hav := f52_0
          have hR2 : ∀ i, RWE ks vs ws i Hb H52 := fun i => (hR1 i).kp hp52 gks gvs gws rfl
          have hpost : ∃ (kd vl w3 : Nat → Int) (pos : Nat → Nat) (N : Nat), TKS (bf H0 tp) (a1).toNat N pos kd vl w3 ∧ CU X Γ H52 h0 kd vl N 0 := by rcases (show z39 = 0 ∨ z39 = 1 by omega) with he | he; (exfalso; have q1 := (hts.1 he).lt; omega); exact ((hts.2 he).kp hR2).cu g0 ((kp_R hKp52 g0 (ci := 4) (k := 2) rfl (by decide) rfl).trans hks) ((kp_R hKp52 g0 (ci := 4) (k := 4) rfl (by decide) rfl).trans hvs) ((kp_R hKp52 g0 (ci := 4) (k := 5) rfl (by decide) rfl).trans hws) gks gvs gws (hav 0 (by rw [htk]; decide) (by omega))
          exact ret H52 locs52 _ _ dX4_start_207 ⟨hKp52, hpost⟩ hC52 hS52
        · have hts0 := hts.1 (by omega)
          have hlt0 := hts0.lt
          have tb1 := bf_eq tpt
          refine lv_aload_n hx hb dX4_start_41 rfl (lv_at hl 2 rfl) ?_
          refine q_goV (q_runV (As := []) (rest := []) E hC40 hS40 (m_X4_passBlanks l X Γ H40 hC40 h0 g0 tp ((kp_R hKp40 g0 (ci := 4) (k := 0) rfl (by decide) rfl).trans htp) gtp (by omega) (by omega) (by omega)) cw_X4_passBlanks cl_RX4_54 g0 ⟨rfl, rfl⟩ rfl hl.1 rfl (Nat.zero_le _) (by decide) dX4_start_42) hS40 (fun H53 locs53 hr53 hC53 hS53 => ?_)
          obtain ⟨hp53, hr53⟩ := hr53
          have hKp53 := hKp40.tr (hp53.mono rfl)
          replace tpt : ∀ j, sI H53 tp j = sI H0 tp j := fun j => (kp_aI hp53 j gtp rfl rfl).trans (tpt j)
          replace rwe : RWE ks vs ws (z38 : Int).toNat Hb H53 := rwe.kp hp53 gks gvs gws rfl
          obtain ⟨f53_0, f53_1, f53_2, f53_3⟩ := hr53
          obtain ⟨sq, hsq⟩ : ∃ z, z = (sI H53 h0 (X.1.2 4 7)).toInt := ⟨_, rfl⟩
          have hB : SpZ isBl (bf H0 tp) a1 (sI Hb h0 (X.1.2 4 7)).toInt sq := SpZ.cast (tb1 ▸ f53_0) (by omega) (by omega) (by omega)
          refine lv_aload_n hx hb dX4_start_45 rfl (lv_at hl 2 rfl) ?_
          refine q_getS E hC53 g0 fa_RX4_19 ((kp_R hKp53 g0 (ci := 4) (k := 3) rfl (by decide) rfl).trans hps) dX4_start_46 (fun _ => ?_)
          refine lv_iload_n hx hb dX4_start_49 rfl (lv_at hl 0 rfl) ?_
          refine lv_aload_n hx hb dX4_start_50 rfl (lv_at hl 2 rfl) ?_
          refine q_getI E hC53 g0 fa_RX4_51 dX4_start_51 (fun v54 ev54 _ _ => ?_)
          have m55 : (sI H53 h0 (X.1.2 4 7)).toInt = v54.toInt := (congrArg Int32.toInt ev54).trans rfl
          refine q_iast E hC53 hS53 gps (by decide) rfl rfl (i_in (a := z38) ev38 (by omega) (by omega)) tv_F dX4_start_54 (fun H56 locs56 hC56 hS56 U56 => ?_)
          have hKp56 := Kp.upA gps rfl (by decide) rfl U56 hKp53
          have m57 : aI H56 ps z38 = v54.toInt := aI_up U56 ev38 rfl
          replace tpt : ∀ j, sI H56 tp j = sI H0 tp j := fun j => (up_nI U56 (ne_k gtp gps (by decide))).trans (tpt j)
          replace rwe : RWE ks vs ws (z38 : Int).toNat Hb H56 := rwe.up U56 (by first | exact Or.inr ⟨nek gps gks (by decide), nek gps gvs (by decide), nek gps gws (by decide)⟩ | exact Or.inl (Nat.le_of_eq (i_ix ev38).symm) | exact Or.inl (Nat.le_refl _))
          have m58 : (sI H56 h0 (X.1.2 4 7)).toInt = (sI H53 h0 (X.1.2 4 7)).toInt := congrArg Int32.toInt (up_nI U56 (ne_k g0 gps (by decide)))
          have m59 : (sI H56 h0 (X.1.2 4 6)).toInt = (sI H53 h0 (X.1.2 4 6)).toInt := congrArg Int32.toInt (up_nI U56 (ne_k g0 gps (by decide)))
          have cp : sI H56 ps (z38 : Int).toNat = v54 := by rw [← i_ix ev38]; exact up_I U56
          have hpl : (v54 : Int32).toInt = sq := by omega
          refine lv_aload_n hx hb dX4_start_55 rfl (lv_at hl 2 rfl) ?_
          refine q_getS E hC56 g0 fa_RX4_22 ((kp_R hKp56 g0 (ci := 4) (k := 4) rfl (by decide) rfl).trans hvs) dX4_start_56 (fun _ => ?_)
          refine lv_iload_n hx hb dX4_start_59 rfl (lv_at hl 0 rfl) ?_
          refine lv_lconst (v := 0) hx hb dX4_start_60 rfl ?_
          refine q_last2 E hC56 hS56 gvs (by decide) rfl rfl (fun _ => rfl) (a := z38) ev38 (by omega) (by omega) dX4_start_61 (fun H60 locs60 hC60 hS60 U60 => ?_)
          have hKp60 := Kp.upA gvs rfl (by decide) rfl U60 hKp56
          replace tpt : ∀ j, sI H60 tp j = sI H0 tp j := fun j => (up_nI U60 (ne_k gtp gvs (by decide))).trans (tpt j)
          replace rwe : RWE ks vs ws (z38 : Int).toNat Hb H60 := rwe.up U60 (by first | exact Or.inr ⟨nek gvs gks (by decide), nek gvs gvs (by decide), nek gvs gws (by decide)⟩ | exact Or.inl (Nat.le_of_eq (i_ix ev38).symm) | exact Or.inl (Nat.le_refl _))
          have cp : sI H60 ps (z38 : Int).toNat = v54 := (up_nI U60 (ne_k gps gvs (by decide))).trans cp
          have m61 : (sI H60 h0 (X.1.2 4 7)).toInt = (sI H56 h0 (X.1.2 4 7)).toInt := congrArg Int32.toInt (up_nI U60 (ne_k g0 gvs (by decide)))
          have m62 : (sI H60 h0 (X.1.2 4 6)).toInt = (sI H56 h0 (X.1.2 4 6)).toInt := congrArg Int32.toInt (up_nI U60 (ne_k g0 gvs (by decide)))
          have cv : sJ H60 vs (z38 : Int).toNat = 0 := up_J U60
          refine lv_aload_n hx hb dX4_start_62 rfl (lv_at hl 2 rfl) ?_
          refine q_getS E hC60 g0 fa_RX4_28 ((kp_R hKp60 g0 (ci := 4) (k := 5) rfl (by decide) rfl).trans hws) dX4_start_63 (fun _ => ?_)
          refine lv_iload_n hx hb dX4_start_66 rfl (lv_at hl 0 rfl) ?_
          refine lv_null hx hb dX4_start_67 ?_
          refine q_wast (o := none) E hC60 hS60 gws (by decide) rfl rfl (fun _ => rfl) (fun _ h => by cases h) (i_in (a := z38) ev38 (by omega) (by omega)) dX4_start_68 (fun H63 locs63 hC63 hS63 U63 => ?_)
          have hKp63 := Kp.upA gws rfl (by decide) rfl U63 hKp60
          replace tpt : ∀ j, sI H63 tp j = sI H0 tp j := fun j => (up_nI U63 (ne_k gtp gws (by decide))).trans (tpt j)
          replace rwe : RWE ks vs ws (z38 : Int).toNat Hb H63 := rwe.up U63 (by first | exact Or.inr ⟨nek gws gks (by decide), nek gws gvs (by decide), nek gws gws (by decide)⟩ | exact Or.inl (Nat.le_of_eq (i_ix ev38).symm) | exact Or.inl (Nat.le_refl _))
          have cp : sI H63 ps (z38 : Int).toNat = v54 := (up_nI U63 (ne_k gps gws (by decide))).trans cp
          have cv : sJ H63 vs (z38 : Int).toNat = 0 := (up_nJ U63 (ne_k gvs gws (by decide))).trans cv
          have m64 : (sI H63 h0 (X.1.2 4 7)).toInt = (sI H60 h0 (X.1.2 4 7)).toInt := congrArg Int32.toInt (up_nI U63 (ne_k g0 gws (by decide)))
          have m65 : (sI H63 h0 (X.1.2 4 6)).toInt = (sI H60 h0 (X.1.2 4 6)).toInt := congrArg Int32.toInt (up_nI U63 (ne_k g0 gws (by decide)))
          have cw : sR H63 ws (z38 : Int).toNat = none := by rw [← i_ix ev38]; exact up_Q (o := none) U63
          refine lv_aload_n hx hb dX4_start_69 rfl (lv_at hl 2 rfl) ?_
          refine q_getS E hC63 g0 fa_RX4_15 ((kp_R hKp63 g0 (ci := 4) (k := 2) rfl (by decide) rfl).trans hks) dX4_start_70 (fun _ => ?_)
          refine lv_iload_n hx hb dX4_start_73 rfl (lv_at hl 0 rfl) ?_
          refine lv_aload_n hx hb dX4_start_74 rfl (lv_at hl 2 rfl) ?_
          have tb2 := bf_eq tpt
          refine q_goIp (q_runV (As := []) (rest := [.int v38, .ref ks]) E hC63 hS63 (m_X4_kindHere l X Γ H63 hC63 h0 g0 tp ((kp_R hKp63 g0 (ci := 4) (k := 0) rfl (by decide) rfl).trans htp) gtp (by omega) (by omega) (by omega)) cw_X4_kindHere cl_RX4_57 g0 ⟨rfl, rfl⟩ rfl hl.1 rfl (show _ ≤ _ from by simp [Value.category]) (by decide) dX4_start_75) hS63 (fun v66 locs66 hr66 hS66 => ?_)
          have f66_0 := hr66
          have hK : (a1 ≤ sq ∧ v66.toInt = 0) ∨ (sq < a1 ∧ KHR (bf H0 tp sq.toNat) v66.toInt) := by have q := f66_0; rw [tb2, show (sI H63 h0 (X.1.2 4 7)).toInt = sq by omega, show (sI H63 h0 (X.1.2 4 6)).toInt = a1 by omega] at q; exact q
          refine q_iast E hC63 hS66 gks (by decide) rfl rfl (i_in (a := z38) ev38 (by omega) (by omega)) tv_F dX4_start_78 (fun H67 locs67 hC67 hS67 U67 => ?_)
          have hKp67 := Kp.upA gks rfl (by decide) rfl U67 hKp63
          have m68 : aI H67 ks z38 = v66.toInt := aI_up U67 ev38 rfl
          replace tpt : ∀ j, sI H67 tp j = sI H0 tp j := fun j => (up_nI U67 (ne_k gtp gks (by decide))).trans (tpt j)
          replace rwe : RWE ks vs ws (z38 : Int).toNat Hb H67 := rwe.up U67 (by first | exact Or.inr ⟨nek gks gks (by decide), nek gks gvs (by decide), nek gks gws (by decide)⟩ | exact Or.inl (Nat.le_of_eq (i_ix ev38).symm) | exact Or.inl (Nat.le_refl _))
          have cp : sI H67 ps (z38 : Int).toNat = v54 := (up_nI U67 (ne_k gps gks (by decide))).trans cp
          have cv : sJ H67 vs (z38 : Int).toNat = 0 := (up_nJ U67 (ne_k gvs gks (by decide))).trans cv
          have cw : sR H67 ws (z38 : Int).toNat = none := (up_nR U67 (ne_k gws gks (by decide))).trans cw
          have m69 : (sI H67 h0 (X.1.2 4 7)).toInt = (sI H63 h0 (X.1.2 4 7)).toInt := congrArg Int32.toInt (up_nI U67 (ne_k g0 gks (by decide)))
          have m70 : (sI H67 h0 (X.1.2 4 6)).toInt = (sI H63 h0 (X.1.2 4 6)).toInt := congrArg Int32.toInt (up_nI U67 (ne_k g0 gks (by decide)))
          have ck : sI H67 ks (z38 : Int).toNat = v66 := by rw [← i_ix ev38]; exact up_I U67
          refine lv_aload_n hx hb dX4_start_79 rfl (lv_at hl 2 rfl) ?_
          refine q_getS E hC67 g0 fa_RX4_15 ((kp_R hKp67 g0 (ci := 4) (k := 2) rfl (by decide) rfl).trans hks) dX4_start_80 (fun _ => ?_)
          refine lv_iload_n hx hb dX4_start_83 rfl (lv_at hl 0 rfl) ?_
          refine q_iald E hC67 gks rfl rfl (fun _ h => h) (i_in (a := z38) ev38 (by omega) (by omega)) dX4_start_84 (fun v71 ev71 _ _ => ?_)
          have m72 : aI H67 ks z38 = v71.toInt := aI_of ev38 ev71
          have hk1 : v71.toInt = _ := congrArg Int32.toInt (ev71.symm.trans ((congrArg (sI H67 ks) (i_ix ev38)).trans ck))
          refine q_if_ne hx hb (a := v71.toInt) rfl (tgt := 92) dX4_start_85 rfl (fun c73 => ?_) (fun c73 => ?_)
          · refine lv_iconst (v := 0) hx hb dX4_start_92 rfl ?_
            refine lv_istore_n hx hb dX4_start_93 rfl hl (by decide) rfl (fun ls hl => ?_)
            replace hl : lv_has ls 4 [(2, .int 0), (3, .int v38), (0, .ref h0), (1, .int p1)] := hl
            refine lv_aload_n hx hb dX4_start_94 rfl (lv_at hl 2 rfl) ?_
            refine q_getS E hC67 g0 fa_RX4_15 ((kp_R hKp67 g0 (ci := 4) (k := 2) rfl (by decide) rfl).trans hks) dX4_start_95 (fun _ => ?_)
            refine lv_iload_n hx hb dX4_start_98 rfl (lv_at hl 1 rfl) ?_
            refine q_iald E hC67 gks rfl rfl (fun _ h => h) (i_in (a := z38) ev38 (by omega) (by omega)) dX4_start_99 (fun v74 ev74 _ _ => ?_)
            have m75 : aI H67 ks z38 = v74.toInt := aI_of ev38 ev74
            have hk2 : v74.toInt = _ := congrArg Int32.toInt (ev74.symm.trans ((congrArg (sI H67 ks) (i_ix ev38)).trans ck))
            refine lv_iconst (v := 2) hx hb dX4_start_100 rfl ?_
            refine q_icmp_ne hx hb (a := v74.toInt) (b := 2) rfl (by decide) (tgt := 132) dX4_start_101 rfl (fun c76 => ?_) (fun c76 => ?_)
            · refine lv_aload_n hx hb dX4_start_132 rfl (lv_at hl 2 rfl) ?_
              refine q_getS E hC67 g0 fa_RX4_15 ((kp_R hKp67 g0 (ci := 4) (k := 2) rfl (by decide) rfl).trans hks) dX4_start_133 (fun _ => ?_)
              refine lv_iload_n hx hb dX4_start_136 rfl (lv_at hl 1 rfl) ?_
              refine q_iald E hC67 gks rfl rfl (fun _ h => h) (i_in (a := z38) ev38 (by omega) (by omega)) dX4_start_137 (fun v77 ev77 _ _ => ?_)
              have m78 : aI H67 ks z38 = v77.toInt := aI_of ev38 ev77
              have hk3 : v77.toInt = _ := congrArg Int32.toInt (ev77.symm.trans ((congrArg (sI H67 ks) (i_ix ev38)).trans ck))
              refine lv_iconst (v := 3) hx hb dX4_start_138 rfl ?_
              refine q_icmp_ne hx hb (a := v77.toInt) (b := 3) rfl (by decide) (tgt := 182) dX4_start_139 rfl (fun c79 => ?_) (fun c79 => ?_)
              · refine lv_aload_n hx hb dX4_start_182 rfl (lv_at hl 2 rfl) ?_
                refine lv_dup hx hb dX4_start_183 rfl ?_
                have e81 := (up_nI U56 (ne_k g0 gps (by decide))).trans ev54
                have e82 := (up_nI U60 (ne_k g0 gvs (by decide))).trans e81
                have e83 := (up_nI U63 (ne_k g0 gws (by decide))).trans e82
                have e84 := (up_nI U67 (ne_k g0 gks (by decide))).trans e83
                refine q_getI E hC67 g0 fa_RX4_51 dX4_start_184 (fun v80 ev80 _ _ => ?_)
                have qv80 := e84.symm.trans ev80; subst qv80
                have m85 : (sI H67 h0 (X.1.2 4 7)).toInt = v54.toInt := (congrArg Int32.toInt ev80).trans rfl
                refine lv_iconst (v := 1) hx hb dX4_start_187 rfl ?_
                refine lv_iadd hx hb dX4_start_188 (lv_topi (fun v86 ev86 => ?_))
                have ev86i : v86.toInt = (v54.toInt + 1) := i_add ev86 rfl (by decide) (by omega) (by omega)
                refine q_put E hC67 hS67 g0 fp_RX4_51 tv_F rfl rfl dX4_start_189 (fun H87 locs87 hC87 hS87 U87 => ?_)
                have hKp87 := Kp.upO E g0 fp_RX4_51 rfl U87 hKp67
                have e88 := up_I U87
                have m89 : (sI H87 h0 (X.1.2 4 7)).toInt = (v54.toInt + 1) := (congrArg Int32.toInt e88).trans ev86i
                replace tpt : ∀ j, sI H87 tp j = sI H0 tp j := fun j => (up_nI U87 (ne_k gtp g0 (by decide))).trans (tpt j)
                replace rwe : RWE ks vs ws (z38 : Int).toNat Hb H87 := rwe.up U87 (by first | exact Or.inr ⟨nek g0 gks (by decide), nek g0 gvs (by decide), nek g0 gws (by decide)⟩ | exact Or.inl (Nat.le_of_eq (rfl).symm) | exact Or.inl (Nat.le_refl _))
                have cp : sI H87 ps (z38 : Int).toNat = v54 := (up_nI U87 (ne_k gps g0 (by decide))).trans cp
                have cv : sJ H87 vs (z38 : Int).toNat = 0 := (up_nJ U87 (ne_k gvs g0 (by decide))).trans cv
                have cw : sR H87 ws (z38 : Int).toNat = none := (up_nR U87 (ne_k gws g0 (by decide))).trans cw
                have ck : sI H87 ks (z38 : Int).toNat = v66 := (up_nI U87 (ne_k gks g0 (by decide))).trans ck
                have m90 : (sI H87 h0 (X.1.2 4 6)).toInt = (sI H67 h0 (X.1.2 4 6)).toInt := congrArg Int32.toInt (up_nI U87 (ne_f E 4 6 7 rfl (by decide) (by decide) (by decide)))
                have hTT : TK1 (bf H0 tp) (a1).toNat (sI Hb h0 (X.1.2 4 7)).toInt.toNat (sI H87 ks (z38 : Int).toNat).toInt (sJ H87 vs (z38 : Int).toNat).toInt ((sI H87 h0 (X.1.2 4 7)).toInt).toNat := by rw [ck, cv]; first | exact TK1.oth hB (by omega) (hK.resolve_left (by omega)).2 (by omega) (by omega) (by omega) (by omega) | exact TK1.fin hB (by rcases hK with q | q; exact q.1; exact absurd (by omega) q.2.nz) (by omega) (by omega) (by omega)
                have hWD : WDT X (sI H87 ks (z38 : Int).toNat).toInt (sJ H87 vs (z38 : Int).toNat).toInt (sR H87 ws (z38 : Int).toNat) := by rw [ck, cw]; exact WDT.no (by omega)
                have hkk : (sI H87 ks (z38 : Int).toNat).toInt = _ := congrArg Int32.toInt ck
                have hix3 : (z38 + 1 : Int).toNat = (z38 : Int).toNat + 1 := by omega
                have hnx : ((0 : Int) = 0 → TSP X H87 ks vs ws (bf H0 tp) (a1).toNat (z38 + 1 : Int).toNat (sI H87 h0 (X.1.2 4 7)).toInt) ∧ ((0 : Int) = 1 → TSF X H87 ks vs ws (bf H0 tp) (a1).toNat) := by rw [hix3]; first | (exfalso; omega) | exact ⟨fun _ => TSP.step hts0 rwe (by omega) hTT hWD (by omega), fun q => absurd q (by decide)⟩ | exact ⟨fun q => absurd q (by decide), fun _ => TSP.fin hts0 rwe (by omega) hTT hWD (by omega)⟩
                obtain ⟨v91, ev91⟩ : ∃ z, z = v38 + Int32.ofInt 1 := ⟨_, rfl⟩
                have ev91i : v91.toInt = (z38 + 1) := i_add ev91 ev38 (by decide) (by omega) (by omega)
                refine lv_iinc hx hb dX4_start_192 hl (k := 1) rfl ev91.symm (by decide) rfl (fun ls hl => ?_)
                replace hl : lv_has ls 4 [(3, .int v91), (2, .int 0), (0, .ref h0), (1, .int p1)] := hl
                refine lv_goto (tgt := 30) hx hb dX4_start_195 rfl ?_
                exact ih40 H87 locs87 v91 ((z38 + 1)) 0 (0) ls (ms_lt hm40 (by omega) (by omega)) ev91i (by decide) (by omega) (by omega) (by omega) (by omega) (by omega) (by omega) (hnx) hC87 hS87 hKp87 tpt hl
              · refine lv_aload_n hx hb dX4_start_142 rfl (lv_at hl 2 rfl) ?_
                refine q_getS E hC67 g0 fa_RX4_22 ((kp_R hKp67 g0 (ci := 4) (k := 4) rfl (by decide) rfl).trans hvs) dX4_start_143 (fun _ => ?_)
                refine lv_iload_n hx hb dX4_start_146 rfl (lv_at hl 1 rfl) ?_
                refine lv_aload_n hx hb dX4_start_147 rfl (lv_at hl 2 rfl) ?_
                have tb4 := bf_eq tpt
                refine q_goI (q_runV (As := []) (rest := [.int v38, .ref vs]) E hC67 hS67 (m_X4_passNumber l X Γ H67 hC67 h0 g0 tp ((kp_R hKp67 g0 (ci := 4) (k := 0) rfl (by decide) rfl).trans htp) gtp (by omega) (by omega) (by omega)) cw_X4_passNumber cl_RX4_69 g0 ⟨rfl, rfl⟩ rfl hl.1 rfl (show _ ≤ _ from by simp [Value.category]) (by decide) dX4_start_148) hS67 (fun v92 H92 locs92 hr92 hC92 hS92 => ?_)
                obtain ⟨hp92, hr92⟩ := hr92
                have hKp92 := hKp67.tr (hp92.mono rfl)
                replace tpt : ∀ j, sI H92 tp j = sI H0 tp j := fun j => (kp_aI hp92 j gtp rfl rfl).trans (tpt j)
                replace rwe : RWE ks vs ws (z38 : Int).toNat Hb H92 := rwe.kp hp92 gks gvs gws rfl
                have cp : sI H92 ps (z38 : Int).toNat = v54 := (kp_aI hp92 _ gps rfl rfl).trans cp
                have cv : sJ H92 vs (z38 : Int).toNat = 0 := (kp_aJ hp92 _ gvs rfl rfl).trans cv
                have cw : sR H92 ws (z38 : Int).toNat = none := (kp_aR hp92 _ gws rfl rfl).trans cw
                have ck : sI H92 ks (z38 : Int).toNat = v66 := (kp_aI hp92 _ gks rfl rfl).trans ck
                obtain ⟨f92_0, f92_1, f92_2, f92_3, f92_4, f92_5, f92_6⟩ := hr92
                obtain ⟨qq, hqq⟩ : ∃ z, z = (sI H92 h0 (X.1.2 4 7)).toInt := ⟨_, rfl⟩
                have hD : SpZ isDg (bf H0 tp) a1 sq qq := SpZ.cast (tb4 ▸ f92_0) (by omega) (by omega) (by omega)
                have hsb : (sI H67 h0 (X.1.2 4 7)).toInt = sq := by omega
                have hN := f92_4; rw [tb4, hsb, ← hqq] at hN
                refine lv_i2l (v := v92.toInt64) hx hb dX4_start_151 rfl (lv_topl (fun v93 ev93 => ?_))
                have ev93i : v93.toInt = v92.toInt := l_ofi ev93.symm rfl
                refine q_last2 E hC92 hS92 gvs (by decide) rfl rfl (fun _ => rfl) (a := z38) ev38 (by omega) (by omega) dX4_start_152 (fun H94 locs94 hC94 hS94 U94 => ?_)
                have hKp94 := Kp.upA gvs rfl (by decide) rfl U94 hKp92
                replace tpt : ∀ j, sI H94 tp j = sI H0 tp j := fun j => (up_nI U94 (ne_k gtp gvs (by decide))).trans (tpt j)
                replace rwe : RWE ks vs ws (z38 : Int).toNat Hb H94 := rwe.up U94 (by first | exact Or.inr ⟨nek gvs gks (by decide), nek gvs gvs (by decide), nek gvs gws (by decide)⟩ | exact Or.inl (Nat.le_of_eq (i_ix ev38).symm) | exact Or.inl (Nat.le_refl _))
                have cp : sI H94 ps (z38 : Int).toNat = v54 := (up_nI U94 (ne_k gps gvs (by decide))).trans cp
                have cw : sR H94 ws (z38 : Int).toNat = none := (up_nR U94 (ne_k gws gvs (by decide))).trans cw
                have ck : sI H94 ks (z38 : Int).toNat = v66 := (up_nI U94 (ne_k gks gvs (by decide))).trans ck
                have m95 : (sI H94 h0 (X.1.2 4 7)).toInt = (sI H92 h0 (X.1.2 4 7)).toInt := congrArg Int32.toInt (up_nI U94 (ne_k g0 gvs (by decide)))
                have m96 : (sI H94 h0 (X.1.2 4 6)).toInt = (sI H92 h0 (X.1.2 4 6)).toInt := congrArg Int32.toInt (up_nI U94 (ne_k g0 gvs (by decide)))
                have hV : (v93 : Int64).toInt = v92.toInt := ev93i
                have cv : sJ H94 vs (z38 : Int).toNat = v93 := up_J U94
                refine lv_aload_n hx hb dX4_start_153 rfl (lv_at hl 2 rfl) ?_
                refine q_getS E hC94 g0 fa_RX4_15 ((kp_R hKp94 g0 (ci := 4) (k := 2) rfl (by decide) rfl).trans hks) dX4_start_154 (fun _ => ?_)
                refine lv_iload_n hx hb dX4_start_157 rfl (lv_at hl 1 rfl) ?_
                refine lv_aload_n hx hb dX4_start_158 rfl (lv_at hl 2 rfl) ?_
                have e98 := (up_nI U56 (ne_k g0 gps (by decide))).trans ev54
                have e99 := (up_nI U60 (ne_k g0 gvs (by decide))).trans e98
                have e100 := (up_nI U63 (ne_k g0 gws (by decide))).trans e99
                have e101 := (up_nI U67 (ne_k g0 gks (by decide))).trans e100
                refine q_getI E hC94 g0 fa_RX4_51 dX4_start_159 (fun v97 ev97 _ _ => ?_)
                have m102 : (sI H94 h0 (X.1.2 4 7)).toInt = v97.toInt := (congrArg Int32.toInt ev97).trans rfl
                refine lv_aload_n hx hb dX4_start_162 rfl (lv_at hl 2 rfl) ?_
                refine q_getS E hC94 g0 fa_RX4_19 ((kp_R hKp94 g0 (ci := 4) (k := 3) rfl (by decide) rfl).trans hps) dX4_start_163 (fun _ => ?_)
                refine lv_iload_n hx hb dX4_start_166 rfl (lv_at hl 1 rfl) ?_
                refine q_iald E hC94 gps rfl rfl (fun _ h => h) (i_in (a := z38) ev38 (by omega) (by omega)) dX4_start_167 (fun v103 ev103 _ _ => ?_)
                have m104 : aI H94 ps z38 = v103.toInt := aI_of ev38 ev103
                have hk5 : v103.toInt = sq := (congrArg Int32.toInt (ev103.symm.trans ((congrArg (sI H94 ps) (i_ix ev38)).trans cp))).trans hpl
                refine lv_isub hx hb dX4_start_168 (lv_topi (fun v105 ev105 => ?_))
                have ev105i : v105.toInt = (v97.toInt - v103.toInt) := i_sub ev105 rfl rfl (by omega) (by omega)
                refine lv_iconst (v := 4) hx hb dX4_start_169 rfl ?_
                refine q_icmp_le hx hb (a := (v97.toInt - v103.toInt)) (b := 4) ev105i (by decide) (tgt := 177) dX4_start_170 rfl (fun c106 => ?_) (fun c106 => ?_)
                · refine lv_iconst (v := 3) hx hb dX4_start_177 rfl ?_
                  refine q_iast E hC94 hS94 gks (by decide) rfl rfl (i_in (a := z38) ev38 (by omega) (by omega)) tv_F dX4_start_178 (fun H107 locs107 hC107 hS107 U107 => ?_)
                  have hKp107 := Kp.upA gks rfl (by decide) rfl U107 hKp94
                  have m108 : aI H107 ks z38 = 3 := aI_up U107 ev38 (show (3 : Int32).toInt = 3 from by decide)
                  replace tpt : ∀ j, sI H107 tp j = sI H0 tp j := fun j => (up_nI U107 (ne_k gtp gks (by decide))).trans (tpt j)
                  replace rwe : RWE ks vs ws (z38 : Int).toNat Hb H107 := rwe.up U107 (by first | exact Or.inr ⟨nek gks gks (by decide), nek gks gvs (by decide), nek gks gws (by decide)⟩ | exact Or.inl (Nat.le_of_eq (i_ix ev38).symm) | exact Or.inl (Nat.le_refl _))
                  have cp : sI H107 ps (z38 : Int).toNat = v54 := (up_nI U107 (ne_k gps gks (by decide))).trans cp
                  have cw : sR H107 ws (z38 : Int).toNat = none := (up_nR U107 (ne_k gws gks (by decide))).trans cw
                  have cv : sJ H107 vs (z38 : Int).toNat = v93 := (up_nJ U107 (ne_k gvs gks (by decide))).trans cv
                  have m109 : (sI H107 h0 (X.1.2 4 7)).toInt = (sI H94 h0 (X.1.2 4 7)).toInt := congrArg Int32.toInt (up_nI U107 (ne_k g0 gks (by decide)))
                  have m110 : (sI H107 h0 (X.1.2 4 6)).toInt = (sI H94 h0 (X.1.2 4 6)).toInt := congrArg Int32.toInt (up_nI U107 (ne_k g0 gks (by decide)))
                  have ck : sI H107 ks (z38 : Int).toNat = 3 := by rw [← i_ix ev38]; exact up_I U107
                  have hkk : ((sI H107 ks (z38 : Int).toNat).toInt = 3 ∧ qq - sq ≤ 4) ∨ ((sI H107 ks (z38 : Int).toNat).toInt = 1 ∧ 4 < qq - sq) := by rw [ck]; first | exact Or.inl ⟨by decide, by omega⟩ | exact Or.inr ⟨by decide, by omega⟩
                  have hTT : TK1 (bf H0 tp) (a1).toNat (sI Hb h0 (X.1.2 4 7)).toInt.toNat (sI H107 ks (z38 : Int).toNat).toInt (sJ H107 vs (z38 : Int).toNat).toInt ((sI H107 h0 (X.1.2 4 7)).toInt).toNat := by rcases hkk with ⟨q1, q2⟩ | ⟨q1, q2⟩ <;> rw [q1, cv, show (sI H107 h0 (X.1.2 4 7)).toInt = qq by omega]; exact TK1.num hB (by omega) ((hK.resolve_left (by omega)).2.three (by omega)) hD q2 (hV.trans (hN q2)) (by omega); exact TK1.long hB (by omega) ((hK.resolve_left (by omega)).2.three (by omega)) hD q2 (by omega)
                  have hWD : WDT X (sI H107 ks (z38 : Int).toNat).toInt (sJ H107 vs (z38 : Int).toNat).toInt (sR H107 ws (z38 : Int).toNat) := by rw [cw]; exact WDT.no (by omega)
                  have hqs := hD.pos (by omega) ((hK.resolve_left (by omega)).2.three (by omega))
                  refine lv_goto (tgt := 192) hx hb dX4_start_179 rfl ?_
                  have hix3 : (z38 + 1 : Int).toNat = (z38 : Int).toNat + 1 := by omega
                  have hnx : ((0 : Int) = 0 → TSP X H107 ks vs ws (bf H0 tp) (a1).toNat (z38 + 1 : Int).toNat (sI H107 h0 (X.1.2 4 7)).toInt) ∧ ((0 : Int) = 1 → TSF X H107 ks vs ws (bf H0 tp) (a1).toNat) := by rw [hix3]; first | (exfalso; omega) | exact ⟨fun _ => TSP.step hts0 rwe (by omega) hTT hWD (by omega), fun q => absurd q (by decide)⟩ | exact ⟨fun q => absurd q (by decide), fun _ => TSP.fin hts0 rwe (by omega) hTT hWD (by omega)⟩
                  obtain ⟨v111, ev111⟩ : ∃ z, z = v38 + Int32.ofInt 1 := ⟨_, rfl⟩
                  have ev111i : v111.toInt = (z38 + 1) := i_add ev111 ev38 (by decide) (by omega) (by omega)
                  refine lv_iinc hx hb dX4_start_192 hl (k := 1) rfl ev111.symm (by decide) rfl (fun ls hl => ?_)
                  replace hl : lv_has ls 4 [(3, .int v111), (2, .int 0), (0, .ref h0), (1, .int p1)] := hl
                  refine lv_goto (tgt := 30) hx hb dX4_start_195 rfl ?_
                  exact ih40 H107 locs107 v111 ((z38 + 1)) 0 (0) ls (ms_lt hm40 (by omega) (by omega)) ev111i (by decide) (by omega) (by omega) (by omega) (by omega) (by omega) (by omega) (hnx) hC107 hS107 hKp107 tpt hl
                · refine lv_iconst (v := 1) hx hb dX4_start_173 rfl ?_
                  refine lv_goto (tgt := 178) hx hb dX4_start_174 rfl ?_
                  refine q_iast E hC94 hS94 gks (by decide) rfl rfl (i_in (a := z38) ev38 (by omega) (by omega)) tv_F dX4_start_178 (fun H112 locs112 hC112 hS112 U112 => ?_)
                  have hKp112 := Kp.upA gks rfl (by decide) rfl U112 hKp94
                  have m113 : aI H112 ks z38 = 1 := aI_up U112 ev38 (show (1 : Int32).toInt = 1 from by decide)
                  replace tpt : ∀ j, sI H112 tp j = sI H0 tp j := fun j => (up_nI U112 (ne_k gtp gks (by decide))).trans (tpt j)
                  replace rwe : RWE ks vs ws (z38 : Int).toNat Hb H112 := rwe.up U112 (by first | exact Or.inr ⟨nek gks gks (by decide), nek gks gvs (by decide), nek gks gws (by decide)⟩ | exact Or.inl (Nat.le_of_eq (i_ix ev38).symm) | exact Or.inl (Nat.le_refl _))
                  have cp : sI H112 ps (z38 : Int).toNat = v54 := (up_nI U112 (ne_k gps gks (by decide))).trans cp
                  have cw : sR H112 ws (z38 : Int).toNat = none := (up_nR U112 (ne_k gws gks (by decide))).trans cw
                  have cv : sJ H112 vs (z38 : Int).toNat = v93 := (up_nJ U112 (ne_k gvs gks (by decide))).trans cv
                  have m114 : (sI H112 h0 (X.1.2 4 7)).toInt = (sI H94 h0 (X.1.2 4 7)).toInt := congrArg Int32.toInt (up_nI U112 (ne_k g0 gks (by decide)))
                  have m115 : (sI H112 h0 (X.1.2 4 6)).toInt = (sI H94 h0 (X.1.2 4 6)).toInt := congrArg Int32.toInt (up_nI U112 (ne_k g0 gks (by decide)))
                  have ck : sI H112 ks (z38 : Int).toNat = 1 := by rw [← i_ix ev38]; exact up_I U112
                  have hkk : ((sI H112 ks (z38 : Int).toNat).toInt = 3 ∧ qq - sq ≤ 4) ∨ ((sI H112 ks (z38 : Int).toNat).toInt = 1 ∧ 4 < qq - sq) := by rw [ck]; first | exact Or.inl ⟨by decide, by omega⟩ | exact Or.inr ⟨by decide, by omega⟩
                  have hTT : TK1 (bf H0 tp) (a1).toNat (sI Hb h0 (X.1.2 4 7)).toInt.toNat (sI H112 ks (z38 : Int).toNat).toInt (sJ H112 vs (z38 : Int).toNat).toInt ((sI H112 h0 (X.1.2 4 7)).toInt).toNat := by rcases hkk with ⟨q1, q2⟩ | ⟨q1, q2⟩ <;> rw [q1, cv, show (sI H112 h0 (X.1.2 4 7)).toInt = qq by omega]; exact TK1.num hB (by omega) ((hK.resolve_left (by omega)).2.three (by omega)) hD q2 (hV.trans (hN q2)) (by omega); exact TK1.long hB (by omega) ((hK.resolve_left (by omega)).2.three (by omega)) hD q2 (by omega)
                  have hWD : WDT X (sI H112 ks (z38 : Int).toNat).toInt (sJ H112 vs (z38 : Int).toNat).toInt (sR H112 ws (z38 : Int).toNat) := by rw [cw]; exact WDT.no (by omega)
                  have hqs := hD.pos (by omega) ((hK.resolve_left (by omega)).2.three (by omega))
                  refine lv_goto (tgt := 192) hx hb dX4_start_179 rfl ?_
                  have hix3 : (z38 + 1 : Int).toNat = (z38 : Int).toNat + 1 := by omega
                  have hnx : ((0 : Int) = 0 → TSP X H112 ks vs ws (bf H0 tp) (a1).toNat (z38 + 1 : Int).toNat (sI H112 h0 (X.1.2 4 7)).toInt) ∧ ((0 : Int) = 1 → TSF X H112 ks vs ws (bf H0 tp) (a1).toNat) := by rw [hix3]; first | (exfalso; omega) | exact ⟨fun _ => TSP.step hts0 rwe (by omega) hTT hWD (by omega), fun q => absurd q (by decide)⟩ | exact ⟨fun q => absurd q (by decide), fun _ => TSP.fin hts0 rwe (by omega) hTT hWD (by omega)⟩
                  obtain ⟨v116, ev116⟩ : ∃ z, z = v38 + Int32.ofInt 1 := ⟨_, rfl⟩
                  have ev116i : v116.toInt = (z38 + 1) := i_add ev116 ev38 (by decide) (by omega) (by omega)
                  refine lv_iinc hx hb dX4_start_192 hl (k := 1) rfl ev116.symm (by decide) rfl (fun ls hl => ?_)
                  replace hl : lv_has ls 4 [(3, .int v116), (2, .int 0), (0, .ref h0), (1, .int p1)] := hl
                  refine lv_goto (tgt := 30) hx hb dX4_start_195 rfl ?_
                  exact ih40 H112 locs112 v116 ((z38 + 1)) 0 (0) ls (ms_lt hm40 (by omega) (by omega)) ev116i (by decide) (by omega) (by omega) (by omega) (by omega) (by omega) (by omega) (hnx) hC112 hS112 hKp112 tpt hl
            · refine lv_aload_n hx hb dX4_start_104 rfl (lv_at hl 2 rfl) ?_
              refine q_getS E hC67 g0 fa_RX4_22 ((kp_R hKp67 g0 (ci := 4) (k := 4) rfl (by decide) rfl).trans hvs) dX4_start_105 (fun _ => ?_)
              refine lv_iload_n hx hb dX4_start_108 rfl (lv_at hl 1 rfl) ?_
              refine lv_aload_n hx hb dX4_start_109 rfl (lv_at hl 2 rfl) ?_
              have tb3 := bf_eq tpt
              refine q_goJ (q_runV (As := []) (rest := [.int v38, .ref vs]) E hC67 hS67 (m_X4_passWord l X Γ H67 hC67 h0 g0 tp ((kp_R hKp67 g0 (ci := 4) (k := 0) rfl (by decide) rfl).trans htp) gtp (by omega) (by omega) (by omega)) cw_X4_passWord cl_RX4_61 g0 ⟨rfl, rfl⟩ rfl hl.1 rfl (show _ ≤ _ from by simp [Value.category]) (by decide) dX4_start_110) hS67 (fun v117 H117 locs117 hr117 hC117 hS117 => ?_)
              obtain ⟨hp117, hr117⟩ := hr117
              have hKp117 := hKp67.tr (hp117.mono rfl)
              replace tpt : ∀ j, sI H117 tp j = sI H0 tp j := fun j => (kp_aI hp117 j gtp rfl rfl).trans (tpt j)
              replace rwe : RWE ks vs ws (z38 : Int).toNat Hb H117 := rwe.kp hp117 gks gvs gws rfl
              have cp : sI H117 ps (z38 : Int).toNat = v54 := (kp_aI hp117 _ gps rfl rfl).trans cp
              have cv : sJ H117 vs (z38 : Int).toNat = 0 := (kp_aJ hp117 _ gvs rfl rfl).trans cv
              have cw : sR H117 ws (z38 : Int).toNat = none := (kp_aR hp117 _ gws rfl rfl).trans cw
              have ck : sI H117 ks (z38 : Int).toNat = v66 := (kp_aI hp117 _ gks rfl rfl).trans ck
              obtain ⟨f117_0, f117_1, f117_2, f117_3, f117_4⟩ := hr117
              obtain ⟨qq, hqq⟩ : ∃ z, z = (sI H117 h0 (X.1.2 4 7)).toInt := ⟨_, rfl⟩
              have hW : SpZ isLt (bf H0 tp) a1 sq qq := SpZ.cast (tb3 ▸ f117_0) (by omega) (by omega) (by omega)
              have hsb : (sI H67 h0 (X.1.2 4 7)).toInt = sq := by omega
              have hV := f117_4; rw [tb3, hsb, ← hqq] at hV
              refine q_last2 E hC117 hS117 gvs (by decide) rfl rfl (fun _ => rfl) (a := z38) ev38 (by omega) (by omega) dX4_start_113 (fun H118 locs118 hC118 hS118 U118 => ?_)
              have hKp118 := Kp.upA gvs rfl (by decide) rfl U118 hKp117
              replace tpt : ∀ j, sI H118 tp j = sI H0 tp j := fun j => (up_nI U118 (ne_k gtp gvs (by decide))).trans (tpt j)
              replace rwe : RWE ks vs ws (z38 : Int).toNat Hb H118 := rwe.up U118 (by first | exact Or.inr ⟨nek gvs gks (by decide), nek gvs gvs (by decide), nek gvs gws (by decide)⟩ | exact Or.inl (Nat.le_of_eq (i_ix ev38).symm) | exact Or.inl (Nat.le_refl _))
              have cp : sI H118 ps (z38 : Int).toNat = v54 := (up_nI U118 (ne_k gps gvs (by decide))).trans cp
              have cw : sR H118 ws (z38 : Int).toNat = none := (up_nR U118 (ne_k gws gvs (by decide))).trans cw
              have ck : sI H118 ks (z38 : Int).toNat = v66 := (up_nI U118 (ne_k gks gvs (by decide))).trans ck
              have m119 : (sI H118 h0 (X.1.2 4 7)).toInt = (sI H117 h0 (X.1.2 4 7)).toInt := congrArg Int32.toInt (up_nI U118 (ne_k g0 gvs (by decide)))
              have m120 : (sI H118 h0 (X.1.2 4 6)).toInt = (sI H117 h0 (X.1.2 4 6)).toInt := congrArg Int32.toInt (up_nI U118 (ne_k g0 gvs (by decide)))
              have cv : sJ H118 vs (z38 : Int).toNat = v117 := up_J U118
              refine lv_aload_n hx hb dX4_start_114 rfl (lv_at hl 2 rfl) ?_
              refine q_getS E hC118 g0 fa_RX4_28 ((kp_R hKp118 g0 (ci := 4) (k := 5) rfl (by decide) rfl).trans hws) dX4_start_115 (fun _ => ?_)
              refine lv_iload_n hx hb dX4_start_118 rfl (lv_at hl 1 rfl) ?_
              refine lv_aload_n hx hb dX4_start_119 rfl (lv_at hl 2 rfl) ?_
              refine q_getS E hC118 g0 fa_RX4_22 ((kp_R hKp118 g0 (ci := 4) (k := 4) rfl (by decide) rfl).trans hvs) dX4_start_120 (fun _ => ?_)
              refine lv_iload_n hx hb dX4_start_123 rfl (lv_at hl 1 rfl) ?_
              refine q_lald2 E hC118 gvs rfl rfl (fun _ => rfl) (a := z38) ev38 (by omega) (by omega) dX4_start_124 (fun v121 ev121 => ?_)
              have hk4 : v121.toInt = _ := congrArg Int64.toInt (ev121.symm.trans cv)
              refine q_goQp (q_runS (As := [.long v121]) (rest := [.int v38, .ref ws]) E hS118 (m_X8_of l X Γ H118 hC118 v121 (a0 := v121.toInt) rfl) cw_X8_of cl_RX4_65 rfl hl.1 rfl (show _ ≤ _ from by simp [Value.category]) (by decide) dX4_start_125) hS118 (fun v122 locs122 hr122 hS122 => ?_)
              have hof := hr122.2
              refine q_wast (o := v122) E hC118 hS122 gws (by decide) rfl rfl (fun _ => rfl) hr122.1 (i_in (a := z38) ev38 (by omega) (by omega)) dX4_start_128 (fun H123 locs123 hC123 hS123 U123 => ?_)
              have hKp123 := Kp.upA gws rfl (by decide) rfl U123 hKp118
              replace tpt : ∀ j, sI H123 tp j = sI H0 tp j := fun j => (up_nI U123 (ne_k gtp gws (by decide))).trans (tpt j)
              replace rwe : RWE ks vs ws (z38 : Int).toNat Hb H123 := rwe.up U123 (by first | exact Or.inr ⟨nek gws gks (by decide), nek gws gvs (by decide), nek gws gws (by decide)⟩ | exact Or.inl (Nat.le_of_eq (i_ix ev38).symm) | exact Or.inl (Nat.le_refl _))
              have cp : sI H123 ps (z38 : Int).toNat = v54 := (up_nI U123 (ne_k gps gws (by decide))).trans cp
              have ck : sI H123 ks (z38 : Int).toNat = v66 := (up_nI U123 (ne_k gks gws (by decide))).trans ck
              have cv : sJ H123 vs (z38 : Int).toNat = v117 := (up_nJ U123 (ne_k gvs gws (by decide))).trans cv
              have m124 : (sI H123 h0 (X.1.2 4 7)).toInt = (sI H118 h0 (X.1.2 4 7)).toInt := congrArg Int32.toInt (up_nI U123 (ne_k g0 gws (by decide)))
              have m125 : (sI H123 h0 (X.1.2 4 6)).toInt = (sI H118 h0 (X.1.2 4 6)).toInt := congrArg Int32.toInt (up_nI U123 (ne_k g0 gws (by decide)))
              have cw : sR H123 ws (z38 : Int).toNat = v122 := by rw [← i_ix ev38]; exact up_Q U123
              have hkk : (sI H123 ks (z38 : Int).toNat).toInt = 2 := by rw [ck]; omega
              have hqs := hW.pos (by omega) ((hK.resolve_left (by omega)).2.two (by omega))
              have hTT : TK1 (bf H0 tp) (a1).toNat (sI Hb h0 (X.1.2 4 7)).toInt.toNat (sI H123 ks (z38 : Int).toNat).toInt (sJ H123 vs (z38 : Int).toNat).toInt ((sI H123 h0 (X.1.2 4 7)).toInt).toNat := by rw [hkk, cv, show (sI H123 h0 (X.1.2 4 7)).toInt = qq by omega]; exact TK1.word hB (by omega) ((hK.resolve_left (by omega)).2.two (by omega)) hW hV (by omega)
              have hWD : WDT X (sI H123 ks (z38 : Int).toNat).toInt (sJ H123 vs (z38 : Int).toNat).toInt (sR H123 ws (z38 : Int).toNat) := by rw [hkk, cv, cw]; exact WDT.word (hk4 ▸ hof) rfl
              refine lv_goto (tgt := 192) hx hb dX4_start_129 rfl ?_
              have hix3 : (z38 + 1 : Int).toNat = (z38 : Int).toNat + 1 := by omega
              have hnx : ((0 : Int) = 0 → TSP X H123 ks vs ws (bf H0 tp) (a1).toNat (z38 + 1 : Int).toNat (sI H123 h0 (X.1.2 4 7)).toInt) ∧ ((0 : Int) = 1 → TSF X H123 ks vs ws (bf H0 tp) (a1).toNat) := by rw [hix3]; first | (exfalso; omega) | exact ⟨fun _ => TSP.step hts0 rwe (by omega) hTT hWD (by omega), fun q => absurd q (by decide)⟩ | exact ⟨fun q => absurd q (by decide), fun _ => TSP.fin hts0 rwe (by omega) hTT hWD (by omega)⟩
              obtain ⟨v126, ev126⟩ : ∃ z, z = v38 + Int32.ofInt 1 := ⟨_, rfl⟩
              have ev126i : v126.toInt = (z38 + 1) := i_add ev126 ev38 (by decide) (by omega) (by omega)
              refine lv_iinc hx hb dX4_start_192 hl (k := 1) rfl ev126.symm (by decide) rfl (fun ls hl => ?_)
              replace hl : lv_has ls 4 [(3, .int v126), (2, .int 0), (0, .ref h0), (1, .int p1)] := hl
              refine lv_goto (tgt := 30) hx hb dX4_start_195 rfl ?_
              exact ih40 H123 locs123 v126 ((z38 + 1)) 0 (0) ls (ms_lt hm40 (by omega) (by omega)) ev126i (by decide) (by omega) (by omega) (by omega) (by omega) (by omega) (by omega) (hnx) hC123 hS123 hKp123 tpt hl
          · refine lv_iconst (v := 1) hx hb dX4_start_88 rfl ?_
            refine lv_goto (tgt := 93) hx hb dX4_start_89 rfl ?_
            refine lv_istore_n hx hb dX4_start_93 rfl hl (by decide) rfl (fun ls hl => ?_)
            replace hl : lv_has ls 4 [(2, .int 1), (3, .int v38), (0, .ref h0), (1, .int p1)] := hl
            refine lv_aload_n hx hb dX4_start_94 rfl (lv_at hl 2 rfl) ?_
            refine q_getS E hC67 g0 fa_RX4_15 ((kp_R hKp67 g0 (ci := 4) (k := 2) rfl (by decide) rfl).trans hks) dX4_start_95 (fun _ => ?_)
            refine lv_iload_n hx hb dX4_start_98 rfl (lv_at hl 1 rfl) ?_
            refine q_iald E hC67 gks rfl rfl (fun _ h => h) (i_in (a := z38) ev38 (by omega) (by omega)) dX4_start_99 (fun v127 ev127 _ _ => ?_)
            have m128 : aI H67 ks z38 = v127.toInt := aI_of ev38 ev127
            have hk2 : v127.toInt = _ := congrArg Int32.toInt (ev127.symm.trans ((congrArg (sI H67 ks) (i_ix ev38)).trans ck))
            refine lv_iconst (v := 2) hx hb dX4_start_100 rfl ?_
            refine q_icmp_ne hx hb (a := v127.toInt) (b := 2) rfl (by decide) (tgt := 132) dX4_start_101 rfl (fun c129 => ?_) (fun c129 => ?_)
            · refine lv_aload_n hx hb dX4_start_132 rfl (lv_at hl 2 rfl) ?_
              refine q_getS E hC67 g0 fa_RX4_15 ((kp_R hKp67 g0 (ci := 4) (k := 2) rfl (by decide) rfl).trans hks) dX4_start_133 (fun _ => ?_)
              refine lv_iload_n hx hb dX4_start_136 rfl (lv_at hl 1 rfl) ?_
              refine q_iald E hC67 gks rfl rfl (fun _ h => h) (i_in (a := z38) ev38 (by omega) (by omega)) dX4_start_137 (fun v130 ev130 _ _ => ?_)
              have m131 : aI H67 ks z38 = v130.toInt := aI_of ev38 ev130
              have hk3 : v130.toInt = _ := congrArg Int32.toInt (ev130.symm.trans ((congrArg (sI H67 ks) (i_ix ev38)).trans ck))
              refine lv_iconst (v := 3) hx hb dX4_start_138 rfl ?_
              refine q_icmp_ne hx hb (a := v130.toInt) (b := 3) rfl (by decide) (tgt := 182) dX4_start_139 rfl (fun c132 => ?_) (fun c132 => ?_)
              · refine lv_aload_n hx hb dX4_start_182 rfl (lv_at hl 2 rfl) ?_
                refine lv_dup hx hb dX4_start_183 rfl ?_
                have e134 := (up_nI U56 (ne_k g0 gps (by decide))).trans ev54
                have e135 := (up_nI U60 (ne_k g0 gvs (by decide))).trans e134
                have e136 := (up_nI U63 (ne_k g0 gws (by decide))).trans e135
                have e137 := (up_nI U67 (ne_k g0 gks (by decide))).trans e136
                refine q_getI E hC67 g0 fa_RX4_51 dX4_start_184 (fun v133 ev133 _ _ => ?_)
                have qv133 := e137.symm.trans ev133; subst qv133
                have m138 : (sI H67 h0 (X.1.2 4 7)).toInt = v54.toInt := (congrArg Int32.toInt ev133).trans rfl
                refine lv_iconst (v := 1) hx hb dX4_start_187 rfl ?_
                refine lv_iadd hx hb dX4_start_188 (lv_topi (fun v139 ev139 => ?_))
                have ev139i : v139.toInt = (v54.toInt + 1) := i_add ev139 rfl (by decide) (by omega) (by omega)
                refine q_put E hC67 hS67 g0 fp_RX4_51 tv_F rfl rfl dX4_start_189 (fun H140 locs140 hC140 hS140 U140 => ?_)
                have hKp140 := Kp.upO E g0 fp_RX4_51 rfl U140 hKp67
                have e141 := up_I U140
                have m142 : (sI H140 h0 (X.1.2 4 7)).toInt = (v54.toInt + 1) := (congrArg Int32.toInt e141).trans ev139i
                replace tpt : ∀ j, sI H140 tp j = sI H0 tp j := fun j => (up_nI U140 (ne_k gtp g0 (by decide))).trans (tpt j)
                replace rwe : RWE ks vs ws (z38 : Int).toNat Hb H140 := rwe.up U140 (by first | exact Or.inr ⟨nek g0 gks (by decide), nek g0 gvs (by decide), nek g0 gws (by decide)⟩ | exact Or.inl (Nat.le_of_eq (rfl).symm) | exact Or.inl (Nat.le_refl _))
                have cp : sI H140 ps (z38 : Int).toNat = v54 := (up_nI U140 (ne_k gps g0 (by decide))).trans cp
                have cv : sJ H140 vs (z38 : Int).toNat = 0 := (up_nJ U140 (ne_k gvs g0 (by decide))).trans cv
                have cw : sR H140 ws (z38 : Int).toNat = none := (up_nR U140 (ne_k gws g0 (by decide))).trans cw
                have ck : sI H140 ks (z38 : Int).toNat = v66 := (up_nI U140 (ne_k gks g0 (by decide))).trans ck
                have m143 : (sI H140 h0 (X.1.2 4 6)).toInt = (sI H67 h0 (X.1.2 4 6)).toInt := congrArg Int32.toInt (up_nI U140 (ne_f E 4 6 7 rfl (by decide) (by decide) (by decide)))
                have hTT : TK1 (bf H0 tp) (a1).toNat (sI Hb h0 (X.1.2 4 7)).toInt.toNat (sI H140 ks (z38 : Int).toNat).toInt (sJ H140 vs (z38 : Int).toNat).toInt ((sI H140 h0 (X.1.2 4 7)).toInt).toNat := by rw [ck, cv]; first | exact TK1.oth hB (by omega) (hK.resolve_left (by omega)).2 (by omega) (by omega) (by omega) (by omega) | exact TK1.fin hB (by rcases hK with q | q; exact q.1; exact absurd (by omega) q.2.nz) (by omega) (by omega) (by omega)
                have hWD : WDT X (sI H140 ks (z38 : Int).toNat).toInt (sJ H140 vs (z38 : Int).toNat).toInt (sR H140 ws (z38 : Int).toNat) := by rw [ck, cw]; exact WDT.no (by omega)
                have hkk : (sI H140 ks (z38 : Int).toNat).toInt = _ := congrArg Int32.toInt ck
                have hix3 : (z38 + 1 : Int).toNat = (z38 : Int).toNat + 1 := by omega
                have hnx : ((1 : Int) = 0 → TSP X H140 ks vs ws (bf H0 tp) (a1).toNat (z38 + 1 : Int).toNat (sI H140 h0 (X.1.2 4 7)).toInt) ∧ ((1 : Int) = 1 → TSF X H140 ks vs ws (bf H0 tp) (a1).toNat) := by rw [hix3]; first | (exfalso; omega) | exact ⟨fun _ => TSP.step hts0 rwe (by omega) hTT hWD (by omega), fun q => absurd q (by decide)⟩ | exact ⟨fun q => absurd q (by decide), fun _ => TSP.fin hts0 rwe (by omega) hTT hWD (by omega)⟩
                obtain ⟨v144, ev144⟩ : ∃ z, z = v38 + Int32.ofInt 1 := ⟨_, rfl⟩
                have ev144i : v144.toInt = (z38 + 1) := i_add ev144 ev38 (by decide) (by omega) (by omega)
                refine lv_iinc hx hb dX4_start_192 hl (k := 1) rfl ev144.symm (by decide) rfl (fun ls hl => ?_)
                replace hl : lv_has ls 4 [(3, .int v144), (2, .int 1), (0, .ref h0), (1, .int p1)] := hl
                refine lv_goto (tgt := 30) hx hb dX4_start_195 rfl ?_
                exact ih40 H140 locs140 v144 ((z38 + 1)) 1 (1) ls (ms_lt hm40 (by omega) (by omega)) ev144i (by decide) (by omega) (by omega) (by omega) (by omega) (by omega) (by omega) (hnx) hC140 hS140 hKp140 tpt hl
              · refine lv_aload_n hx hb dX4_start_142 rfl (lv_at hl 2 rfl) ?_
                refine q_getS E hC67 g0 fa_RX4_22 ((kp_R hKp67 g0 (ci := 4) (k := 4) rfl (by decide) rfl).trans hvs) dX4_start_143 (fun _ => ?_)
                refine lv_iload_n hx hb dX4_start_146 rfl (lv_at hl 1 rfl) ?_
                refine lv_aload_n hx hb dX4_start_147 rfl (lv_at hl 2 rfl) ?_
                have tb4 := bf_eq tpt
                refine q_goI (q_runV (As := []) (rest := [.int v38, .ref vs]) E hC67 hS67 (m_X4_passNumber l X Γ H67 hC67 h0 g0 tp ((kp_R hKp67 g0 (ci := 4) (k := 0) rfl (by decide) rfl).trans htp) gtp (by omega) (by omega) (by omega)) cw_X4_passNumber cl_RX4_69 g0 ⟨rfl, rfl⟩ rfl hl.1 rfl (show _ ≤ _ from by simp [Value.category]) (by decide) dX4_start_148) hS67 (fun v145 H145 locs145 hr145 hC145 hS145 => ?_)
                obtain ⟨hp145, hr145⟩ := hr145
                have hKp145 := hKp67.tr (hp145.mono rfl)
                replace tpt : ∀ j, sI H145 tp j = sI H0 tp j := fun j => (kp_aI hp145 j gtp rfl rfl).trans (tpt j)
                replace rwe : RWE ks vs ws (z38 : Int).toNat Hb H145 := rwe.kp hp145 gks gvs gws rfl
                have cp : sI H145 ps (z38 : Int).toNat = v54 := (kp_aI hp145 _ gps rfl rfl).trans cp
                have cv : sJ H145 vs (z38 : Int).toNat = 0 := (kp_aJ hp145 _ gvs rfl rfl).trans cv
                have cw : sR H145 ws (z38 : Int).toNat = none := (kp_aR hp145 _ gws rfl rfl).trans cw
                have ck : sI H145 ks (z38 : Int).toNat = v66 := (kp_aI hp145 _ gks rfl rfl).trans ck
                obtain ⟨f145_0, f145_1, f145_2, f145_3, f145_4, f145_5, f145_6⟩ := hr145
                obtain ⟨qq, hqq⟩ : ∃ z, z = (sI H145 h0 (X.1.2 4 7)).toInt := ⟨_, rfl⟩
                have hD : SpZ isDg (bf H0 tp) a1 sq qq := SpZ.cast (tb4 ▸ f145_0) (by omega) (by omega) (by omega)
                have hsb : (sI H67 h0 (X.1.2 4 7)).toInt = sq := by omega
                have hN := f145_4; rw [tb4, hsb, ← hqq] at hN
                refine lv_i2l (v := v145.toInt64) hx hb dX4_start_151 rfl (lv_topl (fun v146 ev146 => ?_))
                have ev146i : v146.toInt = v145.toInt := l_ofi ev146.symm rfl
                refine q_last2 E hC145 hS145 gvs (by decide) rfl rfl (fun _ => rfl) (a := z38) ev38 (by omega) (by omega) dX4_start_152 (fun H147 locs147 hC147 hS147 U147 => ?_)
                have hKp147 := Kp.upA gvs rfl (by decide) rfl U147 hKp145
                replace tpt : ∀ j, sI H147 tp j = sI H0 tp j := fun j => (up_nI U147 (ne_k gtp gvs (by decide))).trans (tpt j)
                replace rwe : RWE ks vs ws (z38 : Int).toNat Hb H147 := rwe.up U147 (by first | exact Or.inr ⟨nek gvs gks (by decide), nek gvs gvs (by decide), nek gvs gws (by decide)⟩ | exact Or.inl (Nat.le_of_eq (i_ix ev38).symm) | exact Or.inl (Nat.le_refl _))
                have cp : sI H147 ps (z38 : Int).toNat = v54 := (up_nI U147 (ne_k gps gvs (by decide))).trans cp
                have cw : sR H147 ws (z38 : Int).toNat = none := (up_nR U147 (ne_k gws gvs (by decide))).trans cw
                have ck : sI H147 ks (z38 : Int).toNat = v66 := (up_nI U147 (ne_k gks gvs (by decide))).trans ck
                have m148 : (sI H147 h0 (X.1.2 4 7)).toInt = (sI H145 h0 (X.1.2 4 7)).toInt := congrArg Int32.toInt (up_nI U147 (ne_k g0 gvs (by decide)))
                have m149 : (sI H147 h0 (X.1.2 4 6)).toInt = (sI H145 h0 (X.1.2 4 6)).toInt := congrArg Int32.toInt (up_nI U147 (ne_k g0 gvs (by decide)))
                have hV : (v146 : Int64).toInt = v145.toInt := ev146i
                have cv : sJ H147 vs (z38 : Int).toNat = v146 := up_J U147
                refine lv_aload_n hx hb dX4_start_153 rfl (lv_at hl 2 rfl) ?_
                refine q_getS E hC147 g0 fa_RX4_15 ((kp_R hKp147 g0 (ci := 4) (k := 2) rfl (by decide) rfl).trans hks) dX4_start_154 (fun _ => ?_)
                refine lv_iload_n hx hb dX4_start_157 rfl (lv_at hl 1 rfl) ?_
                refine lv_aload_n hx hb dX4_start_158 rfl (lv_at hl 2 rfl) ?_
                have e151 := (up_nI U56 (ne_k g0 gps (by decide))).trans ev54
                have e152 := (up_nI U60 (ne_k g0 gvs (by decide))).trans e151
                have e153 := (up_nI U63 (ne_k g0 gws (by decide))).trans e152
                have e154 := (up_nI U67 (ne_k g0 gks (by decide))).trans e153
                refine q_getI E hC147 g0 fa_RX4_51 dX4_start_159 (fun v150 ev150 _ _ => ?_)
                have m155 : (sI H147 h0 (X.1.2 4 7)).toInt = v150.toInt := (congrArg Int32.toInt ev150).trans rfl
                refine lv_aload_n hx hb dX4_start_162 rfl (lv_at hl 2 rfl) ?_
                refine q_getS E hC147 g0 fa_RX4_19 ((kp_R hKp147 g0 (ci := 4) (k := 3) rfl (by decide) rfl).trans hps) dX4_start_163 (fun _ => ?_)
                refine lv_iload_n hx hb dX4_start_166 rfl (lv_at hl 1 rfl) ?_
                refine q_iald E hC147 gps rfl rfl (fun _ h => h) (i_in (a := z38) ev38 (by omega) (by omega)) dX4_start_167 (fun v156 ev156 _ _ => ?_)
                have m157 : aI H147 ps z38 = v156.toInt := aI_of ev38 ev156
                have hk5 : v156.toInt = sq := (congrArg Int32.toInt (ev156.symm.trans ((congrArg (sI H147 ps) (i_ix ev38)).trans cp))).trans hpl
                refine lv_isub hx hb dX4_start_168 (lv_topi (fun v158 ev158 => ?_))
                have ev158i : v158.toInt = (v150.toInt - v156.toInt) := i_sub ev158 rfl rfl (by omega) (by omega)
                refine lv_iconst (v := 4) hx hb dX4_start_169 rfl ?_
                refine q_icmp_le hx hb (a := (v150.toInt - v156.toInt)) (b := 4) ev158i (by decide) (tgt := 177) dX4_start_170 rfl (fun c159 => ?_) (fun c159 => ?_)
                · refine lv_iconst (v := 3) hx hb dX4_start_177 rfl ?_
                  refine q_iast E hC147 hS147 gks (by decide) rfl rfl (i_in (a := z38) ev38 (by omega) (by omega)) tv_F dX4_start_178 (fun H160 locs160 hC160 hS160 U160 => ?_)
                  have hKp160 := Kp.upA gks rfl (by decide) rfl U160 hKp147
                  have m161 : aI H160 ks z38 = 3 := aI_up U160 ev38 (show (3 : Int32).toInt = 3 from by decide)
                  replace tpt : ∀ j, sI H160 tp j = sI H0 tp j := fun j => (up_nI U160 (ne_k gtp gks (by decide))).trans (tpt j)
                  replace rwe : RWE ks vs ws (z38 : Int).toNat Hb H160 := rwe.up U160 (by first | exact Or.inr ⟨nek gks gks (by decide), nek gks gvs (by decide), nek gks gws (by decide)⟩ | exact Or.inl (Nat.le_of_eq (i_ix ev38).symm) | exact Or.inl (Nat.le_refl _))
                  have cp : sI H160 ps (z38 : Int).toNat = v54 := (up_nI U160 (ne_k gps gks (by decide))).trans cp
                  have cw : sR H160 ws (z38 : Int).toNat = none := (up_nR U160 (ne_k gws gks (by decide))).trans cw
                  have cv : sJ H160 vs (z38 : Int).toNat = v146 := (up_nJ U160 (ne_k gvs gks (by decide))).trans cv
                  have m162 : (sI H160 h0 (X.1.2 4 7)).toInt = (sI H147 h0 (X.1.2 4 7)).toInt := congrArg Int32.toInt (up_nI U160 (ne_k g0 gks (by decide)))
                  have m163 : (sI H160 h0 (X.1.2 4 6)).toInt = (sI H147 h0 (X.1.2 4 6)).toInt := congrArg Int32.toInt (up_nI U160 (ne_k g0 gks (by decide)))
                  have ck : sI H160 ks (z38 : Int).toNat = 3 := by rw [← i_ix ev38]; exact up_I U160
                  have hkk : ((sI H160 ks (z38 : Int).toNat).toInt = 3 ∧ qq - sq ≤ 4) ∨ ((sI H160 ks (z38 : Int).toNat).toInt = 1 ∧ 4 < qq - sq) := by rw [ck]; first | exact Or.inl ⟨by decide, by omega⟩ | exact Or.inr ⟨by decide, by omega⟩
                  have hTT : TK1 (bf H0 tp) (a1).toNat (sI Hb h0 (X.1.2 4 7)).toInt.toNat (sI H160 ks (z38 : Int).toNat).toInt (sJ H160 vs (z38 : Int).toNat).toInt ((sI H160 h0 (X.1.2 4 7)).toInt).toNat := by rcases hkk with ⟨q1, q2⟩ | ⟨q1, q2⟩ <;> rw [q1, cv, show (sI H160 h0 (X.1.2 4 7)).toInt = qq by omega]; exact TK1.num hB (by omega) ((hK.resolve_left (by omega)).2.three (by omega)) hD q2 (hV.trans (hN q2)) (by omega); exact TK1.long hB (by omega) ((hK.resolve_left (by omega)).2.three (by omega)) hD q2 (by omega)
                  have hWD : WDT X (sI H160 ks (z38 : Int).toNat).toInt (sJ H160 vs (z38 : Int).toNat).toInt (sR H160 ws (z38 : Int).toNat) := by rw [cw]; exact WDT.no (by omega)
                  have hqs := hD.pos (by omega) ((hK.resolve_left (by omega)).2.three (by omega))
                  refine lv_goto (tgt := 192) hx hb dX4_start_179 rfl ?_
                  have hix3 : (z38 + 1 : Int).toNat = (z38 : Int).toNat + 1 := by omega
                  have hnx : ((1 : Int) = 0 → TSP X H160 ks vs ws (bf H0 tp) (a1).toNat (z38 + 1 : Int).toNat (sI H160 h0 (X.1.2 4 7)).toInt) ∧ ((1 : Int) = 1 → TSF X H160 ks vs ws (bf H0 tp) (a1).toNat) := by rw [hix3]; first | (exfalso; omega) | exact ⟨fun _ => TSP.step hts0 rwe (by omega) hTT hWD (by omega), fun q => absurd q (by decide)⟩ | exact ⟨fun q => absurd q (by decide), fun _ => TSP.fin hts0 rwe (by omega) hTT hWD (by omega)⟩
                  obtain ⟨v164, ev164⟩ : ∃ z, z = v38 + Int32.ofInt 1 := ⟨_, rfl⟩
                  have ev164i : v164.toInt = (z38 + 1) := i_add ev164 ev38 (by decide) (by omega) (by omega)
                  refine lv_iinc hx hb dX4_start_192 hl (k := 1) rfl ev164.symm (by decide) rfl (fun ls hl => ?_)
                  replace hl : lv_has ls 4 [(3, .int v164), (2, .int 1), (0, .ref h0), (1, .int p1)] := hl
                  refine lv_goto (tgt := 30) hx hb dX4_start_195 rfl ?_
                  exact ih40 H160 locs160 v164 ((z38 + 1)) 1 (1) ls (ms_lt hm40 (by omega) (by omega)) ev164i (by decide) (by omega) (by omega) (by omega) (by omega) (by omega) (by omega) (hnx) hC160 hS160 hKp160 tpt hl
                · refine lv_iconst (v := 1) hx hb dX4_start_173 rfl ?_
                  refine lv_goto (tgt := 178) hx hb dX4_start_174 rfl ?_
                  refine q_iast E hC147 hS147 gks (by decide) rfl rfl (i_in (a := z38) ev38 (by omega) (by omega)) tv_F dX4_start_178 (fun H165 locs165 hC165 hS165 U165 => ?_)
                  have hKp165 := Kp.upA gks rfl (by decide) rfl U165 hKp147
                  have m166 : aI H165 ks z38 = 1 := aI_up U165 ev38 (show (1 : Int32).toInt = 1 from by decide)
                  replace tpt : ∀ j, sI H165 tp j = sI H0 tp j := fun j => (up_nI U165 (ne_k gtp gks (by decide))).trans (tpt j)
                  replace rwe : RWE ks vs ws (z38 : Int).toNat Hb H165 := rwe.up U165 (by first | exact Or.inr ⟨nek gks gks (by decide), nek gks gvs (by decide), nek gks gws (by decide)⟩ | exact Or.inl (Nat.le_of_eq (i_ix ev38).symm) | exact Or.inl (Nat.le_refl _))
                  have cp : sI H165 ps (z38 : Int).toNat = v54 := (up_nI U165 (ne_k gps gks (by decide))).trans cp
                  have cw : sR H165 ws (z38 : Int).toNat = none := (up_nR U165 (ne_k gws gks (by decide))).trans cw
                  have cv : sJ H165 vs (z38 : Int).toNat = v146 := (up_nJ U165 (ne_k gvs gks (by decide))).trans cv
                  have m167 : (sI H165 h0 (X.1.2 4 7)).toInt = (sI H147 h0 (X.1.2 4 7)).toInt := congrArg Int32.toInt (up_nI U165 (ne_k g0 gks (by decide)))
                  have m168 : (sI H165 h0 (X.1.2 4 6)).toInt = (sI H147 h0 (X.1.2 4 6)).toInt := congrArg Int32.toInt (up_nI U165 (ne_k g0 gks (by decide)))
                  have ck : sI H165 ks (z38 : Int).toNat = 1 := by rw [← i_ix ev38]; exact up_I U165
                  have hkk : ((sI H165 ks (z38 : Int).toNat).toInt = 3 ∧ qq - sq ≤ 4) ∨ ((sI H165 ks (z38 : Int).toNat).toInt = 1 ∧ 4 < qq - sq) := by rw [ck]; first | exact Or.inl ⟨by decide, by omega⟩ | exact Or.inr ⟨by decide, by omega⟩
                  have hTT : TK1 (bf H0 tp) (a1).toNat (sI Hb h0 (X.1.2 4 7)).toInt.toNat (sI H165 ks (z38 : Int).toNat).toInt (sJ H165 vs (z38 : Int).toNat).toInt ((sI H165 h0 (X.1.2 4 7)).toInt).toNat := by rcases hkk with ⟨q1, q2⟩ | ⟨q1, q2⟩ <;> rw [q1, cv, show (sI H165 h0 (X.1.2 4 7)).toInt = qq by omega]; exact TK1.num hB (by omega) ((hK.resolve_left (by omega)).2.three (by omega)) hD q2 (hV.trans (hN q2)) (by omega); exact TK1.long hB (by omega) ((hK.resolve_left (by omega)).2.three (by omega)) hD q2 (by omega)
                  have hWD : WDT X (sI H165 ks (z38 : Int).toNat).toInt (sJ H165 vs (z38 : Int).toNat).toInt (sR H165 ws (z38 : Int).toNat) := by rw [cw]; exact WDT.no (by omega)
                  have hqs := hD.pos (by omega) ((hK.resolve_left (by omega)).2.three (by omega))
                  refine lv_goto (tgt := 192) hx hb dX4_start_179 rfl ?_
                  have hix3 : (z38 + 1 : Int).toNat = (z38 : Int).toNat + 1 := by omega
                  have hnx : ((1 : Int) = 0 → TSP X H165 ks vs ws (bf H0 tp) (a1).toNat (z38 + 1 : Int).toNat (sI H165 h0 (X.1.2 4 7)).toInt) ∧ ((1 : Int) = 1 → TSF X H165 ks vs ws (bf H0 tp) (a1).toNat) := by rw [hix3]; first | (exfalso; omega) | exact ⟨fun _ => TSP.step hts0 rwe (by omega) hTT hWD (by omega), fun q => absurd q (by decide)⟩ | exact ⟨fun q => absurd q (by decide), fun _ => TSP.fin hts0 rwe (by omega) hTT hWD (by omega)⟩
                  obtain ⟨v169, ev169⟩ : ∃ z, z = v38 + Int32.ofInt 1 := ⟨_, rfl⟩
                  have ev169i : v169.toInt = (z38 + 1) := i_add ev169 ev38 (by decide) (by omega) (by omega)
                  refine lv_iinc hx hb dX4_start_192 hl (k := 1) rfl ev169.symm (by decide) rfl (fun ls hl => ?_)
                  replace hl : lv_has ls 4 [(3, .int v169), (2, .int 1), (0, .ref h0), (1, .int p1)] := hl
                  refine lv_goto (tgt := 30) hx hb dX4_start_195 rfl ?_
                  exact ih40 H165 locs165 v169 ((z38 + 1)) 1 (1) ls (ms_lt hm40 (by omega) (by omega)) ev169i (by decide) (by omega) (by omega) (by omega) (by omega) (by omega) (by omega) (hnx) hC165 hS165 hKp165 tpt hl
            · refine lv_aload_n hx hb dX4_start_104 rfl (lv_at hl 2 rfl) ?_
              refine q_getS E hC67 g0 fa_RX4_22 ((kp_R hKp67 g0 (ci := 4) (k := 4) rfl (by decide) rfl).trans hvs) dX4_start_105 (fun _ => ?_)
              refine lv_iload_n hx hb dX4_start_108 rfl (lv_at hl 1 rfl) ?_
              refine lv_aload_n hx hb dX4_start_109 rfl (lv_at hl 2 rfl) ?_
              have tb3 := bf_eq tpt
              refine q_goJ (q_runV (As := []) (rest := [.int v38, .ref vs]) E hC67 hS67 (m_X4_passWord l X Γ H67 hC67 h0 g0 tp ((kp_R hKp67 g0 (ci := 4) (k := 0) rfl (by decide) rfl).trans htp) gtp (by omega) (by omega) (by omega)) cw_X4_passWord cl_RX4_61 g0 ⟨rfl, rfl⟩ rfl hl.1 rfl (show _ ≤ _ from by simp [Value.category]) (by decide) dX4_start_110) hS67 (fun v170 H170 locs170 hr170 hC170 hS170 => ?_)
              obtain ⟨hp170, hr170⟩ := hr170
              have hKp170 := hKp67.tr (hp170.mono rfl)
              replace tpt : ∀ j, sI H170 tp j = sI H0 tp j := fun j => (kp_aI hp170 j gtp rfl rfl).trans (tpt j)
              replace rwe : RWE ks vs ws (z38 : Int).toNat Hb H170 := rwe.kp hp170 gks gvs gws rfl
              have cp : sI H170 ps (z38 : Int).toNat = v54 := (kp_aI hp170 _ gps rfl rfl).trans cp
              have cv : sJ H170 vs (z38 : Int).toNat = 0 := (kp_aJ hp170 _ gvs rfl rfl).trans cv
              have cw : sR H170 ws (z38 : Int).toNat = none := (kp_aR hp170 _ gws rfl rfl).trans cw
              have ck : sI H170 ks (z38 : Int).toNat = v66 := (kp_aI hp170 _ gks rfl rfl).trans ck
              obtain ⟨f170_0, f170_1, f170_2, f170_3, f170_4⟩ := hr170
              obtain ⟨qq, hqq⟩ : ∃ z, z = (sI H170 h0 (X.1.2 4 7)).toInt := ⟨_, rfl⟩
              have hW : SpZ isLt (bf H0 tp) a1 sq qq := SpZ.cast (tb3 ▸ f170_0) (by omega) (by omega) (by omega)
              have hsb : (sI H67 h0 (X.1.2 4 7)).toInt = sq := by omega
              have hV := f170_4; rw [tb3, hsb, ← hqq] at hV
              refine q_last2 E hC170 hS170 gvs (by decide) rfl rfl (fun _ => rfl) (a := z38) ev38 (by omega) (by omega) dX4_start_113 (fun H171 locs171 hC171 hS171 U171 => ?_)
              have hKp171 := Kp.upA gvs rfl (by decide) rfl U171 hKp170
              replace tpt : ∀ j, sI H171 tp j = sI H0 tp j := fun j => (up_nI U171 (ne_k gtp gvs (by decide))).trans (tpt j)
              replace rwe : RWE ks vs ws (z38 : Int).toNat Hb H171 := rwe.up U171 (by first | exact Or.inr ⟨nek gvs gks (by decide), nek gvs gvs (by decide), nek gvs gws (by decide)⟩ | exact Or.inl (Nat.le_of_eq (i_ix ev38).symm) | exact Or.inl (Nat.le_refl _))
              have cp : sI H171 ps (z38 : Int).toNat = v54 := (up_nI U171 (ne_k gps gvs (by decide))).trans cp
              have cw : sR H171 ws (z38 : Int).toNat = none := (up_nR U171 (ne_k gws gvs (by decide))).trans cw
              have ck : sI H171 ks (z38 : Int).toNat = v66 := (up_nI U171 (ne_k gks gvs (by decide))).trans ck
              have m172 : (sI H171 h0 (X.1.2 4 7)).toInt = (sI H170 h0 (X.1.2 4 7)).toInt := congrArg Int32.toInt (up_nI U171 (ne_k g0 gvs (by decide)))
              have m173 : (sI H171 h0 (X.1.2 4 6)).toInt = (sI H170 h0 (X.1.2 4 6)).toInt := congrArg Int32.toInt (up_nI U171 (ne_k g0 gvs (by decide)))
              have cv : sJ H171 vs (z38 : Int).toNat = v170 := up_J U171
              refine lv_aload_n hx hb dX4_start_114 rfl (lv_at hl 2 rfl) ?_
              refine q_getS E hC171 g0 fa_RX4_28 ((kp_R hKp171 g0 (ci := 4) (k := 5) rfl (by decide) rfl).trans hws) dX4_start_115 (fun _ => ?_)
              refine lv_iload_n hx hb dX4_start_118 rfl (lv_at hl 1 rfl) ?_
              refine lv_aload_n hx hb dX4_start_119 rfl (lv_at hl 2 rfl) ?_
              refine q_getS E hC171 g0 fa_RX4_22 ((kp_R hKp171 g0 (ci := 4) (k := 4) rfl (by decide) rfl).trans hvs) dX4_start_120 (fun _ => ?_)
              refine lv_iload_n hx hb dX4_start_123 rfl (lv_at hl 1 rfl) ?_
              refine q_lald2 E hC171 gvs rfl rfl (fun _ => rfl) (a := z38) ev38 (by omega) (by omega) dX4_start_124 (fun v174 ev174 => ?_)
              have hk4 : v174.toInt = _ := congrArg Int64.toInt (ev174.symm.trans cv)
              refine q_goQp (q_runS (As := [.long v174]) (rest := [.int v38, .ref ws]) E hS171 (m_X8_of l X Γ H171 hC171 v174 (a0 := v174.toInt) rfl) cw_X8_of cl_RX4_65 rfl hl.1 rfl (show _ ≤ _ from by simp [Value.category]) (by decide) dX4_start_125) hS171 (fun v175 locs175 hr175 hS175 => ?_)
              have hof := hr175.2
              refine q_wast (o := v175) E hC171 hS175 gws (by decide) rfl rfl (fun _ => rfl) hr175.1 (i_in (a := z38) ev38 (by omega) (by omega)) dX4_start_128 (fun H176 locs176 hC176 hS176 U176 => ?_)
              have hKp176 := Kp.upA gws rfl (by decide) rfl U176 hKp171
              replace tpt : ∀ j, sI H176 tp j = sI H0 tp j := fun j => (up_nI U176 (ne_k gtp gws (by decide))).trans (tpt j)
              replace rwe : RWE ks vs ws (z38 : Int).toNat Hb H176 := rwe.up U176 (by first | exact Or.inr ⟨nek gws gks (by decide), nek gws gvs (by decide), nek gws gws (by decide)⟩ | exact Or.inl (Nat.le_of_eq (i_ix ev38).symm) | exact Or.inl (Nat.le_refl _))
              have cp : sI H176 ps (z38 : Int).toNat = v54 := (up_nI U176 (ne_k gps gws (by decide))).trans cp
              have ck : sI H176 ks (z38 : Int).toNat = v66 := (up_nI U176 (ne_k gks gws (by decide))).trans ck
              have cv : sJ H176 vs (z38 : Int).toNat = v170 := (up_nJ U176 (ne_k gvs gws (by decide))).trans cv
              have m177 : (sI H176 h0 (X.1.2 4 7)).toInt = (sI H171 h0 (X.1.2 4 7)).toInt := congrArg Int32.toInt (up_nI U176 (ne_k g0 gws (by decide)))
              have m178 : (sI H176 h0 (X.1.2 4 6)).toInt = (sI H171 h0 (X.1.2 4 6)).toInt := congrArg Int32.toInt (up_nI U176 (ne_k g0 gws (by decide)))
              have cw : sR H176 ws (z38 : Int).toNat = v175 := by rw [← i_ix ev38]; exact up_Q U176
              have hkk : (sI H176 ks (z38 : Int).toNat).toInt = 2 := by rw [ck]; omega
              have hqs := hW.pos (by omega) ((hK.resolve_left (by omega)).2.two (by omega))
              have hTT : TK1 (bf H0 tp) (a1).toNat (sI Hb h0 (X.1.2 4 7)).toInt.toNat (sI H176 ks (z38 : Int).toNat).toInt (sJ H176 vs (z38 : Int).toNat).toInt ((sI H176 h0 (X.1.2 4 7)).toInt).toNat := by rw [hkk, cv, show (sI H176 h0 (X.1.2 4 7)).toInt = qq by omega]; exact TK1.word hB (by omega) ((hK.resolve_left (by omega)).2.two (by omega)) hW hV (by omega)
              have hWD : WDT X (sI H176 ks (z38 : Int).toNat).toInt (sJ H176 vs (z38 : Int).toNat).toInt (sR H176 ws (z38 : Int).toNat) := by rw [hkk, cv, cw]; exact WDT.word (hk4 ▸ hof) rfl
              refine lv_goto (tgt := 192) hx hb dX4_start_129 rfl ?_
              have hix3 : (z38 + 1 : Int).toNat = (z38 : Int).toNat + 1 := by omega
              have hnx : ((1 : Int) = 0 → TSP X H176 ks vs ws (bf H0 tp) (a1).toNat (z38 + 1 : Int).toNat (sI H176 h0 (X.1.2 4 7)).toInt) ∧ ((1 : Int) = 1 → TSF X H176 ks vs ws (bf H0 tp) (a1).toNat) := by rw [hix3]; first | (exfalso; omega) | exact ⟨fun _ => TSP.step hts0 rwe (by omega) hTT hWD (by omega), fun q => absurd q (by decide)⟩ | exact ⟨fun q => absurd q (by decide), fun _ => TSP.fin hts0 rwe (by omega) hTT hWD (by omega)⟩
              obtain ⟨v179, ev179⟩ : ∃ z, z = v38 + Int32.ofInt 1 := ⟨_, rfl⟩
              have ev179i : v179.toInt = (z38 + 1) := i_add ev179 ev38 (by decide) (by omega) (by omega)
              refine lv_iinc hx hb dX4_start_192 hl (k := 1) rfl ev179.symm (by decide) rfl (fun ls hl => ?_)
              replace hl : lv_has ls 4 [(3, .int v179), (2, .int 1), (0, .ref h0), (1, .int p1)] := hl
              refine lv_goto (tgt := 30) hx hb dX4_start_195 rfl ?_
              exact ih40 H176 locs176 v179 ((z38 + 1)) 1 (1) ls (ms_lt hm40 (by omega) (by omega)) ev179i (by decide) (by omega) (by omega) (by omega) (by omega) (by omega) (by omega) (hnx) hC176 hS176 hKp176 tpt hl
  exact L30 _ H34 locs34 0 0 0 0 ls (Nat.lt_succ_self _) (by decide) (by decide) (by omega) (by omega) (by omega) (by omega) (by omega) (by omega) (⟨fun _ => by rw [show (sI H34 h0 (X.1.2 4 7)).toInt = 0 by omega]; exact TSP.nil, fun q => by omega⟩) hC34 hS34 hKp34 tpt hl
set_option maxRecDepth 100000 in
set_option maxHeartbeats 4000000 in
theorem m_X4_misfit (l : Launch) (X : xW) (Γ : Nat → Option Nat) (H0 : Heap) (hC0 : Conf X Γ H0) (h0 : Nat) (g0 : Γ h0 = some 2) : Ctr l X Γ yX4_misfit cX4_misfit 1 (some .boolean) 0 [.ref h0] H0 (QI X Γ (fun v H1 => Kp X Γ [3, 29, 31, 32, 33, 34, 37, 39, 40, 50, 51, 52, 53, 54, 55, 56, 57, 58, 59, 60, 61, 62, 63, 65, 67, 68, 69, 70, 71, 72] H0 H1 ∧ ((v = 1 ∧ ((0 : Int) = 1)) ∨ (v = 0 ∧ (True))))) := by
  refine q_enterZ (own := "SnowForts$Reader") (by decide) rfl (Nat.le_of_ble_eq_true rfl) ?_
  intro p e s m args below meth c ls Qz E hl ret hS0
  have hx := E.1; have hb := E.2.1
  have hKp0 : Kp X Γ [3, 29, 31, 32, 33, 34, 37, 39, 40, 50, 51, 52, 53, 54, 55, 56, 57, 58, 59, 60, 61, 62, 63, 65, 67, 68, 69, 70, 71, 72] H0 H0 := Kp.rf
  have hl : lv_has ls 1 [(0, .ref h0)] := hl
  refine lv_aload_n hx hb dX4_misfit_0 rfl (lv_at hl 0 rfl) ?_
  refine lv_aload_n hx hb dX4_misfit_1 rfl (lv_at hl 0 rfl) ?_
  refine q_getI E hC0 g0 fa_RX4_93 dX4_misfit_2 (fun v21 ev21 _ _ => ?_)
  refine lv_iconst (v := 1) hx hb dX4_misfit_5 rfl ?_
  refine q_icmp_ne hx hb (a := v21.toInt) (b := 1) rfl (by decide) (tgt := 13) dX4_misfit_6 rfl (fun c22 => ?_) (fun c22 => ?_)
  · refine lv_iconst (v := 2) hx hb dX4_misfit_13 rfl ?_
    refine q_put E hC0 hS0 g0 fp_RX4_32 tv_F rfl rfl dX4_misfit_14 (fun H23 locs23 hC23 hS23 U23 => ?_)
    have hKp23 := Kp.upO E g0 fp_RX4_32 rfl U23 hKp0
    have e24 := up_I U23
    refine lv_aload_n hx hb dX4_misfit_17 rfl (lv_at hl 0 rfl) ?_
    refine lv_aload_n hx hb dX4_misfit_18 rfl (lv_at hl 0 rfl) ?_
    refine q_getI E hC23 g0 fa_RX4_96 dX4_misfit_19 (fun v25 ev25 _ _ => ?_)
    refine q_put E hC23 hS23 g0 fp_RX4_36 tv_F rfl rfl dX4_misfit_22 (fun H26 locs26 hC26 hS26 U26 => ?_)
    have hKp26 := Kp.upO E g0 fp_RX4_36 rfl U26 hKp23
    have e27 := up_I U26
    refine lv_iconst (v := 0) hx hb dX4_misfit_25 rfl ?_
    exact ret 0 H26 locs26 _ _ dX4_misfit_26 (Or.inl rfl) ⟨hKp26, Or.inr ⟨rfl, trivial⟩⟩ hC26 hS26
  · refine lv_iconst (v := 1) hx hb dX4_misfit_9 rfl ?_
    refine lv_goto (tgt := 14) hx hb dX4_misfit_10 rfl ?_
    refine q_put E hC0 hS0 g0 fp_RX4_32 tv_F rfl rfl dX4_misfit_14 (fun H28 locs28 hC28 hS28 U28 => ?_)
    have hKp28 := Kp.upO E g0 fp_RX4_32 rfl U28 hKp0
    have e29 := up_I U28
    refine lv_aload_n hx hb dX4_misfit_17 rfl (lv_at hl 0 rfl) ?_
    refine lv_aload_n hx hb dX4_misfit_18 rfl (lv_at hl 0 rfl) ?_
    refine q_getI E hC28 g0 fa_RX4_96 dX4_misfit_19 (fun v30 ev30 _ _ => ?_)
    refine q_put E hC28 hS28 g0 fp_RX4_36 tv_F rfl rfl dX4_misfit_22 (fun H31 locs31 hC31 hS31 U31 => ?_)
    have hKp31 := Kp.upO E g0 fp_RX4_36 rfl U31 hKp28
    have e32 := up_I U31
    refine lv_iconst (v := 0) hx hb dX4_misfit_25 rfl ?_
    exact ret 0 H31 locs31 _ _ dX4_misfit_26 (Or.inl rfl) ⟨hKp31, Or.inr ⟨rfl, trivial⟩⟩ hC31 hS31
set_option maxRecDepth 100000 in
set_option maxHeartbeats 4000000 in
theorem m_X4_take (l : Launch) (X : xW) (Γ : Nat → Option Nat) (H0 : Heap) (hC0 : Conf X Γ H0) (h0 : Nat) (g0 : Γ h0 = some 2) (o1 : Option Nat) (g1 : ∀ q, o1 = some q → Γ q = some 12) : Ctr l X Γ yX4_take cX4_take 2 (some .boolean) 2 [.ref h0, va_rf o1] H0 (QI X Γ (fun v H1 => Kp X Γ [3, 29, 31, 33, 34, 37, 39, 40, 50, 51, 52, 53, 54, 55, 56, 57, 58, 59, 60, 61, 62, 63, 65, 67, 68, 69, 70, 71, 72] H0 H1 ∧ ((v = 0 ∨ v = 1) ∧ (∀ (kd vl : Nat → Int) (N i : Nat), CU X Γ H0 h0 kd vl N i → ∀ t : Nat, t < 29 → o1 = some (wad X t) → (v = 1 ∧ okW kd vl t i ∧ CU X Γ H1 h0 kd vl N (i + 1)) ∨ (v = 0 ∧ ¬ okW kd vl t i))))) := by
  refine q_enterZ (own := "SnowForts$Reader") (by decide) rfl (by cases o1 <;> exact Nat.le_of_ble_eq_true rfl) ?_
  intro p e s m args below meth c ls Qz E hl ret hS0
  have hx := E.1; have hb := E.2.1
  have hKp0 : Kp X Γ [3, 29, 31, 33, 34, 37, 39, 40, 50, 51, 52, 53, 54, 55, 56, 57, 58, 59, 60, 61, 62, 63, 65, 67, 68, 69, 70, 71, 72] H0 H0 := Kp.rf
  have hl : lv_has ls 2 [(0, .ref h0), (1, va_rf o1)] := by revert hl; cases o1 <;> exact fun h => h
  refine lv_aload_n hx hb dX4_take_0 rfl (lv_at hl 0 rfl) ?_
  refine q_getQ E hC0 g0 fa_RX4_103 dX4_take_1 (fun q21 eq21 gq21 => ?_)
  refine q_alq_n (o := o1) hx hb dX4_take_4 rfl (lv_at hl 1 rfl) ?_
  refine lv_acmp_eq (rx := q21) (ry := o1) (tgt := 13) hx hb dX4_take_5 rfl (fun c22 => ?_) (fun c22 => ?_)
  · have hwq := eq21.trans c22
    refine lv_aload_n hx hb dX4_take_13 rfl (lv_at hl 0 rfl) ?_
    refine q_goV (q_runV (As := []) (rest := []) E hC0 hS0 (m_X4_advance l X Γ H0 hC0 h0 g0) cw_X4_advance cl_RX4_75 g0 ⟨rfl, rfl⟩ rfl hl.1 rfl (Nat.zero_le _) (by decide) dX4_take_14) hS0 (fun H23 locs23 hr23 hC23 hS23 => ?_)
    obtain ⟨hp23, hr23⟩ := hr23
    have hKp23 := hKp0.tr (hp23.mono rfl)
    have f23_0 := hr23
    have hav := f23_0
    refine lv_iconst (v := 1) hx hb dX4_take_17 rfl ?_
    exact ret 1 H23 locs23 _ _ dX4_take_18 (Or.inr rfl) ⟨hKp23, ⟨Or.inr rfl, fun kd vl N i cu t ht ho => Or.inl ⟨rfl, cu.isw E hwq ho ht, cu.next (by have := (cu.isw E hwq ho ht).1; omega) hKp23 rfl hav⟩⟩⟩ hC23 hS23
  · have hwn := fun q => c22 (eq21.symm.trans q)
    refine lv_aload_n hx hb dX4_take_8 rfl (lv_at hl 0 rfl) ?_
    refine q_goI (q_runV (As := []) (rest := []) E hC0 hS0 (m_X4_misfit l X Γ H0 hC0 h0 g0) cw_X4_misfit cl_RX4_107 g0 ⟨rfl, rfl⟩ rfl hl.1 rfl (Nat.zero_le _) (by decide) dX4_take_9) hS0 (fun v24 H24 locs24 hr24 hC24 hS24 => ?_)
    obtain ⟨hp24, hr24⟩ := hr24
    have hKp24 := hKp0.tr (hp24.mono rfl)
    rcases hr24 with ⟨rfl, f24a⟩ | ⟨rfl, -⟩
    · exact absurd f24a (by decide)
    · exact ret 0 H24 locs24 _ _ dX4_take_12 (Or.inl rfl) ⟨hKp24, ⟨Or.inl rfl, fun kd vl N i cu t ht ho => Or.inr ⟨rfl, fun q => hwn (by rw [ho]; exact (cu.wd _).mpr ⟨q.1, t, ht, q.2, rfl⟩)⟩⟩⟩ hC24 hS24
set_option maxRecDepth 100000 in
set_option maxHeartbeats 4000000 in
theorem m_X4_fail (l : Launch) (X : xW) (Γ : Nat → Option Nat) (H0 : Heap) (hC0 : Conf X Γ H0) (h0 : Nat) (g0 : Γ h0 = some 2) (p1 : Int32) {a1 : Int} (e1 : p1.toInt = a1) (p2 : Int32) {a2 : Int} (e2 : p2.toInt = a2) : Ctr l X Γ yX4_fail cX4_fail 3 (some .boolean) 0 [.ref h0, .int p1, .int p2] H0 (QI X Γ (fun v H1 => Kp X Γ [3, 29, 31, 32, 33, 34, 37, 39, 40, 50, 51, 52, 53, 54, 55, 56, 57, 58, 59, 60, 61, 62, 63, 65, 67, 68, 69, 70, 71, 72] H0 H1 ∧ ((v = 1 ∧ ((0 : Int) = 1)) ∨ (v = 0 ∧ (True))))) := by
  refine q_enterZ (own := "SnowForts$Reader") (by decide) rfl (Nat.le_of_ble_eq_true rfl) ?_
  intro p e s m args below meth c ls Qz E hl ret hS0
  have hx := E.1; have hb := E.2.1
  have hKp0 : Kp X Γ [3, 29, 31, 32, 33, 34, 37, 39, 40, 50, 51, 52, 53, 54, 55, 56, 57, 58, 59, 60, 61, 62, 63, 65, 67, 68, 69, 70, 71, 72] H0 H0 := Kp.rf
  have hl : lv_has ls 3 [(0, .ref h0), (1, .int p1), (2, .int p2)] := hl
  refine lv_aload_n hx hb dX4_fail_0 rfl (lv_at hl 0 rfl) ?_
  refine lv_iload_n hx hb dX4_fail_1 rfl (lv_at hl 1 rfl) ?_
  refine q_put E hC0 hS0 g0 fp_RX4_32 tv_F rfl rfl dX4_fail_2 (fun H21 locs21 hC21 hS21 U21 => ?_)
  have hKp21 := Kp.upO E g0 fp_RX4_32 rfl U21 hKp0
  have e22 := up_I U21
  refine lv_aload_n hx hb dX4_fail_5 rfl (lv_at hl 0 rfl) ?_
  refine lv_iload_n hx hb dX4_fail_6 rfl (lv_at hl 2 rfl) ?_
  refine q_put E hC21 hS21 g0 fp_RX4_36 tv_F rfl rfl dX4_fail_7 (fun H23 locs23 hC23 hS23 U23 => ?_)
  have hKp23 := Kp.upO E g0 fp_RX4_36 rfl U23 hKp21
  have e24 := up_I U23
  refine lv_iconst (v := 0) hx hb dX4_fail_10 rfl ?_
  exact ret 0 H23 locs23 _ _ dX4_fail_11 (Or.inl rfl) ⟨hKp23, Or.inr ⟨rfl, trivial⟩⟩ hC23 hS23
set_option maxRecDepth 100000 in
set_option maxHeartbeats 4000000 in
theorem m_X4_takeNumber (l : Launch) (X : xW) (Γ : Nat → Option Nat) (H0 : Heap) (hC0 : Conf X Γ H0) (h0 : Nat) (g0 : Γ h0 = some 2) (p1 : Int32) {a1 : Int} (e1 : p1.toInt = a1) (p2 : Int32) {a2 : Int} (e2 : p2.toInt = a2) : Ctr l X Γ yX4_takeNumber cX4_takeNumber 3 (some .boolean) 2 [.ref h0, .int p1, .int p2] H0 (QI X Γ (fun v H1 => Kp X Γ [3, 29, 31, 33, 37, 39, 40, 50, 51, 52, 53, 54, 55, 56, 57, 58, 59, 60, 61, 62, 63, 65, 67, 68, 69, 70, 71, 72] H0 H1 ∧ ((v = 0 ∨ v = 1) ∧ (∀ (kd vl : Nat → Int) (N i : Nat), CU X Γ H0 h0 kd vl N i → (v = 1 ∧ okN kd vl a1 a2 i ∧ (sI H1 h0 (X.1.2 4 13)).toInt = vl i ∧ CU X Γ H1 h0 kd vl N (i + 1)) ∨ (v = 0 ∧ ¬ okN kd vl a1 a2 i))))) := by
  refine q_enterZ (own := "SnowForts$Reader") (by decide) rfl (Nat.le_of_ble_eq_true rfl) ?_
  intro p e s m args below meth c ls Qz E hl ret hS0
  have hx := E.1; have hb := E.2.1
  have hKp0 : Kp X Γ [3, 29, 31, 33, 37, 39, 40, 50, 51, 52, 53, 54, 55, 56, 57, 58, 59, 60, 61, 62, 63, 65, 67, 68, 69, 70, 71, 72] H0 H0 := Kp.rf
  have hl : lv_has ls 3 [(0, .ref h0), (1, .int p1), (2, .int p2)] := hl
  refine lv_aload_n hx hb dX4_takeNumber_0 rfl (lv_at hl 0 rfl) ?_
  refine q_getI E hC0 g0 fa_RX4_93 dX4_takeNumber_1 (fun v21 ev21 _ _ => ?_)
  have m22 : (sI H0 h0 (X.1.2 4 9)).toInt = v21.toInt := (congrArg Int32.toInt ev21).trans rfl
  refine lv_iconst (v := 3) hx hb dX4_takeNumber_4 rfl ?_
  refine q_icmp_eq hx hb (a := v21.toInt) (b := 3) rfl (by decide) (tgt := 13) dX4_takeNumber_5 rfl (fun c23 => ?_) (fun c23 => ?_)
  · refine lv_aload_n hx hb dX4_takeNumber_13 rfl (lv_at hl 0 rfl) ?_
    refine q_getJ E hC0 g0 fa_RX4_99 dX4_takeNumber_14 (fun v24 ev24 => ?_)
    have hvq : (sJ H0 h0 (X.1.2 4 11)).toInt = v24.toInt := by rw [← ev24]
    refine lv_iload_n hx hb dX4_takeNumber_17 rfl (lv_at hl 1 rfl) ?_
    refine lv_iload_n hx hb dX4_takeNumber_18 rfl (lv_at hl 2 rfl) ?_
    refine q_goIp (q_runSN (As := [.long v24, .int p1, .int p2]) (rest := []) E hS0 (m_X11_isWithin l X Γ H0 hC0 v24 (a0 := v24.toInt) rfl p1 (a1 := a1) e1 p2 (a2 := a2) e2) cw_X11_isWithin cl_RX4_111 rfl hl.1 rfl (Nat.zero_le _) (by decide) dX4_takeNumber_19) hS0 (fun v25 locs25 hr25 hS25 => ?_)
    rcases hr25 with ⟨rfl, f25a0, f25a1⟩ | ⟨rfl, f25b⟩
    · refine q_if_ne hx hb (a := 1) (by decide) (tgt := 35) dX4_takeNumber_22 rfl (fun c26 => ?_) (fun c26 => absurd c26 (by omega))
      refine lv_aload_n hx hb dX4_takeNumber_35 rfl (lv_at hl 0 rfl) ?_
      refine lv_aload_n hx hb dX4_takeNumber_36 rfl (lv_at hl 0 rfl) ?_
      refine q_getJ E hC0 g0 fa_RX4_99 dX4_takeNumber_37 (fun v27 ev27 => ?_)
      have qv27 := ev24.symm.trans ev27; subst qv27
      have r1 := i_rng p1; have r2 := i_rng p2; rw [e1] at r1; rw [e2] at r2
      refine lv_l2i hx hb dX4_takeNumber_40 rfl (lv_topi (fun v28 ev28 => ?_))
      have ev28i : v28.toInt = v24.toInt := l_toi ev28 rfl (by omega) (by omega)
      refine q_put E hC0 hS25 g0 fp_RX4_119 tv_F rfl rfl dX4_takeNumber_41 (fun H29 locs29 hC29 hS29 U29 => ?_)
      have hKp29 := Kp.upO E g0 fp_RX4_119 rfl U29 hKp0
      have e30 := up_I U29
      have m31 : (sI H29 h0 (X.1.2 4 13)).toInt = v24.toInt := (congrArg Int32.toInt e30).trans ev28i
      have m32 : (sI H29 h0 (X.1.2 4 9)).toInt = (sI H0 h0 (X.1.2 4 9)).toInt := congrArg Int32.toInt (up_nI U29 (ne_f E 4 9 13 rfl (by decide) (by decide) (by decide)))
      have m33 : (sI H29 h0 (X.1.2 4 8)).toInt = (sI H0 h0 (X.1.2 4 8)).toInt := congrArg Int32.toInt (up_nI U29 (ne_f E 4 8 13 rfl (by decide) (by decide) (by decide)))
      refine lv_aload_n hx hb dX4_takeNumber_44 rfl (lv_at hl 0 rfl) ?_
      refine lv_aload_n hx hb dX4_takeNumber_45 rfl (lv_at hl 0 rfl) ?_
      refine q_getI E hC29 g0 fa_RX4_96 dX4_takeNumber_46 (fun v34 ev34 _ _ => ?_)
      refine q_put E hC29 hS29 g0 fp_RX4_122 tv_F rfl rfl dX4_takeNumber_49 (fun H35 locs35 hC35 hS35 U35 => ?_)
      have hKp35 := Kp.upO E g0 fp_RX4_122 rfl U35 hKp29
      have e36 := up_I U35
      have m37 : (sI H35 h0 (X.1.2 4 9)).toInt = (sI H29 h0 (X.1.2 4 9)).toInt := congrArg Int32.toInt (up_nI U35 (ne_f E 4 9 14 rfl (by decide) (by decide) (by decide)))
      have m38 : (sI H35 h0 (X.1.2 4 13)).toInt = (sI H29 h0 (X.1.2 4 13)).toInt := congrArg Int32.toInt (up_nI U35 (ne_f E 4 13 14 rfl (by decide) (by decide) (by decide)))
      have m39 : (sI H35 h0 (X.1.2 4 8)).toInt = (sI H29 h0 (X.1.2 4 8)).toInt := congrArg Int32.toInt (up_nI U35 (ne_f E 4 8 14 rfl (by decide) (by decide) (by decide)))
      refine lv_aload_n hx hb dX4_takeNumber_52 rfl (lv_at hl 0 rfl) ?_
      refine q_goV (q_runV (As := []) (rest := []) E hC35 hS35 (m_X4_advance l X Γ H35 hC35 h0 g0) cw_X4_advance cl_RX4_75 g0 ⟨rfl, rfl⟩ rfl hl.1 rfl (Nat.zero_le _) (by decide) dX4_takeNumber_53) hS35 (fun H40 locs40 hr40 hC40 hS40 => ?_)
      obtain ⟨hp40, hr40⟩ := hr40
      have hKp40 := hKp35.tr (hp40.mono rfl)
      have m41 : (sI H40 h0 (X.1.2 4 13)).toInt = (sI H35 h0 (X.1.2 4 13)).toInt := congrArg Int32.toInt (kp_I hp40 g0 (k := 13) rfl (by decide) rfl)
      have f40_0 := hr40
      have hav := f40_0
      refine lv_iconst (v := 1) hx hb dX4_takeNumber_56 rfl ?_
      have e42 := (up_nI U29 (ne_f E 4 9 13 rfl (by decide) (by decide) (by decide))).trans ev21
      have e43 := (up_nI U35 (ne_f E 4 9 14 rfl (by decide) (by decide) (by decide))).trans e42
      have e44 := (up_nI U35 (ne_f E 4 13 14 rfl (by decide) (by decide) (by decide))).trans e30
      have e45 := (kp_I hp40 g0 (k := 13) rfl (by decide) rfl).trans e44
      have m46 : (sI H40 h0 (X.1.2 4 13)).toInt = v24.toInt := (congrArg Int32.toInt e45).trans ev28i
      exact ret 1 H40 locs40 _ _ dX4_takeNumber_57 (Or.inr rfl) ⟨hKp40, ⟨Or.inr rfl, fun kd vl N i cu => Or.inl (by have h1 := cu.kk; have h2 := cu.vv (Or.inr (by omega)); exact ⟨rfl, ⟨by omega, by omega, by omega⟩, by omega, cu.next (by omega) hKp40 rfl (fun j h3 h4 => hav j (by omega) h4)⟩)⟩⟩ hC40 hS40
    · refine q_if_ne hx hb (a := 0) (by decide) (tgt := 35) dX4_takeNumber_22 rfl (fun c47 => absurd c47 (by omega)) (fun c47 => ?_)
      refine lv_aload_n hx hb dX4_takeNumber_25 rfl (lv_at hl 0 rfl) ?_
      refine lv_iconst (v := 4) hx hb dX4_takeNumber_26 rfl ?_
      refine lv_aload_n hx hb dX4_takeNumber_27 rfl (lv_at hl 0 rfl) ?_
      refine q_getI E hC0 g0 fa_RX4_96 dX4_takeNumber_28 (fun v48 ev48 _ _ => ?_)
      refine q_goI (q_runV (As := [.int 4, .int v48]) (rest := []) E hC0 hS25 (m_X4_fail l X Γ H0 hC0 h0 g0 4 (a1 := 4) (by decide) v48 (a2 := v48.toInt) rfl) cw_X4_fail cl_RX4_115 g0 ⟨rfl, rfl⟩ rfl hl.1 rfl (Nat.zero_le _) (by decide) dX4_takeNumber_31) hS25 (fun v49 H49 locs49 hr49 hC49 hS49 => ?_)
      obtain ⟨hp49, hr49⟩ := hr49
      have hKp49 := hKp0.tr (hp49.mono rfl)
      have m50 : (sI H49 h0 (X.1.2 4 9)).toInt = (sI H0 h0 (X.1.2 4 9)).toInt := congrArg Int32.toInt (kp_I hp49 g0 (k := 9) rfl (by decide) rfl)
      have m51 : (sI H49 h0 (X.1.2 4 13)).toInt = (sI H0 h0 (X.1.2 4 13)).toInt := congrArg Int32.toInt (kp_I hp49 g0 (k := 13) rfl (by decide) rfl)
      have m52 : (sI H49 h0 (X.1.2 4 8)).toInt = (sI H0 h0 (X.1.2 4 8)).toInt := congrArg Int32.toInt (kp_I hp49 g0 (k := 8) rfl (by decide) rfl)
      rcases hr49 with ⟨rfl, f49a⟩ | ⟨rfl, -⟩
      · exact absurd f49a (by decide)
      · have e53 := (kp_I hp49 g0 (k := 9) rfl (by decide) rfl).trans ev21
        have m54 : (sI H49 h0 (X.1.2 4 9)).toInt = v21.toInt := (congrArg Int32.toInt e53).trans rfl
        exact ret 0 H49 locs49 _ _ dX4_takeNumber_34 (Or.inl rfl) ⟨hKp49, ⟨Or.inl rfl, fun kd vl N i cu => Or.inr ⟨rfl, fun q => by obtain ⟨q1, q2, q3⟩ := q; have h1 := cu.kk; have h2 := cu.vv (Or.inr q1); omega⟩⟩⟩ hC49 hS49
  · refine lv_aload_n hx hb dX4_takeNumber_8 rfl (lv_at hl 0 rfl) ?_
    refine q_goI (q_runV (As := []) (rest := []) E hC0 hS0 (m_X4_misfit l X Γ H0 hC0 h0 g0) cw_X4_misfit cl_RX4_107 g0 ⟨rfl, rfl⟩ rfl hl.1 rfl (Nat.zero_le _) (by decide) dX4_takeNumber_9) hS0 (fun v55 H55 locs55 hr55 hC55 hS55 => ?_)
    obtain ⟨hp55, hr55⟩ := hr55
    have hKp55 := hKp0.tr (hp55.mono rfl)
    have m56 : (sI H55 h0 (X.1.2 4 9)).toInt = (sI H0 h0 (X.1.2 4 9)).toInt := congrArg Int32.toInt (kp_I hp55 g0 (k := 9) rfl (by decide) rfl)
    have m57 : (sI H55 h0 (X.1.2 4 13)).toInt = (sI H0 h0 (X.1.2 4 13)).toInt := congrArg Int32.toInt (kp_I hp55 g0 (k := 13) rfl (by decide) rfl)
    have m58 : (sI H55 h0 (X.1.2 4 8)).toInt = (sI H0 h0 (X.1.2 4 8)).toInt := congrArg Int32.toInt (kp_I hp55 g0 (k := 8) rfl (by decide) rfl)
    rcases hr55 with ⟨rfl, f55a⟩ | ⟨rfl, -⟩
    · exact absurd f55a (by decide)
    · have e59 := (kp_I hp55 g0 (k := 9) rfl (by decide) rfl).trans ev21
      have m60 : (sI H55 h0 (X.1.2 4 9)).toInt = v21.toInt := (congrArg Int32.toInt e59).trans rfl
      exact ret 0 H55 locs55 _ _ dX4_takeNumber_12 (Or.inl rfl) ⟨hKp55, ⟨Or.inl rfl, fun kd vl N i cu => Or.inr ⟨rfl, fun q => by obtain ⟨q1, q2, q3⟩ := q; have h1 := cu.kk; have h2 := cu.vv (Or.inr q1); omega⟩⟩⟩ hC55 hS55
set_option maxRecDepth 100000 in
set_option maxHeartbeats 4000000 in
theorem m_X4_takeSign (l : Launch) (X : xW) (Γ : Nat → Option Nat) (H0 : Heap) (hC0 : Conf X Γ H0) (h0 : Nat) (g0 : Γ h0 = some 2) (p1 : Int32) {a1 : Int} (e1 : p1.toInt = a1) : Ctr l X Γ yX4_takeSign cX4_takeSign 2 (some .boolean) 2 [.ref h0, .int p1] H0 (QI X Γ (fun v H1 => Kp X Γ [3, 29, 31, 33, 34, 37, 39, 40, 50, 51, 52, 53, 54, 55, 56, 57, 58, 59, 60, 61, 62, 63, 65, 67, 68, 69, 70, 71, 72] H0 H1 ∧ ((v = 0 ∨ v = 1) ∧ (∀ (kd vl : Nat → Int) (N i : Nat), CU X Γ H0 h0 kd vl N i → a1 ≠ 0 → (v = 1 ∧ kd i = a1 ∧ CU X Γ H1 h0 kd vl N (i + 1)) ∨ (v = 0 ∧ kd i ≠ a1))))) := by
  refine q_enterZ (own := "SnowForts$Reader") (by decide) rfl (Nat.le_of_ble_eq_true rfl) ?_
  intro p e s m args below meth c ls Qz E hl ret hS0
  have hx := E.1; have hb := E.2.1
  have hKp0 : Kp X Γ [3, 29, 31, 33, 34, 37, 39, 40, 50, 51, 52, 53, 54, 55, 56, 57, 58, 59, 60, 61, 62, 63, 65, 67, 68, 69, 70, 71, 72] H0 H0 := Kp.rf
  have hl : lv_has ls 2 [(0, .ref h0), (1, .int p1)] := hl
  refine lv_aload_n hx hb dX4_takeSign_0 rfl (lv_at hl 0 rfl) ?_
  refine q_getI E hC0 g0 fa_RX4_93 dX4_takeSign_1 (fun v21 ev21 _ _ => ?_)
  have m22 : (sI H0 h0 (X.1.2 4 9)).toInt = v21.toInt := (congrArg Int32.toInt ev21).trans rfl
  refine lv_iload_n hx hb dX4_takeSign_4 rfl (lv_at hl 1 rfl) ?_
  have c23 := i_rng v21; rw [show v21.toInt = v21.toInt from rfl] at c23
  have c24 := i_rng p1; rw [show p1.toInt = a1 from e1] at c24
  refine q_icmp_eq hx hb (a := v21.toInt) (b := a1) rfl e1 (tgt := 13) dX4_takeSign_5 rfl (fun c25 => ?_) (fun c25 => ?_)
  · refine lv_aload_n hx hb dX4_takeSign_13 rfl (lv_at hl 0 rfl) ?_
    refine q_goV (q_runV (As := []) (rest := []) E hC0 hS0 (m_X4_advance l X Γ H0 hC0 h0 g0) cw_X4_advance cl_RX4_75 g0 ⟨rfl, rfl⟩ rfl hl.1 rfl (Nat.zero_le _) (by decide) dX4_takeSign_14) hS0 (fun H26 locs26 hr26 hC26 hS26 => ?_)
    obtain ⟨hp26, hr26⟩ := hr26
    have hKp26 := hKp0.tr (hp26.mono rfl)
    have f26_0 := hr26
    have hav := f26_0
    refine lv_iconst (v := 1) hx hb dX4_takeSign_17 rfl ?_
    exact ret 1 H26 locs26 _ _ dX4_takeSign_18 (Or.inr rfl) ⟨hKp26, ⟨Or.inr rfl, fun kd vl N i cu h1 => Or.inl ⟨rfl, by have := cu.kk; omega, cu.next (by have := cu.kk; omega) hKp26 rfl hav⟩⟩⟩ hC26 hS26
  · refine lv_aload_n hx hb dX4_takeSign_8 rfl (lv_at hl 0 rfl) ?_
    refine q_goI (q_runV (As := []) (rest := []) E hC0 hS0 (m_X4_misfit l X Γ H0 hC0 h0 g0) cw_X4_misfit cl_RX4_107 g0 ⟨rfl, rfl⟩ rfl hl.1 rfl (Nat.zero_le _) (by decide) dX4_takeSign_9) hS0 (fun v27 H27 locs27 hr27 hC27 hS27 => ?_)
    obtain ⟨hp27, hr27⟩ := hr27
    have hKp27 := hKp0.tr (hp27.mono rfl)
    have m28 : (sI H27 h0 (X.1.2 4 9)).toInt = (sI H0 h0 (X.1.2 4 9)).toInt := congrArg Int32.toInt (kp_I hp27 g0 (k := 9) rfl (by decide) rfl)
    rcases hr27 with ⟨rfl, f27a⟩ | ⟨rfl, -⟩
    · exact absurd f27a (by decide)
    · have e29 := (kp_I hp27 g0 (k := 9) rfl (by decide) rfl).trans ev21
      have m30 : (sI H27 h0 (X.1.2 4 9)).toInt = v21.toInt := (congrArg Int32.toInt e29).trans rfl
      exact ret 0 H27 locs27 _ _ dX4_takeSign_12 (Or.inl rfl) ⟨hKp27, ⟨Or.inl rfl, fun kd vl N i cu h1 => Or.inr ⟨rfl, by have := cu.kk; omega⟩⟩⟩ hC27 hS27
set_option maxRecDepth 100000 in
set_option maxHeartbeats 4000000 in
theorem m_X10_takeSize (l : Launch) (X : xW) (Γ : Nat → Option Nat) (H0 : Heap) (hC0 : Conf X Γ H0) (h0 : Nat) (g0 : Γ h0 = some 3) (h1 : Nat) (g1 : Γ h1 = some 5) (ra : Nat) (gra : Γ ra = some 2) (ur : ∀ a, Γ a = some 2 → a = ra) (kd vl : Nat → Int) (N i : Nat) (S : YSt) (cu : CU X Γ H0 ra kd vl N i) (ys : YSC X Γ H0 h0 h1 vl S) (r0 : i = 0) : Ctr l X Γ yX10_takeSize cX10_takeSize 2 (some .boolean) 3 [.ref h0, .ref h1] H0 (QI X Γ (fun v H1 => Kp X Γ [3, 29, 31, 37, 39, 40, 51, 52, 53, 54, 55, 56, 57, 58, 59, 60, 61, 62, 63, 65, 67, 68, 69, 70, 71, 72] H0 H1 ∧ ((v = 1 ∧ (∃ S1 : YSt, gHead kd vl S1.1 S1.2.1 ∧ S1.2.2 = S.2.2 ∧ CU X Γ H1 ra kd vl N 5 ∧ YSC X Γ H1 h0 h1 vl S1)) ∨ (v = 0 ∧ (∀ w h, ¬ gHead kd vl w h))))) := by
  refine q_enterZ (own := "SnowForts$YardText") (by decide) rfl (Nat.le_of_ble_eq_true rfl) ?_
  intro p e s m args below meth c ls Qz E hl ret hS0
  have hx := E.1; have hb := E.2.1
  have hKp0 : Kp X Γ [3, 29, 31, 37, 39, 40, 51, 52, 53, 54, 55, 56, 57, 58, 59, 60, 61, 62, 63, 65, 67, 68, 69, 70, 71, 72] H0 H0 := Kp.rf
  have hl : lv_has ls 2 [(0, .ref h0), (1, .ref h1)] := hl
  subst r0
  have gry := cu.g; have gyt := g0; have gyy := g1
  refine lv_aload_n hx hb dX10_takeSize_0 rfl (lv_at hl 0 rfl) ?_
  refine q_getU E hC0 g0 fa_RX10_21 ur dX10_takeSize_1 ?_
  refine q_word E hS0 (i := 0) (by decide) w_857 dX10_takeSize_4 (fun g21 => ?_)
  refine q_goI (q_runV (As := [va_rf (some (wad X 0))]) (rest := []) E hC0 hS0 (m_X4_take l X Γ H0 hC0 ra gra (some (wad X 0)) (fun _ h => by cases h; exact g21)) cw_X4_take cl_RX10_75 gra ⟨rfl, rfl⟩ rfl hl.1 rfl (Nat.zero_le _) (by decide) dX10_takeSize_7) hS0 (fun v22 H22 locs22 hr22 hC22 hS22 => ?_)
  obtain ⟨hp22, hr22⟩ := hr22
  have hKp22 := hKp0.tr (hp22.mono rfl)
  replace ys := ys.kp hp22 gyt gyy rfl
  rcases hr22.2 kd vl N (0) cu 0 (by decide) rfl with ⟨rfl, w1, cu⟩ | ⟨rfl, w1⟩
  · refine q_if_eq hx hb (a := 1) (by decide) (tgt := 26) dX10_takeSize_10 rfl (fun c23 => absurd c23 (by omega)) (fun c23 => ?_)
    refine lv_aload_n hx hb dX10_takeSize_13 rfl (lv_at hl 0 rfl) ?_
    refine q_getU E hC22 g0 fa_RX10_21 ur dX10_takeSize_14 ?_
    refine lv_iconst (v := 2) hx hb dX10_takeSize_17 rfl ?_
    refine lv_bipush (v := 6) hx hb dX10_takeSize_18 rfl ?_
    refine q_goI (q_runV (As := [.int 2, .int 6]) (rest := []) E hC22 hS22 (m_X4_takeNumber l X Γ H22 hC22 ra gra 2 (a1 := 2) (by decide) 6 (a2 := 6) (by decide)) cw_X4_takeNumber cl_RX10_79 gra ⟨rfl, rfl⟩ rfl hl.1 rfl (Nat.zero_le _) (by decide) dX10_takeSize_20) hS22 (fun v24 H24 locs24 hr24 hC24 hS24 => ?_)
    obtain ⟨hp24, hr24⟩ := hr24
    have hKp24 := hKp22.tr (hp24.mono rfl)
    replace ys := ys.kp hp24 gyt gyy rfl
    rcases hr24.2 kd vl N (1) cu with ⟨rfl, ⟨o1, o2, o3⟩, n1, cu⟩ | ⟨rfl, w2⟩
    · refine q_if_ne hx hb (a := 1) (by decide) (tgt := 28) dX10_takeSize_23 rfl (fun c25 => ?_) (fun c25 => absurd c25 (by omega))
      refine lv_aload_n hx hb dX10_takeSize_28 rfl (lv_at hl 0 rfl) ?_
      refine q_getU E hC24 g0 fa_RX10_21 ur dX10_takeSize_29 ?_
      refine q_getI E hC24 gra fa_RX10_83 dX10_takeSize_32 (fun v26 ev26 _ _ => ?_)
      have m27 : (sI H24 ra (X.1.2 4 13)).toInt = v26.toInt := congrArg Int32.toInt ev26
      refine lv_iconst (v := 2) hx hb dX10_takeSize_35 rfl ?_
      refine lv_irem hx hb dX10_takeSize_36 (by decide) (lv_topi (fun v28 ev28 => ?_))
      have ev28i : v28.toInt = (v26.toInt % 2) := i_rem ev28 rfl (by decide) (by omega) (by decide)
      refine q_if_eq hx hb (a := (v26.toInt % 2)) ev28i (tgt := 56) dX10_takeSize_37 rfl (fun c29 => ?_) (fun c29 => ?_)
      · refine lv_aload_n hx hb dX10_takeSize_56 rfl (lv_at hl 1 rfl) ?_
        refine lv_aload_n hx hb dX10_takeSize_57 rfl (lv_at hl 0 rfl) ?_
        refine q_getU E hC24 g0 fa_RX10_21 ur dX10_takeSize_58 ?_
        refine q_getI E hC24 gra fa_RX10_83 dX10_takeSize_61 (fun v30 ev30 _ _ => ?_)
        have qv30 := ev26.symm.trans ev30; subst qv30
        have m31 : (sI H24 ra (X.1.2 4 13)).toInt = v26.toInt := (congrArg Int32.toInt ev30).trans rfl
        refine q_put E hC24 hS24 g1 fp_RX10_92 (tv_I rfl (by omega) (by omega)) rfl rfl dX10_takeSize_64 (fun H32 locs32 hC32 hS32 U32 => ?_)
        have hKp32 := Kp.upO E g1 fp_RX10_92 rfl U32 hKp24
        have e33 := up_I U32
        replace cu := cu.ne U32 g1 (by decide)
        have ys := ys.wide E U32 gyt gyy (z := vl 1) (by omega) (by omega)
        refine lv_aload_n hx hb dX10_takeSize_67 rfl (lv_at hl 0 rfl) ?_
        refine q_getU E hC32 g0 fa_RX10_21 ur dX10_takeSize_68 ?_
        refine q_word E hS32 (i := 1) (by decide) w_877 dX10_takeSize_71 (fun g34 => ?_)
        refine q_goI (q_runV (As := [va_rf (some (wad X 1))]) (rest := []) E hC32 hS32 (m_X4_take l X Γ H32 hC32 ra gra (some (wad X 1)) (fun _ h => by cases h; exact g34)) cw_X4_take cl_RX10_75 gra ⟨rfl, rfl⟩ rfl hl.1 rfl (Nat.zero_le _) (by decide) dX10_takeSize_74) hS32 (fun v35 H35 locs35 hr35 hC35 hS35 => ?_)
        obtain ⟨hp35, hr35⟩ := hr35
        have hKp35 := hKp32.tr (hp35.mono rfl)
        replace ys := ys.kp hp35 gyt gyy rfl
        rcases hr35.2 kd vl N (2) cu 1 (by decide) rfl with ⟨rfl, w3, cu⟩ | ⟨rfl, w3⟩
        · refine q_if_eq hx hb (a := 1) (by decide) (tgt := 93) dX10_takeSize_77 rfl (fun c36 => absurd c36 (by omega)) (fun c36 => ?_)
          refine lv_aload_n hx hb dX10_takeSize_80 rfl (lv_at hl 0 rfl) ?_
          refine q_getU E hC35 g0 fa_RX10_21 ur dX10_takeSize_81 ?_
          refine lv_iconst (v := 1) hx hb dX10_takeSize_84 rfl ?_
          refine lv_bipush (v := 6) hx hb dX10_takeSize_85 rfl ?_
          refine q_goI (q_runV (As := [.int 1, .int 6]) (rest := []) E hC35 hS35 (m_X4_takeNumber l X Γ H35 hC35 ra gra 1 (a1 := 1) (by decide) 6 (a2 := 6) (by decide)) cw_X4_takeNumber cl_RX10_79 gra ⟨rfl, rfl⟩ rfl hl.1 rfl (Nat.zero_le _) (by decide) dX10_takeSize_87) hS35 (fun v37 H37 locs37 hr37 hC37 hS37 => ?_)
          obtain ⟨hp37, hr37⟩ := hr37
          have hKp37 := hKp35.tr (hp37.mono rfl)
          replace ys := ys.kp hp37 gyt gyy rfl
          rcases hr37.2 kd vl N (3) cu with ⟨rfl, ⟨p1, p2, p3⟩, n2, cu⟩ | ⟨rfl, w4⟩
          · refine q_if_ne hx hb (a := 1) (by decide) (tgt := 95) dX10_takeSize_90 rfl (fun c38 => ?_) (fun c38 => absurd c38 (by omega))
            refine lv_aload_n hx hb dX10_takeSize_95 rfl (lv_at hl 1 rfl) ?_
            refine lv_aload_n hx hb dX10_takeSize_96 rfl (lv_at hl 0 rfl) ?_
            refine q_getU E hC37 g0 fa_RX10_21 ur dX10_takeSize_97 ?_
            have e40 := (up_nI U32 (ne_k gra g1 (by decide))).trans ev26
            have e41 := (kp_I hp35 gra (k := 13) rfl (by decide) rfl).trans e40
            refine q_getI E hC37 gra fa_RX10_83 dX10_takeSize_100 (fun v39 ev39 _ _ => ?_)
            have m42 : (sI H37 ra (X.1.2 4 13)).toInt = v39.toInt := congrArg Int32.toInt ev39
            refine q_put E hC37 hS37 g1 fp_RX10_98 (tv_I rfl (by omega) (by omega)) rfl rfl dX10_takeSize_103 (fun H43 locs43 hC43 hS43 U43 => ?_)
            have hKp43 := Kp.upO E g1 fp_RX10_98 rfl U43 hKp37
            have e44 := up_I U43
            replace cu := cu.ne U43 g1 (by decide)
            have ys := ys.high E U43 gyt gyy (z := vl 3) (by omega) (by omega)
            refine lv_aload_n hx hb dX10_takeSize_106 rfl (lv_at hl 0 rfl) ?_
            refine q_getU E hC43 g0 fa_RX10_21 ur dX10_takeSize_107 ?_
            refine lv_bipush (v := 59) hx hb dX10_takeSize_110 rfl ?_
            refine q_goI (q_runV (As := [.int 59]) (rest := []) E hC43 hS43 (m_X4_takeSign l X Γ H43 hC43 ra gra 59 (a1 := 59) (by decide)) cw_X4_takeSign cl_RX10_53 gra ⟨rfl, rfl⟩ rfl hl.1 rfl (Nat.zero_le _) (by decide) dX10_takeSize_112) hS43 (fun v45 H45 locs45 hr45 hC45 hS45 => ?_)
            obtain ⟨hp45, hr45⟩ := hr45
            have hKp45 := hKp43.tr (hp45.mono rfl)
            replace ys := ys.kp hp45 gyt gyy rfl
            rcases hr45.2 kd vl N (4) cu (by decide) with ⟨rfl, w5, cu⟩ | ⟨rfl, w5⟩
            · have hyes : ∃ S1 : YSt, gHead kd vl S1.1 S1.2.1 ∧ S1.2.2 = S.2.2 ∧ CU X Γ H45 ra kd vl N 5 ∧ YSC X Γ H45 h0 h1 vl S1 := ⟨(vl 1, vl 3, S.2.2), ⟨w1, ⟨o1, o2, o3⟩, by omega, w3, ⟨p1, p2, p3⟩, w5, rfl, rfl⟩, rfl, cu, ys⟩
              exact ret 1 H45 locs45 _ _ dX10_takeSize_115 (Or.inr rfl) ⟨hKp45, Or.inl ⟨rfl, hyes⟩⟩ hC45 hS45
            · have hno : ∀ w h, ¬ gHead kd vl w h := fun w h q => w5 q.2.2.2.2.2.1
              exact ret 0 H45 locs45 _ _ dX10_takeSize_115 (Or.inl rfl) ⟨hKp45, Or.inr ⟨rfl, hno⟩⟩ hC45 hS45
          · have hno : ∀ w h, ¬ gHead kd vl w h := fun w h q => w4 q.2.2.2.2.1
            refine q_if_ne hx hb (a := 0) (by decide) (tgt := 95) dX10_takeSize_90 rfl (fun c46 => absurd c46 (by omega)) (fun c46 => ?_)
            refine lv_iconst (v := 0) hx hb dX10_takeSize_93 rfl ?_
            exact ret 0 H37 locs37 _ _ dX10_takeSize_94 (Or.inl rfl) ⟨hKp37, Or.inr ⟨rfl, hno⟩⟩ hC37 hS37
        · have hno : ∀ w h, ¬ gHead kd vl w h := fun w h q => w3 q.2.2.2.1
          refine q_if_eq hx hb (a := 0) (by decide) (tgt := 93) dX10_takeSize_77 rfl (fun c47 => ?_) (fun c47 => absurd c47 (by omega))
          refine lv_iconst (v := 0) hx hb dX10_takeSize_93 rfl ?_
          exact ret 0 H35 locs35 _ _ dX10_takeSize_94 (Or.inl rfl) ⟨hKp35, Or.inr ⟨rfl, hno⟩⟩ hC35 hS35
      · have hno : ∀ w h, ¬ gHead kd vl w h := fun w h q => by have q1 := q.2.2.1; omega
        refine lv_aload_n hx hb dX10_takeSize_40 rfl (lv_at hl 0 rfl) ?_
        refine q_getU E hC24 g0 fa_RX10_21 ur dX10_takeSize_41 ?_
        refine lv_iconst (v := 4) hx hb dX10_takeSize_44 rfl ?_
        refine lv_aload_n hx hb dX10_takeSize_45 rfl (lv_at hl 0 rfl) ?_
        refine q_getU E hC24 g0 fa_RX10_21 ur dX10_takeSize_46 ?_
        refine q_getI E hC24 gra fa_RX10_86 dX10_takeSize_49 (fun v48 ev48 _ _ => ?_)
        have m49 : (sI H24 ra (X.1.2 4 14)).toInt = v48.toInt := congrArg Int32.toInt ev48
        refine q_goI (q_runV (As := [.int 4, .int v48]) (rest := []) E hC24 hS24 (m_X4_fail l X Γ H24 hC24 ra gra 4 (a1 := 4) (by decide) v48 (a2 := v48.toInt) rfl) cw_X4_fail cl_RX10_89 gra ⟨rfl, rfl⟩ rfl hl.1 rfl (Nat.zero_le _) (by decide) dX10_takeSize_52) hS24 (fun v50 H50 locs50 hr50 hC50 hS50 => ?_)
        obtain ⟨hp50, hr50⟩ := hr50
        have hKp50 := hKp24.tr (hp50.mono rfl)
        replace cu := cu.kp hp50 rfl rfl
        replace ys := ys.kp hp50 gyt gyy rfl
        rcases hr50 with ⟨rfl, f50a⟩ | ⟨rfl, -⟩
        · exact absurd f50a (by decide)
        · exact ret 0 H50 locs50 _ _ dX10_takeSize_55 (Or.inl rfl) ⟨hKp50, Or.inr ⟨rfl, hno⟩⟩ hC50 hS50
    · have hno : ∀ w h, ¬ gHead kd vl w h := fun w h q => w2 q.2.1
      refine q_if_ne hx hb (a := 0) (by decide) (tgt := 28) dX10_takeSize_23 rfl (fun c51 => absurd c51 (by omega)) (fun c51 => ?_)
      refine lv_iconst (v := 0) hx hb dX10_takeSize_26 rfl ?_
      exact ret 0 H24 locs24 _ _ dX10_takeSize_27 (Or.inl rfl) ⟨hKp24, Or.inr ⟨rfl, hno⟩⟩ hC24 hS24
  · have hno : ∀ w h, ¬ gHead kd vl w h := fun w h q => w1 q.1
    refine q_if_eq hx hb (a := 0) (by decide) (tgt := 26) dX10_takeSize_10 rfl (fun c52 => ?_) (fun c52 => absurd c52 (by omega))
    refine lv_iconst (v := 0) hx hb dX10_takeSize_26 rfl ?_
    exact ret 0 H22 locs22 _ _ dX10_takeSize_27 (Or.inl rfl) ⟨hKp22, Or.inr ⟨rfl, hno⟩⟩ hC22 hS22
set_option maxRecDepth 100000 in
set_option maxHeartbeats 4000000 in
theorem m_X4_isName (l : Launch) (X : xW) (Γ : Nat → Option Nat) (H0 : Heap) (hC0 : Conf X Γ H0) (h0 : Nat) (g0 : Γ h0 = some 2) : Ctr l X Γ yX4_isName cX4_isName 1 (some .boolean) 0 [.ref h0] H0 (QI X Γ (fun v H1 => H1 = H0 ∧ ((v = 0 ∨ v = 1) ∧ (∀ (kd vl : Nat → Int) (N i : Nat), CU X Γ H0 h0 kd vl N i → (v = 1 ∧ okM kd vl i) ∨ (v = 0 ∧ ¬ okM kd vl i))))) := by
  refine q_enterZ (own := "SnowForts$Reader") (by decide) rfl (Nat.le_of_ble_eq_true rfl) ?_
  intro p e s m args below meth c ls Qz E hl ret hS0
  have hx := E.1; have hb := E.2.1
  have hl : lv_has ls 1 [(0, .ref h0)] := hl
  refine lv_aload_n hx hb dX4_isName_0 rfl (lv_at hl 0 rfl) ?_
  refine q_getI E hC0 g0 fa_RX4_93 dX4_isName_1 (fun v21 ev21 _ _ => ?_)
  have m22 : (sI H0 h0 (X.1.2 4 9)).toInt = v21.toInt := (congrArg Int32.toInt ev21).trans rfl
  refine lv_iconst (v := 2) hx hb dX4_isName_4 rfl ?_
  refine q_icmp_ne hx hb (a := v21.toInt) (b := 2) rfl (by decide) (tgt := 28) dX4_isName_5 rfl (fun c23 => ?_) (fun c23 => ?_)
  · refine lv_iconst (v := 0) hx hb dX4_isName_28 rfl ?_
    exact ret 0 H0 [] _ _ dX4_isName_29 (Or.inl rfl) ⟨rfl, ⟨Or.inl rfl, fun kd vl N i cu => Or.inr ⟨rfl, fun q => by have h1 := cu.kk; have h2 := q.1; first | omega | exact cu.nnm hwq (by assumption) q | (have h3 := cu.vv (Or.inl h2); have h4 := q.2.1; omega)⟩⟩⟩ hC0 hS0
  · refine lv_aload_n hx hb dX4_isName_8 rfl (lv_at hl 0 rfl) ?_
    refine q_getQ E hC0 g0 fa_RX4_103 dX4_isName_9 (fun q24 eq24 gq24 => ?_)
    have hwq := eq24
    refine q_ifnonnull (o := q24) hx hb (tgt := 28) dX4_isName_12 rfl (fun c25 => ?_) (fun c25 => ?_)
    · refine lv_iconst (v := 0) hx hb dX4_isName_28 rfl ?_
      exact ret 0 H0 [] _ _ dX4_isName_29 (Or.inl rfl) ⟨rfl, ⟨Or.inl rfl, fun kd vl N i cu => Or.inr ⟨rfl, fun q => by have h1 := cu.kk; have h2 := q.1; first | omega | exact cu.nnm hwq (by assumption) q | (have h3 := cu.vv (Or.inl h2); have h4 := q.2.1; omega)⟩⟩⟩ hC0 hS0
    · refine lv_aload_n hx hb dX4_isName_15 rfl (lv_at hl 0 rfl) ?_
      refine q_getJ E hC0 g0 fa_RX4_99 dX4_isName_16 (fun v26 ev26 => ?_)
      have hvq : (sJ H0 h0 (X.1.2 4 11)).toInt = v26.toInt := by rw [← ev26]
      refine lv_lconst (v := 0) hx hb dX4_isName_19 rfl ?_
      refine q_lcmp_eq hx hb (a := v26.toInt) (b := 0) rfl (show (0 : Int64).toInt = 0 from by decide) (tgt := 28) dX4_isName_20 dX4_isName_21 rfl (fun c27 => ?_) (fun c27 => ?_)
      · refine lv_iconst (v := 0) hx hb dX4_isName_28 rfl ?_
        exact ret 0 H0 [] _ _ dX4_isName_29 (Or.inl rfl) ⟨rfl, ⟨Or.inl rfl, fun kd vl N i cu => Or.inr ⟨rfl, fun q => by have h1 := cu.kk; have h2 := q.1; first | omega | exact cu.nnm hwq (by assumption) q | (have h3 := cu.vv (Or.inl h2); have h4 := q.2.1; omega)⟩⟩⟩ hC0 hS0
      · refine lv_iconst (v := 1) hx hb dX4_isName_24 rfl ?_
        refine lv_goto (tgt := 29) hx hb dX4_isName_25 rfl ?_
        exact ret 1 H0 [] _ _ dX4_isName_29 (Or.inr rfl) ⟨rfl, ⟨Or.inr rfl, fun kd vl N i cu => Or.inl ⟨rfl, by have := cu.kk; omega, by have h1 := cu.kk; have h2 := cu.vv (Or.inl (by omega)); omega, fun j hj => cu.nam (hwq.trans (by assumption)) j hj (by have := cu.kk; omega)⟩⟩⟩ hC0 hS0
set_option maxRecDepth 100000 in
set_option maxHeartbeats 4000000 in
theorem m_X10_takeSchool (l : Launch) (X : xW) (Γ : Nat → Option Nat) (H0 : Heap) (hC0 : Conf X Γ H0) (h0 : Nat) (g0 : Γ h0 = some 3) (h1 : Nat) (g1 : Γ h1 = some 5) (ra : Nat) (gra : Γ ra = some 2) (ur : ∀ a, Γ a = some 2 → a = ra) (kd vl : Nat → Int) (N i : Nat) (S : YSt) (cu : CU X Γ H0 ra kd vl N i) (ys : YSC X Γ H0 h0 h1 vl S) (r0 : okW kd vl 2 i) : Ctr l X Γ yX10_takeSchool cX10_takeSchool 3 (some .boolean) 3 [.ref h0, .ref h1] H0 (QI X Γ (fun v H1 => Kp X Γ [3, 29, 31, 37, 39, 40, 51, 52, 53, 54, 55, 56, 57, 58, 59, 60, 62, 63, 65, 67, 68, 69, 70, 71, 72] H0 H1 ∧ ((v = 1 ∧ (∃ (S1 : YSt) (i1 : Nat), gSchool kd vl S i S1 i1 ∧ CU X Γ H1 ra kd vl N i1 ∧ YSC X Γ H1 h0 h1 vl S1)) ∨ (v = 0 ∧ (∀ (S1 : YSt) (i1 : Nat), ¬ gSchool kd vl S i S1 i1))))) := by
  refine q_enterZ (own := "SnowForts$YardText") (by decide) rfl (Nat.le_of_ble_eq_true rfl) ?_
  intro p e s m args below meth c ls Qz E hl ret hS0
  have hx := E.1; have hb := E.2.1
  have hKp0 : Kp X Γ [3, 29, 31, 37, 39, 40, 51, 52, 53, 54, 55, 56, 57, 58, 59, 60, 62, 63, 65, 67, 68, 69, 70, 71, 72] H0 H0 := Kp.rf
  have hl : lv_has ls 3 [(0, .ref h0), (1, .ref h1)] := hl
  have yw := ys.1; have yh := ys.2.1; have yn := ys.2.2.1; have yb := ys.2.2.2.1
  have gry := cu.g; have gyt := g0; have gyy := g1
  refine lv_aload_n hx hb dX10_takeSchool_0 rfl (lv_at hl 1 rfl) ?_
  refine q_getI E hC0 g1 fa_RX10_144 dX10_takeSchool_1 (fun v21 ev21 lv21 uv21 => ?_)
  have m22 : (sI H0 h1 (X.1.2 8 2)).toInt = v21.toInt := congrArg Int32.toInt ev21
  refine lv_istore_n hx hb dX10_takeSchool_4 rfl hl (by decide) rfl (fun ls hl => ?_)
  replace hl : lv_has ls 3 [(2, .int v21), (0, .ref h0), (1, .ref h1)] := hl
  refine lv_iload_n hx hb dX10_takeSchool_5 rfl (lv_at hl 0 rfl) ?_
  refine lv_i2l (v := v21.toInt64) hx hb dX10_takeSchool_6 rfl (lv_topl (fun v23 ev23 => ?_))
  have ev23i : v23.toInt = v21.toInt := l_ofi ev23.symm rfl
  refine lv_iconst (v := 0) hx hb dX10_takeSchool_7 rfl ?_
  refine lv_iconst (v := 1) hx hb dX10_takeSchool_8 rfl ?_
  refine q_goIp (q_runSN (As := [.long v23, .int 0, .int 1]) (rest := []) E hS0 (m_X11_isWithin l X Γ H0 hC0 v23 (a0 := v21.toInt) ev23i 0 (a1 := 0) (by decide) 1 (a2 := 1) (by decide)) cw_X11_isWithin cl_RX10_147 rfl hl.1 rfl (Nat.zero_le _) (by decide) dX10_takeSchool_9) hS0 (fun v24 locs24 hr24 hS24 => ?_)
  rcases hr24 with ⟨rfl, f24a0, f24a1⟩ | ⟨rfl, f24b⟩
  · refine q_if_ne hx hb (a := 1) (by decide) (tgt := 32) dX10_takeSchool_12 rfl (fun c25 => ?_) (fun c25 => absurd c25 (by omega))
    refine lv_aload_n hx hb dX10_takeSchool_32 rfl (lv_at hl 1 rfl) ?_
    refine q_getU E hC0 g0 fa_RX10_21 ur dX10_takeSchool_33 ?_
    refine q_goV (q_runV (As := []) (rest := []) E hC0 hS24 (m_X4_advance l X Γ H0 hC0 ra gra) cw_X4_advance cl_RX10_154 gra ⟨rfl, rfl⟩ rfl hl.1 rfl (Nat.zero_le _) (by decide) dX10_takeSchool_36) hS24 (fun H26 locs26 hr26 hC26 hS26 => ?_)
    obtain ⟨hp26, hr26⟩ := hr26
    have hKp26 := hKp0.tr (hp26.mono rfl)
    replace ys := ys.kp hp26 gyt gyy rfl
    have f26_0 := hr26
    have cu := cu.next (by have := r0.1; omega) hp26 rfl f26_0
    refine lv_aload_n hx hb dX10_takeSchool_39 rfl (lv_at hl 1 rfl) ?_
    refine q_getU E hC26 g0 fa_RX10_21 ur dX10_takeSchool_40 ?_
    refine q_goIp (q_runV (As := []) (rest := []) E hC26 hS26 (m_X4_isName l X Γ H26 hC26 ra gra) cw_X4_isName cl_RX10_157 gra ⟨rfl, rfl⟩ rfl hl.1 rfl (Nat.zero_le _) (by decide) dX10_takeSchool_43) hS26 (fun v27 locs27 hr27 hS27 => ?_)
    rcases hr27.2 kd vl N (i + 1) cu with ⟨rfl, hm⟩ | ⟨rfl, hm⟩
    · refine q_if_ne hx hb (a := 1) (by decide) (tgt := 57) dX10_takeSchool_46 rfl (fun c28 => ?_) (fun c28 => absurd c28 (by omega))
      refine lv_iload_n hx hb dX10_takeSchool_57 rfl (lv_at hl 0 rfl) ?_
      refine q_if_ne hx hb (a := v21.toInt) rfl (tgt := 75) dX10_takeSchool_58 rfl (fun c29 => ?_) (fun c29 => ?_)
      · refine lv_aload_n hx hb dX10_takeSchool_75 rfl (lv_at hl 1 rfl) ?_
        refine q_getJ E hC26 g0 fa_RX10_168 dX10_takeSchool_76 (fun v30 ev30 => ?_)
        have hv3 : (sJ H26 h0 (X.1.2 9 4)).toInt = v30.toInt := by rw [← ev30]
        have hv4 := ys.2.2.2.2.1 (by omega)
        refine lv_aload_n hx hb dX10_takeSchool_79 rfl (lv_at hl 1 rfl) ?_
        refine q_getU E hC26 g0 fa_RX10_21 ur dX10_takeSchool_80 ?_
        refine q_getJ E hC26 gra fa_RX10_164 dX10_takeSchool_83 (fun v31 ev31 => ?_)
        have hv1 : (sJ H26 ra (X.1.2 4 11)).toInt = v31.toInt := by rw [← ev31]
        have hv2 := cu.vv (Or.inl hm.1)
        refine q_lcmp_ne hx hb (a := v30.toInt) (b := v31.toInt) rfl rfl (tgt := 106) dX10_takeSchool_86 dX10_takeSchool_87 rfl (fun c32 => ?_) (fun c32 => ?_)
        · refine lv_aload_n hx hb dX10_takeSchool_106 rfl (lv_at hl 1 rfl) ?_
          refine q_getU E hC26 g0 fa_RX10_21 ur dX10_takeSchool_107 ?_
          refine q_goV (q_runV (As := []) (rest := []) E hC26 hS27 (m_X4_advance l X Γ H26 hC26 ra gra) cw_X4_advance cl_RX10_154 gra ⟨rfl, rfl⟩ rfl hl.1 rfl (Nat.zero_le _) (by decide) dX10_takeSchool_110) hS27 (fun H33 locs33 hr33 hC33 hS33 => ?_)
          obtain ⟨hp33, hr33⟩ := hr33
          have hKp33 := hKp26.tr (hp33.mono rfl)
          replace ys := ys.kp hp33 gyt gyy rfl
          have f33_0 := hr33
          have cu := cu.next (by have := hm.1; omega) hp33 rfl f33_0
          refine lv_aload_n hx hb dX10_takeSchool_113 rfl (lv_at hl 1 rfl) ?_
          refine q_getU E hC33 g0 fa_RX10_21 ur dX10_takeSchool_114 ?_
          refine q_word E hS33 (i := 3) (by decide) w_900 dX10_takeSchool_117 (fun g34 => ?_)
          refine q_goI (q_runV (As := [va_rf (some (wad X 3))]) (rest := []) E hC33 hS33 (m_X4_take l X Γ H33 hC33 ra gra (some (wad X 3)) (fun _ h => by cases h; exact g34)) cw_X4_take cl_RX10_75 gra ⟨rfl, rfl⟩ rfl hl.1 rfl (Nat.zero_le _) (by decide) dX10_takeSchool_120) hS33 (fun v35 H35 locs35 hr35 hC35 hS35 => ?_)
          obtain ⟨hp35, hr35⟩ := hr35
          have hKp35 := hKp33.tr (hp35.mono rfl)
          replace ys := ys.kp hp35 gyt gyy rfl
          rcases hr35.2 kd vl N (i + 2) cu 3 (by decide) rfl with ⟨rfl, wh, cu⟩ | ⟨rfl, wh⟩
          · refine q_if_eq hx hb (a := 1) (by decide) (tgt := 139) dX10_takeSchool_123 rfl (fun c36 => absurd c36 (by omega)) (fun c36 => ?_)
            refine lv_aload_n hx hb dX10_takeSchool_126 rfl (lv_at hl 1 rfl) ?_
            refine q_getU E hC35 g0 fa_RX10_21 ur dX10_takeSchool_127 ?_
            refine lv_iconst (v := 0) hx hb dX10_takeSchool_130 rfl ?_
            refine lv_bipush (v := 40) hx hb dX10_takeSchool_131 rfl ?_
            refine q_goI (q_runV (As := [.int 0, .int 40]) (rest := []) E hC35 hS35 (m_X4_takeNumber l X Γ H35 hC35 ra gra 0 (a1 := 0) (by decide) 40 (a2 := 40) (by decide)) cw_X4_takeNumber cl_RX10_79 gra ⟨rfl, rfl⟩ rfl hl.1 rfl (Nat.zero_le _) (by decide) dX10_takeSchool_133) hS35 (fun v37 H37 locs37 hr37 hC37 hS37 => ?_)
            obtain ⟨hp37, hr37⟩ := hr37
            have hKp37 := hKp35.tr (hp37.mono rfl)
            replace ys := ys.kp hp37 gyt gyy rfl
            rcases hr37.2 kd vl N (i + 3) cu with ⟨rfl, ⟨n1, n2, n3⟩, nn, cu⟩ | ⟨rfl, wn⟩
            · refine q_if_ne hx hb (a := 1) (by decide) (tgt := 141) dX10_takeSchool_136 rfl (fun c38 => ?_) (fun c38 => absurd c38 (by omega))
              refine lv_aload_n hx hb dX10_takeSchool_141 rfl (lv_at hl 2 rfl) ?_
              refine q_getR E hC37 g1 fa_RX10_174 dX10_takeSchool_142 (fun q39 eq39 gq39 => ?_)
              refine lv_iload_n hx hb dX10_takeSchool_145 rfl (lv_at hl 0 rfl) ?_
              refine lv_aload_n hx hb dX10_takeSchool_146 rfl (lv_at hl 1 rfl) ?_
              refine q_getU E hC37 g0 fa_RX10_21 ur dX10_takeSchool_147 ?_
              refine q_getI E hC37 gra fa_RX10_83 dX10_takeSchool_150 (fun v40 ev40 _ _ => ?_)
              have m41 : (sI H37 ra (X.1.2 4 13)).toInt = v40.toInt := congrArg Int32.toInt ev40
              refine q_iast E hC37 hS37 gq39 (by decide) rfl rfl (i_in (a := v21.toInt) rfl (by omega) (by omega)) (tv_I rfl (by omega) (by omega)) dX10_takeSchool_153 (fun H42 locs42 hC42 hS42 U42 => ?_)
              have hKp42 := Kp.upA gq39 rfl (by decide) rfl U42 hKp37
              have m43 : aI H42 q39 (v21.toInt) = v40.toInt := aI_up U42 rfl rfl
              replace cu := cu.ne U42 gq39 (by decide)
              replace ys := ys.ne U42 gyt gyy gq39 (by decide)
              refine lv_aload_n hx hb dX10_takeSchool_154 rfl (lv_at hl 2 rfl) ?_
              refine lv_dup hx hb dX10_takeSchool_155 rfl ?_
              have yn2 := ys.2.2.1
              have e45 := (kp_I hp26 g1 (k := 2) rfl (by decide) rfl).trans ev21
              have e46 := (kp_I hp33 g1 (k := 2) rfl (by decide) rfl).trans e45
              have e47 := (kp_I hp35 g1 (k := 2) rfl (by decide) rfl).trans e46
              have e48 := (kp_I hp37 g1 (k := 2) rfl (by decide) rfl).trans e47
              have e49 := (up_nI U42 (ne_k g1 gq39 (by decide))).trans e48
              refine q_getI E hC42 g1 fa_RX10_144 dX10_takeSchool_156 (fun v44 ev44 lv44 uv44 => ?_)
              have qv44 := e49.symm.trans ev44; subst qv44
              have m50 : (sI H42 h1 (X.1.2 8 2)).toInt = v21.toInt := (congrArg Int32.toInt ev44).trans rfl
              refine lv_iconst (v := 1) hx hb dX10_takeSchool_159 rfl ?_
              refine lv_iadd hx hb dX10_takeSchool_160 (lv_topi (fun v51 ev51 => ?_))
              have ev51i : v51.toInt = (v21.toInt + 1) := i_add ev51 rfl (by decide) (by omega) (by omega)
              refine q_put E hC42 hS42 g1 fp_RX10_144 (tv_I ev51i (by omega) (by omega)) rfl rfl dX10_takeSchool_161 (fun H52 locs52 hC52 hS52 U52 => ?_)
              have hKp52 := Kp.upO E g1 fp_RX10_144 rfl U52 hKp42
              have e53 := up_I U52
              replace cu := cu.ne U52 g1 (by decide)
              have ys := ys.school E U52 gyt gyy (nm := if S.2.2.1 = 0 then i + 1 else S.2.2.2.1) (by omega) (by first | (rw [if_pos (by omega)]; exact fn) | (rw [if_neg (by omega)]; exact ys.2.2.2.2.1 (by omega)))
              refine lv_iconst (v := 1) hx hb dX10_takeSchool_164 rfl ?_
              have hyes := (⟨_, _, ⟨by omega, hm, fun q => by first | (exfalso; omega) | omega, wh, ⟨n1, n2, n3⟩, rfl, rfl⟩, cu, ys⟩ : ∃ (S1 : YSt) (i1 : Nat), gSchool kd vl S i S1 i1 ∧ CU X Γ H52 ra kd vl N i1 ∧ YSC X Γ H52 h0 h1 vl S1)
              exact ret 1 H52 locs52 _ _ dX10_takeSchool_165 (Or.inr rfl) ⟨hKp52, Or.inl ⟨rfl, hyes⟩⟩ hC52 hS52
            · refine q_if_ne hx hb (a := 0) (by decide) (tgt := 141) dX10_takeSchool_136 rfl (fun c54 => absurd c54 (by omega)) (fun c54 => ?_)
              refine lv_iconst (v := 0) hx hb dX10_takeSchool_139 rfl ?_
              have hno : ∀ (S1 : YSt) (i1 : Nat), ¬ gSchool kd vl S i S1 i1 := fun S1 i1 q => by obtain ⟨q1, q2, q3, q4, q5, -, -⟩ := q; first | omega | exact absurd q2 hm | exact absurd q4 wh | exact absurd q5 wn | exact q3 (by omega) (by omega)
              exact ret 0 H37 locs37 _ _ dX10_takeSchool_140 (Or.inl rfl) ⟨hKp37, Or.inr ⟨rfl, hno⟩⟩ hC37 hS37
          · refine q_if_eq hx hb (a := 0) (by decide) (tgt := 139) dX10_takeSchool_123 rfl (fun c55 => ?_) (fun c55 => absurd c55 (by omega))
            refine lv_iconst (v := 0) hx hb dX10_takeSchool_139 rfl ?_
            have hno : ∀ (S1 : YSt) (i1 : Nat), ¬ gSchool kd vl S i S1 i1 := fun S1 i1 q => by obtain ⟨q1, q2, q3, q4, q5, -, -⟩ := q; first | omega | exact absurd q2 hm | exact absurd q4 wh | exact absurd q5 wn | exact q3 (by omega) (by omega)
            exact ret 0 H35 locs35 _ _ dX10_takeSchool_140 (Or.inl rfl) ⟨hKp35, Or.inr ⟨rfl, hno⟩⟩ hC35 hS35
        · refine lv_aload_n hx hb dX10_takeSchool_90 rfl (lv_at hl 1 rfl) ?_
          refine q_getU E hC26 g0 fa_RX10_21 ur dX10_takeSchool_91 ?_
          refine lv_iconst (v := 3) hx hb dX10_takeSchool_94 rfl ?_
          refine lv_aload_n hx hb dX10_takeSchool_95 rfl (lv_at hl 1 rfl) ?_
          refine q_getU E hC26 g0 fa_RX10_21 ur dX10_takeSchool_96 ?_
          refine q_getI E hC26 gra fa_RX10_151 dX10_takeSchool_99 (fun v56 ev56 _ _ => ?_)
          have m57 : (sI H26 ra (X.1.2 4 10)).toInt = v56.toInt := congrArg Int32.toInt ev56
          refine q_goI (q_runV (As := [.int 3, .int v56]) (rest := []) E hC26 hS27 (m_X4_fail l X Γ H26 hC26 ra gra 3 (a1 := 3) (by decide) v56 (a2 := v56.toInt) rfl) cw_X4_fail cl_RX10_89 gra ⟨rfl, rfl⟩ rfl hl.1 rfl (Nat.zero_le _) (by decide) dX10_takeSchool_102) hS27 (fun v58 H58 locs58 hr58 hC58 hS58 => ?_)
          obtain ⟨hp58, hr58⟩ := hr58
          have hKp58 := hKp26.tr (hp58.mono rfl)
          replace cu := cu.kp hp58 rfl rfl
          replace ys := ys.kp hp58 gyt gyy rfl
          rcases hr58 with ⟨rfl, f58a⟩ | ⟨rfl, -⟩
          · exact absurd f58a (by decide)
          · have hno : ∀ (S1 : YSt) (i1 : Nat), ¬ gSchool kd vl S i S1 i1 := fun S1 i1 q => by obtain ⟨q1, q2, q3, q4, q5, -, -⟩ := q; first | omega | exact absurd q2 hm | exact absurd q4 wh | exact absurd q5 wn | exact q3 (by omega) (by omega)
            exact ret 0 H58 locs58 _ _ dX10_takeSchool_105 (Or.inl rfl) ⟨hKp58, Or.inr ⟨rfl, hno⟩⟩ hC58 hS58
      · refine lv_aload_n hx hb dX10_takeSchool_61 rfl (lv_at hl 1 rfl) ?_
        refine lv_aload_n hx hb dX10_takeSchool_62 rfl (lv_at hl 1 rfl) ?_
        refine q_getU E hC26 g0 fa_RX10_21 ur dX10_takeSchool_63 ?_
        refine q_getJ E hC26 gra fa_RX10_164 dX10_takeSchool_66 (fun v59 ev59 => ?_)
        have hv1 : (sJ H26 ra (X.1.2 4 11)).toInt = v59.toInt := by rw [← ev59]
        have hv2 := cu.vv (Or.inl hm.1)
        refine q_put E hC26 hS27 g0 fp_RX10_168 tv_J rfl rfl dX10_takeSchool_69 (fun H60 locs60 hC60 hS60 U60 => ?_)
        have hKp60 := Kp.upO E g0 fp_RX10_168 rfl U60 hKp26
        replace cu := cu.ne U60 g0 (by decide)
        have ys := ys.name E U60 gyt gyy (by omega)
        have fn : (sJ H60 h0 (X.1.2 9 4)).toInt = vl (i + 1) := by rw [up_J U60]; omega
        refine lv_goto (tgt := 106) hx hb dX10_takeSchool_72 rfl ?_
        refine lv_aload_n hx hb dX10_takeSchool_106 rfl (lv_at hl 1 rfl) ?_
        refine q_getU E hC60 g0 fa_RX10_21 ur dX10_takeSchool_107 ?_
        refine q_goV (q_runV (As := []) (rest := []) E hC60 hS60 (m_X4_advance l X Γ H60 hC60 ra gra) cw_X4_advance cl_RX10_154 gra ⟨rfl, rfl⟩ rfl hl.1 rfl (Nat.zero_le _) (by decide) dX10_takeSchool_110) hS60 (fun H61 locs61 hr61 hC61 hS61 => ?_)
        obtain ⟨hp61, hr61⟩ := hr61
        have hKp61 := hKp60.tr (hp61.mono rfl)
        replace ys := ys.kp hp61 gyt gyy rfl
        have fn : (sJ H61 h0 (X.1.2 9 4)).toInt = vl (i + 1) := (congrArg Int64.toInt (kp_J hp61 g0 (ci := 9) (k := 4) rfl (by decide) rfl)).trans fn
        have f61_0 := hr61
        have cu := cu.next (by have := hm.1; omega) hp61 rfl f61_0
        refine lv_aload_n hx hb dX10_takeSchool_113 rfl (lv_at hl 1 rfl) ?_
        refine q_getU E hC61 g0 fa_RX10_21 ur dX10_takeSchool_114 ?_
        refine q_word E hS61 (i := 3) (by decide) w_900 dX10_takeSchool_117 (fun g62 => ?_)
        refine q_goI (q_runV (As := [va_rf (some (wad X 3))]) (rest := []) E hC61 hS61 (m_X4_take l X Γ H61 hC61 ra gra (some (wad X 3)) (fun _ h => by cases h; exact g62)) cw_X4_take cl_RX10_75 gra ⟨rfl, rfl⟩ rfl hl.1 rfl (Nat.zero_le _) (by decide) dX10_takeSchool_120) hS61 (fun v63 H63 locs63 hr63 hC63 hS63 => ?_)
        obtain ⟨hp63, hr63⟩ := hr63
        have hKp63 := hKp61.tr (hp63.mono rfl)
        replace ys := ys.kp hp63 gyt gyy rfl
        have fn : (sJ H63 h0 (X.1.2 9 4)).toInt = vl (i + 1) := (congrArg Int64.toInt (kp_J hp63 g0 (ci := 9) (k := 4) rfl (by decide) rfl)).trans fn
        rcases hr63.2 kd vl N (i + 2) cu 3 (by decide) rfl with ⟨rfl, wh, cu⟩ | ⟨rfl, wh⟩
        · refine q_if_eq hx hb (a := 1) (by decide) (tgt := 139) dX10_takeSchool_123 rfl (fun c64 => absurd c64 (by omega)) (fun c64 => ?_)
          refine lv_aload_n hx hb dX10_takeSchool_126 rfl (lv_at hl 1 rfl) ?_
          refine q_getU E hC63 g0 fa_RX10_21 ur dX10_takeSchool_127 ?_
          refine lv_iconst (v := 0) hx hb dX10_takeSchool_130 rfl ?_
          refine lv_bipush (v := 40) hx hb dX10_takeSchool_131 rfl ?_
          refine q_goI (q_runV (As := [.int 0, .int 40]) (rest := []) E hC63 hS63 (m_X4_takeNumber l X Γ H63 hC63 ra gra 0 (a1 := 0) (by decide) 40 (a2 := 40) (by decide)) cw_X4_takeNumber cl_RX10_79 gra ⟨rfl, rfl⟩ rfl hl.1 rfl (Nat.zero_le _) (by decide) dX10_takeSchool_133) hS63 (fun v65 H65 locs65 hr65 hC65 hS65 => ?_)
          obtain ⟨hp65, hr65⟩ := hr65
          have hKp65 := hKp63.tr (hp65.mono rfl)
          replace ys := ys.kp hp65 gyt gyy rfl
          have fn : (sJ H65 h0 (X.1.2 9 4)).toInt = vl (i + 1) := (congrArg Int64.toInt (kp_J hp65 g0 (ci := 9) (k := 4) rfl (by decide) rfl)).trans fn
          rcases hr65.2 kd vl N (i + 3) cu with ⟨rfl, ⟨n1, n2, n3⟩, nn, cu⟩ | ⟨rfl, wn⟩
          · refine q_if_ne hx hb (a := 1) (by decide) (tgt := 141) dX10_takeSchool_136 rfl (fun c66 => ?_) (fun c66 => absurd c66 (by omega))
            refine lv_aload_n hx hb dX10_takeSchool_141 rfl (lv_at hl 2 rfl) ?_
            refine q_getR E hC65 g1 fa_RX10_174 dX10_takeSchool_142 (fun q67 eq67 gq67 => ?_)
            refine lv_iload_n hx hb dX10_takeSchool_145 rfl (lv_at hl 0 rfl) ?_
            refine lv_aload_n hx hb dX10_takeSchool_146 rfl (lv_at hl 1 rfl) ?_
            refine q_getU E hC65 g0 fa_RX10_21 ur dX10_takeSchool_147 ?_
            refine q_getI E hC65 gra fa_RX10_83 dX10_takeSchool_150 (fun v68 ev68 _ _ => ?_)
            have m69 : (sI H65 ra (X.1.2 4 13)).toInt = v68.toInt := congrArg Int32.toInt ev68
            refine q_iast E hC65 hS65 gq67 (by decide) rfl rfl (i_in (a := v21.toInt) rfl (by omega) (by omega)) (tv_I rfl (by omega) (by omega)) dX10_takeSchool_153 (fun H70 locs70 hC70 hS70 U70 => ?_)
            have hKp70 := Kp.upA gq67 rfl (by decide) rfl U70 hKp65
            have m71 : aI H70 q67 (v21.toInt) = v68.toInt := aI_up U70 rfl rfl
            replace cu := cu.ne U70 gq67 (by decide)
            replace ys := ys.ne U70 gyt gyy gq67 (by decide)
            have fn : (sJ H70 h0 (X.1.2 9 4)).toInt = vl (i + 1) := (congrArg Int64.toInt (up_nJ U70 (ne_k g0 gq67 (by decide)))).trans fn
            refine lv_aload_n hx hb dX10_takeSchool_154 rfl (lv_at hl 2 rfl) ?_
            refine lv_dup hx hb dX10_takeSchool_155 rfl ?_
            have yn2 := ys.2.2.1
            have e73 := (kp_I hp26 g1 (k := 2) rfl (by decide) rfl).trans ev21
            have e74 := (up_nI U60 (ne_k g1 g0 (by decide))).trans e73
            have e75 := (kp_I hp61 g1 (k := 2) rfl (by decide) rfl).trans e74
            have e76 := (kp_I hp63 g1 (k := 2) rfl (by decide) rfl).trans e75
            have e77 := (kp_I hp65 g1 (k := 2) rfl (by decide) rfl).trans e76
            have e78 := (up_nI U70 (ne_k g1 gq67 (by decide))).trans e77
            refine q_getI E hC70 g1 fa_RX10_144 dX10_takeSchool_156 (fun v72 ev72 lv72 uv72 => ?_)
            have qv72 := e78.symm.trans ev72; subst qv72
            have m79 : (sI H70 h1 (X.1.2 8 2)).toInt = v21.toInt := (congrArg Int32.toInt ev72).trans rfl
            refine lv_iconst (v := 1) hx hb dX10_takeSchool_159 rfl ?_
            refine lv_iadd hx hb dX10_takeSchool_160 (lv_topi (fun v80 ev80 => ?_))
            have ev80i : v80.toInt = (v21.toInt + 1) := i_add ev80 rfl (by decide) (by omega) (by omega)
            refine q_put E hC70 hS70 g1 fp_RX10_144 (tv_I ev80i (by omega) (by omega)) rfl rfl dX10_takeSchool_161 (fun H81 locs81 hC81 hS81 U81 => ?_)
            have hKp81 := Kp.upO E g1 fp_RX10_144 rfl U81 hKp70
            have e82 := up_I U81
            replace cu := cu.ne U81 g1 (by decide)
            have ys := ys.school E U81 gyt gyy (nm := if S.2.2.1 = 0 then i + 1 else S.2.2.2.1) (by omega) (by first | (rw [if_pos (by omega)]; exact fn) | (rw [if_neg (by omega)]; exact ys.2.2.2.2.1 (by omega)))
            refine lv_iconst (v := 1) hx hb dX10_takeSchool_164 rfl ?_
            have hyes := (⟨_, _, ⟨by omega, hm, fun q => by first | (exfalso; omega) | omega, wh, ⟨n1, n2, n3⟩, rfl, rfl⟩, cu, ys⟩ : ∃ (S1 : YSt) (i1 : Nat), gSchool kd vl S i S1 i1 ∧ CU X Γ H81 ra kd vl N i1 ∧ YSC X Γ H81 h0 h1 vl S1)
            exact ret 1 H81 locs81 _ _ dX10_takeSchool_165 (Or.inr rfl) ⟨hKp81, Or.inl ⟨rfl, hyes⟩⟩ hC81 hS81
          · refine q_if_ne hx hb (a := 0) (by decide) (tgt := 141) dX10_takeSchool_136 rfl (fun c83 => absurd c83 (by omega)) (fun c83 => ?_)
            refine lv_iconst (v := 0) hx hb dX10_takeSchool_139 rfl ?_
            have hno : ∀ (S1 : YSt) (i1 : Nat), ¬ gSchool kd vl S i S1 i1 := fun S1 i1 q => by obtain ⟨q1, q2, q3, q4, q5, -, -⟩ := q; first | omega | exact absurd q2 hm | exact absurd q4 wh | exact absurd q5 wn | exact q3 (by omega) (by omega)
            exact ret 0 H65 locs65 _ _ dX10_takeSchool_140 (Or.inl rfl) ⟨hKp65, Or.inr ⟨rfl, hno⟩⟩ hC65 hS65
        · refine q_if_eq hx hb (a := 0) (by decide) (tgt := 139) dX10_takeSchool_123 rfl (fun c84 => ?_) (fun c84 => absurd c84 (by omega))
          refine lv_iconst (v := 0) hx hb dX10_takeSchool_139 rfl ?_
          have hno : ∀ (S1 : YSt) (i1 : Nat), ¬ gSchool kd vl S i S1 i1 := fun S1 i1 q => by obtain ⟨q1, q2, q3, q4, q5, -, -⟩ := q; first | omega | exact absurd q2 hm | exact absurd q4 wh | exact absurd q5 wn | exact q3 (by omega) (by omega)
          exact ret 0 H63 locs63 _ _ dX10_takeSchool_140 (Or.inl rfl) ⟨hKp63, Or.inr ⟨rfl, hno⟩⟩ hC63 hS63
    · refine q_if_ne hx hb (a := 0) (by decide) (tgt := 57) dX10_takeSchool_46 rfl (fun c85 => absurd c85 (by omega)) (fun c85 => ?_)
      refine lv_aload_n hx hb dX10_takeSchool_49 rfl (lv_at hl 1 rfl) ?_
      refine q_getU E hC26 g0 fa_RX10_21 ur dX10_takeSchool_50 ?_
      refine q_goI (q_runV (As := []) (rest := []) E hC26 hS27 (m_X4_misfit l X Γ H26 hC26 ra gra) cw_X4_misfit cl_RX10_161 gra ⟨rfl, rfl⟩ rfl hl.1 rfl (Nat.zero_le _) (by decide) dX10_takeSchool_53) hS27 (fun v86 H86 locs86 hr86 hC86 hS86 => ?_)
      obtain ⟨hp86, hr86⟩ := hr86
      have hKp86 := hKp26.tr (hp86.mono rfl)
      replace cu := cu.kp hp86 rfl rfl
      replace ys := ys.kp hp86 gyt gyy rfl
      rcases hr86 with ⟨rfl, f86a⟩ | ⟨rfl, -⟩
      · exact absurd f86a (by decide)
      · have hno : ∀ (S1 : YSt) (i1 : Nat), ¬ gSchool kd vl S i S1 i1 := fun S1 i1 q => by obtain ⟨q1, q2, q3, q4, q5, -, -⟩ := q; first | omega | exact absurd q2 hm | exact absurd q4 wh | exact absurd q5 wn | exact q3 (by omega) (by omega)
        exact ret 0 H86 locs86 _ _ dX10_takeSchool_56 (Or.inl rfl) ⟨hKp86, Or.inr ⟨rfl, hno⟩⟩ hC86 hS86
  · refine q_if_ne hx hb (a := 0) (by decide) (tgt := 32) dX10_takeSchool_12 rfl (fun c87 => absurd c87 (by omega)) (fun c87 => ?_)
    refine lv_aload_n hx hb dX10_takeSchool_15 rfl (lv_at hl 1 rfl) ?_
    refine q_getU E hC0 g0 fa_RX10_21 ur dX10_takeSchool_16 ?_
    refine lv_bipush (v := 6) hx hb dX10_takeSchool_19 rfl ?_
    refine lv_aload_n hx hb dX10_takeSchool_21 rfl (lv_at hl 1 rfl) ?_
    refine q_getU E hC0 g0 fa_RX10_21 ur dX10_takeSchool_22 ?_
    refine q_getI E hC0 gra fa_RX10_151 dX10_takeSchool_25 (fun v88 ev88 _ _ => ?_)
    have m89 : (sI H0 ra (X.1.2 4 10)).toInt = v88.toInt := congrArg Int32.toInt ev88
    refine q_goI (q_runV (As := [.int 6, .int v88]) (rest := []) E hC0 hS24 (m_X4_fail l X Γ H0 hC0 ra gra 6 (a1 := 6) (by decide) v88 (a2 := v88.toInt) rfl) cw_X4_fail cl_RX10_89 gra ⟨rfl, rfl⟩ rfl hl.1 rfl (Nat.zero_le _) (by decide) dX10_takeSchool_28) hS24 (fun v90 H90 locs90 hr90 hC90 hS90 => ?_)
    obtain ⟨hp90, hr90⟩ := hr90
    have hKp90 := hKp0.tr (hp90.mono rfl)
    replace cu := cu.kp hp90 rfl rfl
    replace ys := ys.kp hp90 gyt gyy rfl
    rcases hr90 with ⟨rfl, f90a⟩ | ⟨rfl, -⟩
    · exact absurd f90a (by decide)
    · have hno : ∀ (S1 : YSt) (i1 : Nat), ¬ gSchool kd vl S i S1 i1 := fun S1 i1 q => by obtain ⟨q1, q2, q3, q4, q5, -, -⟩ := q; first | omega | exact absurd q2 hm | exact absurd q4 wh | exact absurd q5 wn | exact q3 (by omega) (by omega)
      exact ret 0 H90 locs90 _ _ dX10_takeSchool_31 (Or.inl rfl) ⟨hKp90, Or.inr ⟨rfl, hno⟩⟩ hC90 hS90
set_option maxRecDepth 100000 in
set_option maxHeartbeats 4000000 in
theorem m_X10_takeHeap_42 (l : Launch) (X : xW) (Γ : Nat → Option Nat) (H0 : Heap) (hC0 : Conf X Γ H0) (h0 : Nat) (g0 : Γ h0 = some 3) (h1 : Nat) (g1 : Γ h1 = some 5) (h2 : Nat) (g2 : Γ h2 = some 36) (h3 : Nat) (g3 : Γ h3 = some 42) (o4 : Option Nat) (g4 : ∀ q, o4 = some q → Γ q = some 12) (p5 : Int32) {a5 : Int} (e5 : p5.toInt = a5) (ra : Nat) (gra : Γ ra = some 2) (ur : ∀ a, Γ a = some 2 → a = ra) (kd vl : Nat → Int) (N i : Nat) (S : YSt) (cu : CU X Γ H0 ra kd vl N i) (ys : YSC X Γ H0 h0 h1 vl S) (bfi : Nat) (hbf : bfi < 29) (ho : o4 = some (wad X bfi)) (htl : sR H0 h0 (X.1.2 9 1) = some h3) (r0 : kd i = 2) (r1 : a5 ≤ 99) : Ctr l X Γ yX10_takeHeap cX10_takeHeap 8 (some .boolean) 3 [.ref h0, .ref h1, .ref h2, .ref h3, va_rf o4, .int p5] H0 (QI X Γ (fun v H1 => Kp X Γ [3, 29, 31, 37, 39, 40, 50, 51, 52, 53, 54, 58, 59, 60, 61, 62, 63, 65, 67, 68, 69, 70, 71, 72] H0 H1 ∧ ((v = 1 ∧ (∃ (S1 : YSt) (i1 : Nat), gHeap kd vl bfi 0 a5 S i S1 i1 ∧ CU X Γ H1 ra kd vl N i1 ∧ YSC X Γ H1 h0 h1 vl S1)) ∨ (v = 0 ∧ (∀ (S1 : YSt) (i1 : Nat), ¬ gHeap kd vl bfi 0 a5 S i S1 i1))))) := by
  refine q_enterZ (own := "SnowForts$YardText") (by decide) rfl (by cases o4 <;> exact Nat.le_of_ble_eq_true rfl) ?_
  intro p e s m args below meth c ls Qz E hl ret hS0
  have hx := E.1; have hb := E.2.1
  have hKp0 : Kp X Γ [3, 29, 31, 37, 39, 40, 50, 51, 52, 53, 54, 58, 59, 60, 61, 62, 63, 65, 67, 68, 69, 70, 71, 72] H0 H0 := Kp.rf
  have hl : lv_has ls 8 [(0, .ref h0), (1, .ref h1), (2, .ref h2), (3, .ref h3), (4, va_rf o4), (5, .int p5)] := by revert hl; cases o4 <;> exact fun h => h
  have yw := ys.1; have yh := ys.2.1; have yn := ys.2.2.1; have yb := ys.2.2.2.1
  have gry := cu.g; have gyt := g0; have gyy := g1
  refine lv_aload_n hx hb dX10_takeHeap_0 rfl (lv_at hl 0 rfl) ?_
  refine q_getU E hC0 g0 fa_RX10_21 ur dX10_takeHeap_1 ?_
  refine q_goV (q_runV (As := []) (rest := []) E hC0 hS0 (m_X4_advance l X Γ H0 hC0 ra gra) cw_X4_advance cl_RX10_154 gra ⟨rfl, rfl⟩ rfl hl.1 rfl (Nat.zero_le _) (by decide) dX10_takeHeap_4) hS0 (fun H21 locs21 hr21 hC21 hS21 => ?_)
  obtain ⟨hp21, hr21⟩ := hr21
  have hKp21 := hKp0.tr (hp21.mono rfl)
  replace ys := ys.kp hp21 gyt gyy rfl
  have f21_0 := hr21
  have cu := cu.next (by omega) hp21 rfl f21_0
  refine lv_aload_n hx hb dX10_takeHeap_7 rfl (lv_at hl 0 rfl) ?_
  refine q_getU E hC21 g0 fa_RX10_21 ur dX10_takeHeap_8 ?_
  refine lv_iconst (v := 0) hx hb dX10_takeHeap_11 rfl ?_
  have yw := ys.1; have yh := ys.2.1; have yn := ys.2.2.1; have yb := ys.2.2.2.1
  refine lv_aload_n hx hb dX10_takeHeap_12 rfl (lv_at hl 1 rfl) ?_
  refine q_getI E hC21 g1 fa_RX10_92 dX10_takeHeap_13 (fun v22 ev22 lv22 uv22 => ?_)
  have m23 : (sI H21 h1 (X.1.2 8 0)).toInt = v22.toInt := congrArg Int32.toInt ev22
  refine lv_iconst (v := 1) hx hb dX10_takeHeap_16 rfl ?_
  refine lv_isub hx hb dX10_takeHeap_17 (lv_topi (fun v24 ev24 => ?_))
  have ev24i : v24.toInt = (v22.toInt - 1) := i_sub ev24 rfl (by decide) (by omega) (by omega)
  refine q_goI (q_runV (As := [.int 0, .int v24]) (rest := []) E hC21 hS21 (m_X4_takeNumber l X Γ H21 hC21 ra gra 0 (a1 := 0) (by decide) v24 (a2 := (v22.toInt - 1)) ev24i) cw_X4_takeNumber cl_RX10_79 gra ⟨rfl, rfl⟩ rfl hl.1 rfl (Nat.zero_le _) (by decide) dX10_takeHeap_18) hS21 (fun v25 H25 locs25 hr25 hC25 hS25 => ?_)
  obtain ⟨hp25, hr25⟩ := hr25
  have hKp25 := hKp21.tr (hp25.mono rfl)
  replace ys := ys.kp hp25 gyt gyy rfl
  rcases hr25.2 kd vl N (i + 1) cu with ⟨rfl, ⟨x1, x2, x3⟩, nx, cu⟩ | ⟨rfl, wx⟩
  · refine q_if_ne hx hb (a := 1) (by decide) (tgt := 26) dX10_takeHeap_21 rfl (fun c26 => ?_) (fun c26 => absurd c26 (by omega))
    refine lv_aload_n hx hb dX10_takeHeap_26 rfl (lv_at hl 0 rfl) ?_
    refine q_getU E hC25 g0 fa_RX10_21 ur dX10_takeHeap_27 ?_
    refine q_getI E hC25 gra fa_RX10_83 dX10_takeHeap_30 (fun v27 ev27 _ _ => ?_)
    have m28 : (sI H25 ra (X.1.2 4 13)).toInt = v27.toInt := congrArg Int32.toInt ev27
    refine lv_istore hx hb dX10_takeHeap_33 hl (by decide) rfl (fun ls hl => ?_)
    replace hl : lv_has ls 8 [(6, .int v27), (0, .ref h0), (1, .ref h1), (2, .ref h2), (3, .ref h3), (4, va_rf o4), (5, .int p5)] := hl
    refine lv_aload_n hx hb dX10_takeHeap_35 rfl (lv_at hl 1 rfl) ?_
    refine q_getU E hC25 g0 fa_RX10_21 ur dX10_takeHeap_36 ?_
    refine lv_iconst (v := 0) hx hb dX10_takeHeap_39 rfl ?_
    have yw := ys.1; have yh := ys.2.1; have yn := ys.2.2.1; have yb := ys.2.2.2.1
    refine lv_aload_n hx hb dX10_takeHeap_40 rfl (lv_at hl 2 rfl) ?_
    refine q_getI E hC25 g1 fa_RX10_98 dX10_takeHeap_41 (fun v29 ev29 lv29 uv29 => ?_)
    have m30 : (sI H25 h1 (X.1.2 8 1)).toInt = v29.toInt := congrArg Int32.toInt ev29
    refine lv_iconst (v := 1) hx hb dX10_takeHeap_44 rfl ?_
    refine lv_isub hx hb dX10_takeHeap_45 (lv_topi (fun v31 ev31 => ?_))
    have ev31i : v31.toInt = (v29.toInt - 1) := i_sub ev31 rfl (by decide) (by omega) (by omega)
    refine q_goI (q_runV (As := [.int 0, .int v31]) (rest := []) E hC25 hS25 (m_X4_takeNumber l X Γ H25 hC25 ra gra 0 (a1 := 0) (by decide) v31 (a2 := (v29.toInt - 1)) ev31i) cw_X4_takeNumber cl_RX10_79 gra ⟨rfl, rfl⟩ rfl hl.1 rfl (Nat.zero_le _) (by decide) dX10_takeHeap_46) hS25 (fun v32 H32 locs32 hr32 hC32 hS32 => ?_)
    obtain ⟨hp32, hr32⟩ := hr32
    have hKp32 := hKp25.tr (hp32.mono rfl)
    replace ys := ys.kp hp32 gyt gyy rfl
    rcases hr32.2 kd vl N (i + 2) cu with ⟨rfl, ⟨y1, y2, y3⟩, ny, cu⟩ | ⟨rfl, wy⟩
    · refine q_if_ne hx hb (a := 1) (by decide) (tgt := 54) dX10_takeHeap_49 rfl (fun c33 => ?_) (fun c33 => absurd c33 (by omega))
      refine lv_aload_n hx hb dX10_takeHeap_54 rfl (lv_at hl 1 rfl) ?_
      refine q_getU E hC32 g0 fa_RX10_21 ur dX10_takeHeap_55 ?_
      refine q_getI E hC32 gra fa_RX10_83 dX10_takeHeap_58 (fun v34 ev34 _ _ => ?_)
      have m35 : (sI H32 ra (X.1.2 4 13)).toInt = v34.toInt := congrArg Int32.toInt ev34
      refine lv_bipush (v := 6) hx hb dX10_takeHeap_61 rfl ?_
      refine lv_imul hx hb dX10_takeHeap_63 (lv_topi (fun v36 ev36 => ?_))
      have ev36i : v36.toInt = (v34.toInt * 6) := i_mul ev36 rfl (by decide) (by omega) (by omega)
      refine lv_iload hx hb dX10_takeHeap_64 (lv_at hl 0 rfl) ?_
      refine lv_iadd hx hb dX10_takeHeap_66 (lv_topi (fun v37 ev37 => ?_))
      have ev37i : v37.toInt = ((v34.toInt * 6) + v27.toInt) := i_add ev37 ev36i rfl (by omega) (by omega)
      refine lv_istore hx hb dX10_takeHeap_67 hl (by decide) rfl (fun ls hl => ?_)
      replace hl : lv_has ls 8 [(7, .int v37), (6, .int v27), (0, .ref h0), (1, .ref h1), (2, .ref h2), (3, .ref h3), (4, va_rf o4), (5, .int p5)] := hl
      refine lv_iload hx hb dX10_takeHeap_69 (lv_at hl 0 rfl) ?_
      refine lv_i2l (v := v37.toInt64) hx hb dX10_takeHeap_71 rfl (lv_topl (fun v38 ev38 => ?_))
      have ev38i : v38.toInt = ((v34.toInt * 6) + v27.toInt) := l_ofi ev38.symm ev37i
      refine lv_iconst (v := 0) hx hb dX10_takeHeap_72 rfl ?_
      refine lv_bipush (v := 35) hx hb dX10_takeHeap_73 rfl ?_
      refine q_goIp (q_runSN (As := [.long v38, .int 0, .int 35]) (rest := []) E hS32 (m_X11_isWithin l X Γ H32 hC32 v38 (a0 := ((v34.toInt * 6) + v27.toInt)) ev38i 0 (a1 := 0) (by decide) 35 (a2 := 35) (by decide)) cw_X11_isWithin cl_RX10_147 rfl hl.1 rfl (Nat.zero_le _) (by decide) dX10_takeHeap_75) hS32 (fun v39 locs39 hr39 hS39 => ?_)
      rcases hr39 with ⟨rfl, f39a0, f39a1⟩ | ⟨rfl, f39b⟩
      · refine q_if_eq hx hb (a := 1) (by decide) (tgt := 88) dX10_takeHeap_78 rfl (fun c40 => absurd c40 (by omega)) (fun c40 => ?_)
        refine lv_aload_n hx hb dX10_takeHeap_81 rfl (lv_at hl 5 rfl) ?_
        refine lv_iload hx hb dX10_takeHeap_82 (lv_at hl 0 rfl) ?_
        refine q_iald E hC32 g3 rfl rfl (fun _ h => h) (i_in (a := ((v34.toInt * 6) + v27.toInt)) ev37i (by omega) (by omega)) dX10_takeHeap_84 (fun v41 ev41 _ _ => ?_)
        have m42 : aI H32 h3 (((v34.toInt * 6) + v27.toInt)) = v41.toInt := aI_of ev37i ev41
        have htc : v41.toInt = S.2.2.2.2.1 0 (6 * vl (i + 2) + vl (i + 1)) := by rw [← ev41, i_ix ev37i, show (((v34.toInt * 6) + v27.toInt) : Int) = 6 * vl (i + 2) + vl (i + 1) by omega]; exact ys.cell (f := 1) (kk := 42) (by decide) ((kp_R hKp32 gyt (ci := 9) (k := 1) rfl (by decide) rfl).trans htl) (by omega) (by omega)
        refine q_if_eq hx hb (a := v41.toInt) rfl (tgt := 104) dX10_takeHeap_85 rfl (fun c43 => ?_) (fun c43 => ?_)
        · refine lv_aload_n hx hb dX10_takeHeap_104 rfl (lv_at hl 2 rfl) ?_
          refine q_getU E hC32 g0 fa_RX10_21 ur dX10_takeHeap_105 ?_
          refine q_alq (o := o4) hx hb dX10_takeHeap_108 (lv_at hl 6 rfl) ?_
          refine q_goI (q_runV (As := [va_rf o4]) (rest := []) E hC32 hS39 (m_X4_take l X Γ H32 hC32 ra gra o4 g4) cw_X4_take cl_RX10_75 gra ⟨rfl, rfl⟩ rfl hl.1 rfl (Nat.zero_le _) (by decide) dX10_takeHeap_110) hS39 (fun v44 H44 locs44 hr44 hC44 hS44 => ?_)
          obtain ⟨hp44, hr44⟩ := hr44
          have hKp44 := hKp32.tr (hp44.mono rfl)
          replace ys := ys.kp hp44 gyt gyy rfl
          rcases hr44.2 kd vl N (i + 3) cu bfi hbf ho with ⟨rfl, wb, cu⟩ | ⟨rfl, wb⟩
          · refine q_if_eq hx hb (a := 1) (by decide) (tgt := 129) dX10_takeHeap_113 rfl (fun c45 => absurd c45 (by omega)) (fun c45 => ?_)
            refine lv_aload_n hx hb dX10_takeHeap_116 rfl (lv_at hl 2 rfl) ?_
            refine q_getU E hC44 g0 fa_RX10_21 ur dX10_takeHeap_117 ?_
            refine lv_iconst (v := 0) hx hb dX10_takeHeap_120 rfl ?_
            refine lv_iload hx hb dX10_takeHeap_121 (lv_at hl 7 rfl) ?_
            refine q_goI (q_runV (As := [.int 0, .int p5]) (rest := []) E hC44 hS44 (m_X4_takeNumber l X Γ H44 hC44 ra gra 0 (a1 := 0) (by decide) p5 (a2 := a5) e5) cw_X4_takeNumber cl_RX10_79 gra ⟨rfl, rfl⟩ rfl hl.1 rfl (Nat.zero_le _) (by decide) dX10_takeHeap_123) hS44 (fun v46 H46 locs46 hr46 hC46 hS46 => ?_)
            obtain ⟨hp46, hr46⟩ := hr46
            have hKp46 := hKp44.tr (hp46.mono rfl)
            replace ys := ys.kp hp46 gyt gyy rfl
            rcases hr46.2 kd vl N (i + 4) cu with ⟨rfl, ⟨l1, l2, l3⟩, nl, cu⟩ | ⟨rfl, wl⟩
            · refine q_if_ne hx hb (a := 1) (by decide) (tgt := 131) dX10_takeHeap_126 rfl (fun c47 => ?_) (fun c47 => absurd c47 (by omega))
              have htq := ((kp_R hKp46 gyt (ci := 9) (k := 1) rfl (by decide) rfl).trans htl)
              refine lv_aload_n hx hb dX10_takeHeap_131 rfl (lv_at hl 5 rfl) ?_
              refine lv_iload hx hb dX10_takeHeap_132 (lv_at hl 0 rfl) ?_
              refine lv_iconst (v := 1) hx hb dX10_takeHeap_134 rfl ?_
              refine q_iast E hC46 hS46 g3 (by decide) rfl rfl (i_in (a := ((v34.toInt * 6) + v27.toInt)) ev37i (by omega) (by omega)) tv_F dX10_takeHeap_135 (fun H48 locs48 hC48 hS48 U48 => ?_)
              have hKp48 := Kp.upA g3 rfl (by decide) rfl U48 hKp46
              have m49 : aI H48 h3 (((v34.toInt * 6) + v27.toInt)) = 1 := aI_up U48 ev37i (show (1 : Int32).toInt = 1 from by decide)
              replace cu := cu.ne U48 g3 (by decide)
              have ys := ys.told (f := 1) (kk := 42) U48 gyt gyy (w := 0) (z := 6 * vl (i + 2) + vl (i + 1)) (by decide) htq g3 (by rw [i_ix ev37i]; omega) (by decide)
              have hn9 : (sI H48 ra (X.1.2 4 13)).toInt = (sI H46 ra (X.1.2 4 13)).toInt := congrArg Int32.toInt (up_nI U48 (ne_k gra g3 (by decide)))
              refine lv_aload_n hx hb dX10_takeHeap_136 rfl (lv_at hl 4 rfl) ?_
              refine lv_iload hx hb dX10_takeHeap_137 (lv_at hl 0 rfl) ?_
              refine lv_aload_n hx hb dX10_takeHeap_139 rfl (lv_at hl 2 rfl) ?_
              refine q_getU E hC48 g0 fa_RX10_21 ur dX10_takeHeap_140 ?_
              have e51 := (kp_I hp44 gra (k := 13) rfl (by decide) rfl).trans ev34
              refine q_getI E hC48 gra fa_RX10_83 dX10_takeHeap_143 (fun v50 ev50 _ _ => ?_)
              have m52 : (sI H48 ra (X.1.2 4 13)).toInt = v50.toInt := congrArg Int32.toInt ev50
              refine q_iast E hC48 hS48 g2 (by decide) rfl rfl (i_in (a := ((v34.toInt * 6) + v27.toInt)) ev37i (by omega) (by omega)) (tv_I rfl (by omega) (by omega)) dX10_takeHeap_146 (fun H53 locs53 hC53 hS53 U53 => ?_)
              have hKp53 := Kp.upA g2 rfl (by decide) rfl U53 hKp48
              have m54 : aI H53 h2 (((v34.toInt * 6) + v27.toInt)) = v50.toInt := aI_up U53 ev37i rfl
              replace cu := cu.ne U53 g2 (by decide)
              replace ys := ys.ne U53 gyt gyy g2 (by decide)
              refine lv_iconst (v := 1) hx hb dX10_takeHeap_147 rfl ?_
              have hyes : ∃ (S1 : YSt) (i1 : Nat), gHeap kd vl bfi 0 a5 S i S1 i1 ∧ CU X Γ H53 ra kd vl N i1 ∧ YSC X Γ H53 h0 h1 vl S1 := ⟨_, _, ⟨⟨x1, x2, by omega⟩, ⟨y1, y2, by omega⟩, by omega, wb, ⟨l1, l2, l3⟩, rfl, rfl⟩, cu, ys⟩
              exact ret 1 H53 locs53 _ _ dX10_takeHeap_148 (Or.inr rfl) ⟨hKp53, Or.inl ⟨rfl, hyes⟩⟩ hC53 hS53
            · refine q_if_ne hx hb (a := 0) (by decide) (tgt := 131) dX10_takeHeap_126 rfl (fun c55 => absurd c55 (by omega)) (fun c55 => ?_)
              refine lv_iconst (v := 0) hx hb dX10_takeHeap_129 rfl ?_
              have hno : ∀ (S1 : YSt) (i1 : Nat), ¬ gHeap kd vl bfi 0 a5 S i S1 i1 := fun S1 i1 q => by obtain ⟨q1, q2, q3, q4, q5, -, -⟩ := q; first | omega | exact wx ⟨q1.1, q1.2.1, by have := q1.2.2; omega⟩ | exact wy ⟨q2.1, q2.2.1, (show vl (i + 2) ≤ _ by have := q2.2.2; omega)⟩ | exact wb q4 | exact wl q5
              exact ret 0 H46 locs46 _ _ dX10_takeHeap_130 (Or.inl rfl) ⟨hKp46, Or.inr ⟨rfl, hno⟩⟩ hC46 hS46
          · refine q_if_eq hx hb (a := 0) (by decide) (tgt := 129) dX10_takeHeap_113 rfl (fun c56 => ?_) (fun c56 => absurd c56 (by omega))
            refine lv_iconst (v := 0) hx hb dX10_takeHeap_129 rfl ?_
            have hno : ∀ (S1 : YSt) (i1 : Nat), ¬ gHeap kd vl bfi 0 a5 S i S1 i1 := fun S1 i1 q => by obtain ⟨q1, q2, q3, q4, q5, -, -⟩ := q; first | omega | exact wx ⟨q1.1, q1.2.1, by have := q1.2.2; omega⟩ | exact wy ⟨q2.1, q2.2.1, (show vl (i + 2) ≤ _ by have := q2.2.2; omega)⟩ | exact wb q4 | exact wl q5
            exact ret 0 H44 locs44 _ _ dX10_takeHeap_130 (Or.inl rfl) ⟨hKp44, Or.inr ⟨rfl, hno⟩⟩ hC44 hS44
        · refine lv_aload_n hx hb dX10_takeHeap_88 rfl (lv_at hl 2 rfl) ?_
          refine q_getU E hC32 g0 fa_RX10_21 ur dX10_takeHeap_89 ?_
          refine lv_iconst (v := 5) hx hb dX10_takeHeap_92 rfl ?_
          refine lv_aload_n hx hb dX10_takeHeap_93 rfl (lv_at hl 2 rfl) ?_
          refine q_getU E hC32 g0 fa_RX10_21 ur dX10_takeHeap_94 ?_
          refine q_getI E hC32 gra fa_RX10_86 dX10_takeHeap_97 (fun v57 ev57 _ _ => ?_)
          have m58 : (sI H32 ra (X.1.2 4 14)).toInt = v57.toInt := congrArg Int32.toInt ev57
          refine q_goI (q_runV (As := [.int 5, .int v57]) (rest := []) E hC32 hS39 (m_X4_fail l X Γ H32 hC32 ra gra 5 (a1 := 5) (by decide) v57 (a2 := v57.toInt) rfl) cw_X4_fail cl_RX10_89 gra ⟨rfl, rfl⟩ rfl hl.1 rfl (Nat.zero_le _) (by decide) dX10_takeHeap_100) hS39 (fun v59 H59 locs59 hr59 hC59 hS59 => ?_)
          obtain ⟨hp59, hr59⟩ := hr59
          have hKp59 := hKp32.tr (hp59.mono rfl)
          replace cu := cu.kp hp59 rfl rfl
          replace ys := ys.kp hp59 gyt gyy rfl
          rcases hr59 with ⟨rfl, f59a⟩ | ⟨rfl, -⟩
          · exact absurd f59a (by decide)
          · have hno : ∀ (S1 : YSt) (i1 : Nat), ¬ gHeap kd vl bfi 0 a5 S i S1 i1 := fun S1 i1 q => by obtain ⟨q1, q2, q3, q4, q5, -, -⟩ := q; first | omega | exact wx ⟨q1.1, q1.2.1, by have := q1.2.2; omega⟩ | exact wy ⟨q2.1, q2.2.1, (show vl (i + 2) ≤ _ by have := q2.2.2; omega)⟩ | exact wb q4 | exact wl q5
            exact ret 0 H59 locs59 _ _ dX10_takeHeap_103 (Or.inl rfl) ⟨hKp59, Or.inr ⟨rfl, hno⟩⟩ hC59 hS59
      · refine q_if_eq hx hb (a := 0) (by decide) (tgt := 88) dX10_takeHeap_78 rfl (fun c60 => ?_) (fun c60 => absurd c60 (by omega))
        refine lv_aload_n hx hb dX10_takeHeap_88 rfl (lv_at hl 2 rfl) ?_
        refine q_getU E hC32 g0 fa_RX10_21 ur dX10_takeHeap_89 ?_
        refine lv_iconst (v := 5) hx hb dX10_takeHeap_92 rfl ?_
        refine lv_aload_n hx hb dX10_takeHeap_93 rfl (lv_at hl 2 rfl) ?_
        refine q_getU E hC32 g0 fa_RX10_21 ur dX10_takeHeap_94 ?_
        refine q_getI E hC32 gra fa_RX10_86 dX10_takeHeap_97 (fun v61 ev61 _ _ => ?_)
        have m62 : (sI H32 ra (X.1.2 4 14)).toInt = v61.toInt := congrArg Int32.toInt ev61
        refine q_goI (q_runV (As := [.int 5, .int v61]) (rest := []) E hC32 hS39 (m_X4_fail l X Γ H32 hC32 ra gra 5 (a1 := 5) (by decide) v61 (a2 := v61.toInt) rfl) cw_X4_fail cl_RX10_89 gra ⟨rfl, rfl⟩ rfl hl.1 rfl (Nat.zero_le _) (by decide) dX10_takeHeap_100) hS39 (fun v63 H63 locs63 hr63 hC63 hS63 => ?_)
        obtain ⟨hp63, hr63⟩ := hr63
        have hKp63 := hKp32.tr (hp63.mono rfl)
        replace cu := cu.kp hp63 rfl rfl
        replace ys := ys.kp hp63 gyt gyy rfl
        rcases hr63 with ⟨rfl, f63a⟩ | ⟨rfl, -⟩
        · exact absurd f63a (by decide)
        · have hno : ∀ (S1 : YSt) (i1 : Nat), ¬ gHeap kd vl bfi 0 a5 S i S1 i1 := fun S1 i1 q => by obtain ⟨q1, q2, q3, q4, q5, -, -⟩ := q; first | omega | exact wx ⟨q1.1, q1.2.1, by have := q1.2.2; omega⟩ | exact wy ⟨q2.1, q2.2.1, (show vl (i + 2) ≤ _ by have := q2.2.2; omega)⟩ | exact wb q4 | exact wl q5
          exact ret 0 H63 locs63 _ _ dX10_takeHeap_103 (Or.inl rfl) ⟨hKp63, Or.inr ⟨rfl, hno⟩⟩ hC63 hS63
    · refine q_if_ne hx hb (a := 0) (by decide) (tgt := 54) dX10_takeHeap_49 rfl (fun c64 => absurd c64 (by omega)) (fun c64 => ?_)
      refine lv_iconst (v := 0) hx hb dX10_takeHeap_52 rfl ?_
      have hno : ∀ (S1 : YSt) (i1 : Nat), ¬ gHeap kd vl bfi 0 a5 S i S1 i1 := fun S1 i1 q => by obtain ⟨q1, q2, q3, q4, q5, -, -⟩ := q; first | omega | exact wx ⟨q1.1, q1.2.1, by have := q1.2.2; omega⟩ | exact wy ⟨q2.1, q2.2.1, (show vl (i + 2) ≤ _ by have := q2.2.2; omega)⟩ | exact wb q4 | exact wl q5
      exact ret 0 H32 locs32 _ _ dX10_takeHeap_53 (Or.inl rfl) ⟨hKp32, Or.inr ⟨rfl, hno⟩⟩ hC32 hS32
  · refine q_if_ne hx hb (a := 0) (by decide) (tgt := 26) dX10_takeHeap_21 rfl (fun c65 => absurd c65 (by omega)) (fun c65 => ?_)
    refine lv_iconst (v := 0) hx hb dX10_takeHeap_24 rfl ?_
    have hno : ∀ (S1 : YSt) (i1 : Nat), ¬ gHeap kd vl bfi 0 a5 S i S1 i1 := fun S1 i1 q => by obtain ⟨q1, q2, q3, q4, q5, -, -⟩ := q; first | omega | exact wx ⟨q1.1, q1.2.1, by have := q1.2.2; omega⟩ | exact wy ⟨q2.1, q2.2.1, (show vl (i + 2) ≤ _ by have := q2.2.2; omega)⟩ | exact wb q4 | exact wl q5
    exact ret 0 H25 locs25 _ _ dX10_takeHeap_25 (Or.inl rfl) ⟨hKp25, Or.inr ⟨rfl, hno⟩⟩ hC25 hS25
set_option maxRecDepth 100000 in
set_option maxHeartbeats 4000000 in
theorem m_X10_takeHeap_76 (l : Launch) (X : xW) (Γ : Nat → Option Nat) (H0 : Heap) (hC0 : Conf X Γ H0) (h0 : Nat) (g0 : Γ h0 = some 3) (h1 : Nat) (g1 : Γ h1 = some 5) (h2 : Nat) (g2 : Γ h2 = some 80) (h3 : Nat) (g3 : Γ h3 = some 76) (o4 : Option Nat) (g4 : ∀ q, o4 = some q → Γ q = some 12) (p5 : Int32) {a5 : Int} (e5 : p5.toInt = a5) (ra : Nat) (gra : Γ ra = some 2) (ur : ∀ a, Γ a = some 2 → a = ra) (kd vl : Nat → Int) (N i : Nat) (S : YSt) (cu : CU X Γ H0 ra kd vl N i) (ys : YSC X Γ H0 h0 h1 vl S) (bfi : Nat) (hbf : bfi < 29) (ho : o4 = some (wad X bfi)) (htl : sR H0 h0 (X.1.2 9 2) = some h3) (r0 : kd i = 2) (r1 : a5 ≤ 99) : Ctr l X Γ yX10_takeHeap cX10_takeHeap 8 (some .boolean) 3 [.ref h0, .ref h1, .ref h2, .ref h3, va_rf o4, .int p5] H0 (QI X Γ (fun v H1 => Kp X Γ [3, 29, 31, 37, 39, 40, 50, 51, 52, 53, 54, 58, 59, 60, 61, 62, 63, 65, 67, 68, 69, 70, 71, 72] H0 H1 ∧ ((v = 1 ∧ (∃ (S1 : YSt) (i1 : Nat), gHeap kd vl bfi 1 a5 S i S1 i1 ∧ CU X Γ H1 ra kd vl N i1 ∧ YSC X Γ H1 h0 h1 vl S1)) ∨ (v = 0 ∧ (∀ (S1 : YSt) (i1 : Nat), ¬ gHeap kd vl bfi 1 a5 S i S1 i1))))) := by
  refine q_enterZ (own := "SnowForts$YardText") (by decide) rfl (by cases o4 <;> exact Nat.le_of_ble_eq_true rfl) ?_
  intro p e s m args below meth c ls Qz E hl ret hS0
  have hx := E.1; have hb := E.2.1
  have hKp0 : Kp X Γ [3, 29, 31, 37, 39, 40, 50, 51, 52, 53, 54, 58, 59, 60, 61, 62, 63, 65, 67, 68, 69, 70, 71, 72] H0 H0 := Kp.rf
  have hl : lv_has ls 8 [(0, .ref h0), (1, .ref h1), (2, .ref h2), (3, .ref h3), (4, va_rf o4), (5, .int p5)] := by revert hl; cases o4 <;> exact fun h => h
  have yw := ys.1; have yh := ys.2.1; have yn := ys.2.2.1; have yb := ys.2.2.2.1
  have gry := cu.g; have gyt := g0; have gyy := g1
  refine lv_aload_n hx hb dX10_takeHeap_0 rfl (lv_at hl 0 rfl) ?_
  refine q_getU E hC0 g0 fa_RX10_21 ur dX10_takeHeap_1 ?_
  refine q_goV (q_runV (As := []) (rest := []) E hC0 hS0 (m_X4_advance l X Γ H0 hC0 ra gra) cw_X4_advance cl_RX10_154 gra ⟨rfl, rfl⟩ rfl hl.1 rfl (Nat.zero_le _) (by decide) dX10_takeHeap_4) hS0 (fun H21 locs21 hr21 hC21 hS21 => ?_)
  obtain ⟨hp21, hr21⟩ := hr21
  have hKp21 := hKp0.tr (hp21.mono rfl)
  replace ys := ys.kp hp21 gyt gyy rfl
  have f21_0 := hr21
  have cu := cu.next (by omega) hp21 rfl f21_0
  refine lv_aload_n hx hb dX10_takeHeap_7 rfl (lv_at hl 0 rfl) ?_
  refine q_getU E hC21 g0 fa_RX10_21 ur dX10_takeHeap_8 ?_
  refine lv_iconst (v := 0) hx hb dX10_takeHeap_11 rfl ?_
  have yw := ys.1; have yh := ys.2.1; have yn := ys.2.2.1; have yb := ys.2.2.2.1
  refine lv_aload_n hx hb dX10_takeHeap_12 rfl (lv_at hl 1 rfl) ?_
  refine q_getI E hC21 g1 fa_RX10_92 dX10_takeHeap_13 (fun v22 ev22 lv22 uv22 => ?_)
  have m23 : (sI H21 h1 (X.1.2 8 0)).toInt = v22.toInt := congrArg Int32.toInt ev22
  refine lv_iconst (v := 1) hx hb dX10_takeHeap_16 rfl ?_
  refine lv_isub hx hb dX10_takeHeap_17 (lv_topi (fun v24 ev24 => ?_))
  have ev24i : v24.toInt = (v22.toInt - 1) := i_sub ev24 rfl (by decide) (by omega) (by omega)
  refine q_goI (q_runV (As := [.int 0, .int v24]) (rest := []) E hC21 hS21 (m_X4_takeNumber l X Γ H21 hC21 ra gra 0 (a1 := 0) (by decide) v24 (a2 := (v22.toInt - 1)) ev24i) cw_X4_takeNumber cl_RX10_79 gra ⟨rfl, rfl⟩ rfl hl.1 rfl (Nat.zero_le _) (by decide) dX10_takeHeap_18) hS21 (fun v25 H25 locs25 hr25 hC25 hS25 => ?_)
  obtain ⟨hp25, hr25⟩ := hr25
  have hKp25 := hKp21.tr (hp25.mono rfl)
  replace ys := ys.kp hp25 gyt gyy rfl
  rcases hr25.2 kd vl N (i + 1) cu with ⟨rfl, ⟨x1, x2, x3⟩, nx, cu⟩ | ⟨rfl, wx⟩
  · refine q_if_ne hx hb (a := 1) (by decide) (tgt := 26) dX10_takeHeap_21 rfl (fun c26 => ?_) (fun c26 => absurd c26 (by omega))
    refine lv_aload_n hx hb dX10_takeHeap_26 rfl (lv_at hl 0 rfl) ?_
    refine q_getU E hC25 g0 fa_RX10_21 ur dX10_takeHeap_27 ?_
    refine q_getI E hC25 gra fa_RX10_83 dX10_takeHeap_30 (fun v27 ev27 _ _ => ?_)
    have m28 : (sI H25 ra (X.1.2 4 13)).toInt = v27.toInt := congrArg Int32.toInt ev27
    refine lv_istore hx hb dX10_takeHeap_33 hl (by decide) rfl (fun ls hl => ?_)
    replace hl : lv_has ls 8 [(6, .int v27), (0, .ref h0), (1, .ref h1), (2, .ref h2), (3, .ref h3), (4, va_rf o4), (5, .int p5)] := hl
    refine lv_aload_n hx hb dX10_takeHeap_35 rfl (lv_at hl 1 rfl) ?_
    refine q_getU E hC25 g0 fa_RX10_21 ur dX10_takeHeap_36 ?_
    refine lv_iconst (v := 0) hx hb dX10_takeHeap_39 rfl ?_
    have yw := ys.1; have yh := ys.2.1; have yn := ys.2.2.1; have yb := ys.2.2.2.1
    refine lv_aload_n hx hb dX10_takeHeap_40 rfl (lv_at hl 2 rfl) ?_
    refine q_getI E hC25 g1 fa_RX10_98 dX10_takeHeap_41 (fun v29 ev29 lv29 uv29 => ?_)
    have m30 : (sI H25 h1 (X.1.2 8 1)).toInt = v29.toInt := congrArg Int32.toInt ev29
    refine lv_iconst (v := 1) hx hb dX10_takeHeap_44 rfl ?_
    refine lv_isub hx hb dX10_takeHeap_45 (lv_topi (fun v31 ev31 => ?_))
    have ev31i : v31.toInt = (v29.toInt - 1) := i_sub ev31 rfl (by decide) (by omega) (by omega)
    refine q_goI (q_runV (As := [.int 0, .int v31]) (rest := []) E hC25 hS25 (m_X4_takeNumber l X Γ H25 hC25 ra gra 0 (a1 := 0) (by decide) v31 (a2 := (v29.toInt - 1)) ev31i) cw_X4_takeNumber cl_RX10_79 gra ⟨rfl, rfl⟩ rfl hl.1 rfl (Nat.zero_le _) (by decide) dX10_takeHeap_46) hS25 (fun v32 H32 locs32 hr32 hC32 hS32 => ?_)
    obtain ⟨hp32, hr32⟩ := hr32
    have hKp32 := hKp25.tr (hp32.mono rfl)
    replace ys := ys.kp hp32 gyt gyy rfl
    rcases hr32.2 kd vl N (i + 2) cu with ⟨rfl, ⟨y1, y2, y3⟩, ny, cu⟩ | ⟨rfl, wy⟩
    · refine q_if_ne hx hb (a := 1) (by decide) (tgt := 54) dX10_takeHeap_49 rfl (fun c33 => ?_) (fun c33 => absurd c33 (by omega))
      refine lv_aload_n hx hb dX10_takeHeap_54 rfl (lv_at hl 1 rfl) ?_
      refine q_getU E hC32 g0 fa_RX10_21 ur dX10_takeHeap_55 ?_
      refine q_getI E hC32 gra fa_RX10_83 dX10_takeHeap_58 (fun v34 ev34 _ _ => ?_)
      have m35 : (sI H32 ra (X.1.2 4 13)).toInt = v34.toInt := congrArg Int32.toInt ev34
      refine lv_bipush (v := 6) hx hb dX10_takeHeap_61 rfl ?_
      refine lv_imul hx hb dX10_takeHeap_63 (lv_topi (fun v36 ev36 => ?_))
      have ev36i : v36.toInt = (v34.toInt * 6) := i_mul ev36 rfl (by decide) (by omega) (by omega)
      refine lv_iload hx hb dX10_takeHeap_64 (lv_at hl 0 rfl) ?_
      refine lv_iadd hx hb dX10_takeHeap_66 (lv_topi (fun v37 ev37 => ?_))
      have ev37i : v37.toInt = ((v34.toInt * 6) + v27.toInt) := i_add ev37 ev36i rfl (by omega) (by omega)
      refine lv_istore hx hb dX10_takeHeap_67 hl (by decide) rfl (fun ls hl => ?_)
      replace hl : lv_has ls 8 [(7, .int v37), (6, .int v27), (0, .ref h0), (1, .ref h1), (2, .ref h2), (3, .ref h3), (4, va_rf o4), (5, .int p5)] := hl
      refine lv_iload hx hb dX10_takeHeap_69 (lv_at hl 0 rfl) ?_
      refine lv_i2l (v := v37.toInt64) hx hb dX10_takeHeap_71 rfl (lv_topl (fun v38 ev38 => ?_))
      have ev38i : v38.toInt = ((v34.toInt * 6) + v27.toInt) := l_ofi ev38.symm ev37i
      refine lv_iconst (v := 0) hx hb dX10_takeHeap_72 rfl ?_
      refine lv_bipush (v := 35) hx hb dX10_takeHeap_73 rfl ?_
      refine q_goIp (q_runSN (As := [.long v38, .int 0, .int 35]) (rest := []) E hS32 (m_X11_isWithin l X Γ H32 hC32 v38 (a0 := ((v34.toInt * 6) + v27.toInt)) ev38i 0 (a1 := 0) (by decide) 35 (a2 := 35) (by decide)) cw_X11_isWithin cl_RX10_147 rfl hl.1 rfl (Nat.zero_le _) (by decide) dX10_takeHeap_75) hS32 (fun v39 locs39 hr39 hS39 => ?_)
      rcases hr39 with ⟨rfl, f39a0, f39a1⟩ | ⟨rfl, f39b⟩
      · refine q_if_eq hx hb (a := 1) (by decide) (tgt := 88) dX10_takeHeap_78 rfl (fun c40 => absurd c40 (by omega)) (fun c40 => ?_)
        refine lv_aload_n hx hb dX10_takeHeap_81 rfl (lv_at hl 5 rfl) ?_
        refine lv_iload hx hb dX10_takeHeap_82 (lv_at hl 0 rfl) ?_
        refine q_iald E hC32 g3 rfl rfl (fun _ h => h) (i_in (a := ((v34.toInt * 6) + v27.toInt)) ev37i (by omega) (by omega)) dX10_takeHeap_84 (fun v41 ev41 _ _ => ?_)
        have m42 : aI H32 h3 (((v34.toInt * 6) + v27.toInt)) = v41.toInt := aI_of ev37i ev41
        have htc : v41.toInt = S.2.2.2.2.1 1 (6 * vl (i + 2) + vl (i + 1)) := by rw [← ev41, i_ix ev37i, show (((v34.toInt * 6) + v27.toInt) : Int) = 6 * vl (i + 2) + vl (i + 1) by omega]; exact ys.cell (f := 2) (kk := 76) (by decide) ((kp_R hKp32 gyt (ci := 9) (k := 2) rfl (by decide) rfl).trans htl) (by omega) (by omega)
        refine q_if_eq hx hb (a := v41.toInt) rfl (tgt := 104) dX10_takeHeap_85 rfl (fun c43 => ?_) (fun c43 => ?_)
        · refine lv_aload_n hx hb dX10_takeHeap_104 rfl (lv_at hl 2 rfl) ?_
          refine q_getU E hC32 g0 fa_RX10_21 ur dX10_takeHeap_105 ?_
          refine q_alq (o := o4) hx hb dX10_takeHeap_108 (lv_at hl 6 rfl) ?_
          refine q_goI (q_runV (As := [va_rf o4]) (rest := []) E hC32 hS39 (m_X4_take l X Γ H32 hC32 ra gra o4 g4) cw_X4_take cl_RX10_75 gra ⟨rfl, rfl⟩ rfl hl.1 rfl (Nat.zero_le _) (by decide) dX10_takeHeap_110) hS39 (fun v44 H44 locs44 hr44 hC44 hS44 => ?_)
          obtain ⟨hp44, hr44⟩ := hr44
          have hKp44 := hKp32.tr (hp44.mono rfl)
          replace ys := ys.kp hp44 gyt gyy rfl
          rcases hr44.2 kd vl N (i + 3) cu bfi hbf ho with ⟨rfl, wb, cu⟩ | ⟨rfl, wb⟩
          · refine q_if_eq hx hb (a := 1) (by decide) (tgt := 129) dX10_takeHeap_113 rfl (fun c45 => absurd c45 (by omega)) (fun c45 => ?_)
            refine lv_aload_n hx hb dX10_takeHeap_116 rfl (lv_at hl 2 rfl) ?_
            refine q_getU E hC44 g0 fa_RX10_21 ur dX10_takeHeap_117 ?_
            refine lv_iconst (v := 0) hx hb dX10_takeHeap_120 rfl ?_
            refine lv_iload hx hb dX10_takeHeap_121 (lv_at hl 7 rfl) ?_
            refine q_goI (q_runV (As := [.int 0, .int p5]) (rest := []) E hC44 hS44 (m_X4_takeNumber l X Γ H44 hC44 ra gra 0 (a1 := 0) (by decide) p5 (a2 := a5) e5) cw_X4_takeNumber cl_RX10_79 gra ⟨rfl, rfl⟩ rfl hl.1 rfl (Nat.zero_le _) (by decide) dX10_takeHeap_123) hS44 (fun v46 H46 locs46 hr46 hC46 hS46 => ?_)
            obtain ⟨hp46, hr46⟩ := hr46
            have hKp46 := hKp44.tr (hp46.mono rfl)
            replace ys := ys.kp hp46 gyt gyy rfl
            rcases hr46.2 kd vl N (i + 4) cu with ⟨rfl, ⟨l1, l2, l3⟩, nl, cu⟩ | ⟨rfl, wl⟩
            · refine q_if_ne hx hb (a := 1) (by decide) (tgt := 131) dX10_takeHeap_126 rfl (fun c47 => ?_) (fun c47 => absurd c47 (by omega))
              have htq := ((kp_R hKp46 gyt (ci := 9) (k := 2) rfl (by decide) rfl).trans htl)
              refine lv_aload_n hx hb dX10_takeHeap_131 rfl (lv_at hl 5 rfl) ?_
              refine lv_iload hx hb dX10_takeHeap_132 (lv_at hl 0 rfl) ?_
              refine lv_iconst (v := 1) hx hb dX10_takeHeap_134 rfl ?_
              refine q_iast E hC46 hS46 g3 (by decide) rfl rfl (i_in (a := ((v34.toInt * 6) + v27.toInt)) ev37i (by omega) (by omega)) tv_F dX10_takeHeap_135 (fun H48 locs48 hC48 hS48 U48 => ?_)
              have hKp48 := Kp.upA g3 rfl (by decide) rfl U48 hKp46
              have m49 : aI H48 h3 (((v34.toInt * 6) + v27.toInt)) = 1 := aI_up U48 ev37i (show (1 : Int32).toInt = 1 from by decide)
              replace cu := cu.ne U48 g3 (by decide)
              have ys := ys.told (f := 2) (kk := 76) U48 gyt gyy (w := 1) (z := 6 * vl (i + 2) + vl (i + 1)) (by decide) htq g3 (by rw [i_ix ev37i]; omega) (by decide)
              have hn9 : (sI H48 ra (X.1.2 4 13)).toInt = (sI H46 ra (X.1.2 4 13)).toInt := congrArg Int32.toInt (up_nI U48 (ne_k gra g3 (by decide)))
              refine lv_aload_n hx hb dX10_takeHeap_136 rfl (lv_at hl 4 rfl) ?_
              refine lv_iload hx hb dX10_takeHeap_137 (lv_at hl 0 rfl) ?_
              refine lv_aload_n hx hb dX10_takeHeap_139 rfl (lv_at hl 2 rfl) ?_
              refine q_getU E hC48 g0 fa_RX10_21 ur dX10_takeHeap_140 ?_
              have e51 := (kp_I hp44 gra (k := 13) rfl (by decide) rfl).trans ev34
              refine q_getI E hC48 gra fa_RX10_83 dX10_takeHeap_143 (fun v50 ev50 _ _ => ?_)
              have m52 : (sI H48 ra (X.1.2 4 13)).toInt = v50.toInt := congrArg Int32.toInt ev50
              refine q_iast E hC48 hS48 g2 (by decide) rfl rfl (i_in (a := ((v34.toInt * 6) + v27.toInt)) ev37i (by omega) (by omega)) (tv_I rfl (by omega) (by omega)) dX10_takeHeap_146 (fun H53 locs53 hC53 hS53 U53 => ?_)
              have hKp53 := Kp.upA g2 rfl (by decide) rfl U53 hKp48
              have m54 : aI H53 h2 (((v34.toInt * 6) + v27.toInt)) = v50.toInt := aI_up U53 ev37i rfl
              replace cu := cu.ne U53 g2 (by decide)
              replace ys := ys.ne U53 gyt gyy g2 (by decide)
              refine lv_iconst (v := 1) hx hb dX10_takeHeap_147 rfl ?_
              have hyes : ∃ (S1 : YSt) (i1 : Nat), gHeap kd vl bfi 1 a5 S i S1 i1 ∧ CU X Γ H53 ra kd vl N i1 ∧ YSC X Γ H53 h0 h1 vl S1 := ⟨_, _, ⟨⟨x1, x2, by omega⟩, ⟨y1, y2, by omega⟩, by omega, wb, ⟨l1, l2, l3⟩, rfl, rfl⟩, cu, ys⟩
              exact ret 1 H53 locs53 _ _ dX10_takeHeap_148 (Or.inr rfl) ⟨hKp53, Or.inl ⟨rfl, hyes⟩⟩ hC53 hS53
            · refine q_if_ne hx hb (a := 0) (by decide) (tgt := 131) dX10_takeHeap_126 rfl (fun c55 => absurd c55 (by omega)) (fun c55 => ?_)
              refine lv_iconst (v := 0) hx hb dX10_takeHeap_129 rfl ?_
              have hno : ∀ (S1 : YSt) (i1 : Nat), ¬ gHeap kd vl bfi 1 a5 S i S1 i1 := fun S1 i1 q => by obtain ⟨q1, q2, q3, q4, q5, -, -⟩ := q; first | omega | exact wx ⟨q1.1, q1.2.1, by have := q1.2.2; omega⟩ | exact wy ⟨q2.1, q2.2.1, (show vl (i + 2) ≤ _ by have := q2.2.2; omega)⟩ | exact wb q4 | exact wl q5
              exact ret 0 H46 locs46 _ _ dX10_takeHeap_130 (Or.inl rfl) ⟨hKp46, Or.inr ⟨rfl, hno⟩⟩ hC46 hS46
          · refine q_if_eq hx hb (a := 0) (by decide) (tgt := 129) dX10_takeHeap_113 rfl (fun c56 => ?_) (fun c56 => absurd c56 (by omega))
            refine lv_iconst (v := 0) hx hb dX10_takeHeap_129 rfl ?_
            have hno : ∀ (S1 : YSt) (i1 : Nat), ¬ gHeap kd vl bfi 1 a5 S i S1 i1 := fun S1 i1 q => by obtain ⟨q1, q2, q3, q4, q5, -, -⟩ := q; first | omega | exact wx ⟨q1.1, q1.2.1, by have := q1.2.2; omega⟩ | exact wy ⟨q2.1, q2.2.1, (show vl (i + 2) ≤ _ by have := q2.2.2; omega)⟩ | exact wb q4 | exact wl q5
            exact ret 0 H44 locs44 _ _ dX10_takeHeap_130 (Or.inl rfl) ⟨hKp44, Or.inr ⟨rfl, hno⟩⟩ hC44 hS44
        · refine lv_aload_n hx hb dX10_takeHeap_88 rfl (lv_at hl 2 rfl) ?_
          refine q_getU E hC32 g0 fa_RX10_21 ur dX10_takeHeap_89 ?_
          refine lv_iconst (v := 5) hx hb dX10_takeHeap_92 rfl ?_
          refine lv_aload_n hx hb dX10_takeHeap_93 rfl (lv_at hl 2 rfl) ?_
          refine q_getU E hC32 g0 fa_RX10_21 ur dX10_takeHeap_94 ?_
          refine q_getI E hC32 gra fa_RX10_86 dX10_takeHeap_97 (fun v57 ev57 _ _ => ?_)
          have m58 : (sI H32 ra (X.1.2 4 14)).toInt = v57.toInt := congrArg Int32.toInt ev57
          refine q_goI (q_runV (As := [.int 5, .int v57]) (rest := []) E hC32 hS39 (m_X4_fail l X Γ H32 hC32 ra gra 5 (a1 := 5) (by decide) v57 (a2 := v57.toInt) rfl) cw_X4_fail cl_RX10_89 gra ⟨rfl, rfl⟩ rfl hl.1 rfl (Nat.zero_le _) (by decide) dX10_takeHeap_100) hS39 (fun v59 H59 locs59 hr59 hC59 hS59 => ?_)
          obtain ⟨hp59, hr59⟩ := hr59
          have hKp59 := hKp32.tr (hp59.mono rfl)
          replace cu := cu.kp hp59 rfl rfl
          replace ys := ys.kp hp59 gyt gyy rfl
          rcases hr59 with ⟨rfl, f59a⟩ | ⟨rfl, -⟩
          · exact absurd f59a (by decide)
          · have hno : ∀ (S1 : YSt) (i1 : Nat), ¬ gHeap kd vl bfi 1 a5 S i S1 i1 := fun S1 i1 q => by obtain ⟨q1, q2, q3, q4, q5, -, -⟩ := q; first | omega | exact wx ⟨q1.1, q1.2.1, by have := q1.2.2; omega⟩ | exact wy ⟨q2.1, q2.2.1, (show vl (i + 2) ≤ _ by have := q2.2.2; omega)⟩ | exact wb q4 | exact wl q5
            exact ret 0 H59 locs59 _ _ dX10_takeHeap_103 (Or.inl rfl) ⟨hKp59, Or.inr ⟨rfl, hno⟩⟩ hC59 hS59
      · refine q_if_eq hx hb (a := 0) (by decide) (tgt := 88) dX10_takeHeap_78 rfl (fun c60 => ?_) (fun c60 => absurd c60 (by omega))
        refine lv_aload_n hx hb dX10_takeHeap_88 rfl (lv_at hl 2 rfl) ?_
        refine q_getU E hC32 g0 fa_RX10_21 ur dX10_takeHeap_89 ?_
        refine lv_iconst (v := 5) hx hb dX10_takeHeap_92 rfl ?_
        refine lv_aload_n hx hb dX10_takeHeap_93 rfl (lv_at hl 2 rfl) ?_
        refine q_getU E hC32 g0 fa_RX10_21 ur dX10_takeHeap_94 ?_
        refine q_getI E hC32 gra fa_RX10_86 dX10_takeHeap_97 (fun v61 ev61 _ _ => ?_)
        have m62 : (sI H32 ra (X.1.2 4 14)).toInt = v61.toInt := congrArg Int32.toInt ev61
        refine q_goI (q_runV (As := [.int 5, .int v61]) (rest := []) E hC32 hS39 (m_X4_fail l X Γ H32 hC32 ra gra 5 (a1 := 5) (by decide) v61 (a2 := v61.toInt) rfl) cw_X4_fail cl_RX10_89 gra ⟨rfl, rfl⟩ rfl hl.1 rfl (Nat.zero_le _) (by decide) dX10_takeHeap_100) hS39 (fun v63 H63 locs63 hr63 hC63 hS63 => ?_)
        obtain ⟨hp63, hr63⟩ := hr63
        have hKp63 := hKp32.tr (hp63.mono rfl)
        replace cu := cu.kp hp63 rfl rfl
        replace ys := ys.kp hp63 gyt gyy rfl
        rcases hr63 with ⟨rfl, f63a⟩ | ⟨rfl, -⟩
        · exact absurd f63a (by decide)
        · have hno : ∀ (S1 : YSt) (i1 : Nat), ¬ gHeap kd vl bfi 1 a5 S i S1 i1 := fun S1 i1 q => by obtain ⟨q1, q2, q3, q4, q5, -, -⟩ := q; first | omega | exact wx ⟨q1.1, q1.2.1, by have := q1.2.2; omega⟩ | exact wy ⟨q2.1, q2.2.1, (show vl (i + 2) ≤ _ by have := q2.2.2; omega)⟩ | exact wb q4 | exact wl q5
          exact ret 0 H63 locs63 _ _ dX10_takeHeap_103 (Or.inl rfl) ⟨hKp63, Or.inr ⟨rfl, hno⟩⟩ hC63 hS63
    · refine q_if_ne hx hb (a := 0) (by decide) (tgt := 54) dX10_takeHeap_49 rfl (fun c64 => absurd c64 (by omega)) (fun c64 => ?_)
      refine lv_iconst (v := 0) hx hb dX10_takeHeap_52 rfl ?_
      have hno : ∀ (S1 : YSt) (i1 : Nat), ¬ gHeap kd vl bfi 1 a5 S i S1 i1 := fun S1 i1 q => by obtain ⟨q1, q2, q3, q4, q5, -, -⟩ := q; first | omega | exact wx ⟨q1.1, q1.2.1, by have := q1.2.2; omega⟩ | exact wy ⟨q2.1, q2.2.1, (show vl (i + 2) ≤ _ by have := q2.2.2; omega)⟩ | exact wb q4 | exact wl q5
      exact ret 0 H32 locs32 _ _ dX10_takeHeap_53 (Or.inl rfl) ⟨hKp32, Or.inr ⟨rfl, hno⟩⟩ hC32 hS32
  · refine q_if_ne hx hb (a := 0) (by decide) (tgt := 26) dX10_takeHeap_21 rfl (fun c65 => absurd c65 (by omega)) (fun c65 => ?_)
    refine lv_iconst (v := 0) hx hb dX10_takeHeap_24 rfl ?_
    have hno : ∀ (S1 : YSt) (i1 : Nat), ¬ gHeap kd vl bfi 1 a5 S i S1 i1 := fun S1 i1 q => by obtain ⟨q1, q2, q3, q4, q5, -, -⟩ := q; first | omega | exact wx ⟨q1.1, q1.2.1, by have := q1.2.2; omega⟩ | exact wy ⟨q2.1, q2.2.1, (show vl (i + 2) ≤ _ by have := q2.2.2; omega)⟩ | exact wb q4 | exact wl q5
    exact ret 0 H25 locs25 _ _ dX10_takeHeap_25 (Or.inl rfl) ⟨hKp25, Or.inr ⟨rfl, hno⟩⟩ hC25 hS25
set_option maxRecDepth 100000 in
set_option maxHeartbeats 4000000 in
theorem m_X10_takeHeap_77 (l : Launch) (X : xW) (Γ : Nat → Option Nat) (H0 : Heap) (hC0 : Conf X Γ H0) (h0 : Nat) (g0 : Γ h0 = some 3) (h1 : Nat) (g1 : Γ h1 = some 5) (h2 : Nat) (g2 : Γ h2 = some 81) (h3 : Nat) (g3 : Γ h3 = some 77) (o4 : Option Nat) (g4 : ∀ q, o4 = some q → Γ q = some 12) (p5 : Int32) {a5 : Int} (e5 : p5.toInt = a5) (ra : Nat) (gra : Γ ra = some 2) (ur : ∀ a, Γ a = some 2 → a = ra) (kd vl : Nat → Int) (N i : Nat) (S : YSt) (cu : CU X Γ H0 ra kd vl N i) (ys : YSC X Γ H0 h0 h1 vl S) (bfi : Nat) (hbf : bfi < 29) (ho : o4 = some (wad X bfi)) (htl : sR H0 h0 (X.1.2 9 3) = some h3) (r0 : kd i = 2) (r1 : a5 ≤ 9) : Ctr l X Γ yX10_takeHeap cX10_takeHeap 8 (some .boolean) 3 [.ref h0, .ref h1, .ref h2, .ref h3, va_rf o4, .int p5] H0 (QI X Γ (fun v H1 => Kp X Γ [3, 29, 31, 37, 39, 40, 50, 51, 52, 53, 54, 58, 59, 60, 61, 62, 63, 65, 67, 68, 69, 70, 71, 72] H0 H1 ∧ ((v = 1 ∧ (∃ (S1 : YSt) (i1 : Nat), gHeap kd vl bfi 2 a5 S i S1 i1 ∧ CU X Γ H1 ra kd vl N i1 ∧ YSC X Γ H1 h0 h1 vl S1)) ∨ (v = 0 ∧ (∀ (S1 : YSt) (i1 : Nat), ¬ gHeap kd vl bfi 2 a5 S i S1 i1))))) := by
  refine q_enterZ (own := "SnowForts$YardText") (by decide) rfl (by cases o4 <;> exact Nat.le_of_ble_eq_true rfl) ?_
  intro p e s m args below meth c ls Qz E hl ret hS0
  have hx := E.1; have hb := E.2.1
  have hKp0 : Kp X Γ [3, 29, 31, 37, 39, 40, 50, 51, 52, 53, 54, 58, 59, 60, 61, 62, 63, 65, 67, 68, 69, 70, 71, 72] H0 H0 := Kp.rf
  have hl : lv_has ls 8 [(0, .ref h0), (1, .ref h1), (2, .ref h2), (3, .ref h3), (4, va_rf o4), (5, .int p5)] := by revert hl; cases o4 <;> exact fun h => h
  have yw := ys.1; have yh := ys.2.1; have yn := ys.2.2.1; have yb := ys.2.2.2.1
  have gry := cu.g; have gyt := g0; have gyy := g1
  refine lv_aload_n hx hb dX10_takeHeap_0 rfl (lv_at hl 0 rfl) ?_
  refine q_getU E hC0 g0 fa_RX10_21 ur dX10_takeHeap_1 ?_
  refine q_goV (q_runV (As := []) (rest := []) E hC0 hS0 (m_X4_advance l X Γ H0 hC0 ra gra) cw_X4_advance cl_RX10_154 gra ⟨rfl, rfl⟩ rfl hl.1 rfl (Nat.zero_le _) (by decide) dX10_takeHeap_4) hS0 (fun H21 locs21 hr21 hC21 hS21 => ?_)
  obtain ⟨hp21, hr21⟩ := hr21
  have hKp21 := hKp0.tr (hp21.mono rfl)
  replace ys := ys.kp hp21 gyt gyy rfl
  have f21_0 := hr21
  have cu := cu.next (by omega) hp21 rfl f21_0
  refine lv_aload_n hx hb dX10_takeHeap_7 rfl (lv_at hl 0 rfl) ?_
  refine q_getU E hC21 g0 fa_RX10_21 ur dX10_takeHeap_8 ?_
  refine lv_iconst (v := 0) hx hb dX10_takeHeap_11 rfl ?_
  have yw := ys.1; have yh := ys.2.1; have yn := ys.2.2.1; have yb := ys.2.2.2.1
  refine lv_aload_n hx hb dX10_takeHeap_12 rfl (lv_at hl 1 rfl) ?_
  refine q_getI E hC21 g1 fa_RX10_92 dX10_takeHeap_13 (fun v22 ev22 lv22 uv22 => ?_)
  have m23 : (sI H21 h1 (X.1.2 8 0)).toInt = v22.toInt := congrArg Int32.toInt ev22
  refine lv_iconst (v := 1) hx hb dX10_takeHeap_16 rfl ?_
  refine lv_isub hx hb dX10_takeHeap_17 (lv_topi (fun v24 ev24 => ?_))
  have ev24i : v24.toInt = (v22.toInt - 1) := i_sub ev24 rfl (by decide) (by omega) (by omega)
  refine q_goI (q_runV (As := [.int 0, .int v24]) (rest := []) E hC21 hS21 (m_X4_takeNumber l X Γ H21 hC21 ra gra 0 (a1 := 0) (by decide) v24 (a2 := (v22.toInt - 1)) ev24i) cw_X4_takeNumber cl_RX10_79 gra ⟨rfl, rfl⟩ rfl hl.1 rfl (Nat.zero_le _) (by decide) dX10_takeHeap_18) hS21 (fun v25 H25 locs25 hr25 hC25 hS25 => ?_)
  obtain ⟨hp25, hr25⟩ := hr25
  have hKp25 := hKp21.tr (hp25.mono rfl)
  replace ys := ys.kp hp25 gyt gyy rfl
  rcases hr25.2 kd vl N (i + 1) cu with ⟨rfl, ⟨x1, x2, x3⟩, nx, cu⟩ | ⟨rfl, wx⟩
  · refine q_if_ne hx hb (a := 1) (by decide) (tgt := 26) dX10_takeHeap_21 rfl (fun c26 => ?_) (fun c26 => absurd c26 (by omega))
    refine lv_aload_n hx hb dX10_takeHeap_26 rfl (lv_at hl 0 rfl) ?_
    refine q_getU E hC25 g0 fa_RX10_21 ur dX10_takeHeap_27 ?_
    refine q_getI E hC25 gra fa_RX10_83 dX10_takeHeap_30 (fun v27 ev27 _ _ => ?_)
    have m28 : (sI H25 ra (X.1.2 4 13)).toInt = v27.toInt := congrArg Int32.toInt ev27
    refine lv_istore hx hb dX10_takeHeap_33 hl (by decide) rfl (fun ls hl => ?_)
    replace hl : lv_has ls 8 [(6, .int v27), (0, .ref h0), (1, .ref h1), (2, .ref h2), (3, .ref h3), (4, va_rf o4), (5, .int p5)] := hl
    refine lv_aload_n hx hb dX10_takeHeap_35 rfl (lv_at hl 1 rfl) ?_
    refine q_getU E hC25 g0 fa_RX10_21 ur dX10_takeHeap_36 ?_
    refine lv_iconst (v := 0) hx hb dX10_takeHeap_39 rfl ?_
    have yw := ys.1; have yh := ys.2.1; have yn := ys.2.2.1; have yb := ys.2.2.2.1
    refine lv_aload_n hx hb dX10_takeHeap_40 rfl (lv_at hl 2 rfl) ?_
    refine q_getI E hC25 g1 fa_RX10_98 dX10_takeHeap_41 (fun v29 ev29 lv29 uv29 => ?_)
    have m30 : (sI H25 h1 (X.1.2 8 1)).toInt = v29.toInt := congrArg Int32.toInt ev29
    refine lv_iconst (v := 1) hx hb dX10_takeHeap_44 rfl ?_
    refine lv_isub hx hb dX10_takeHeap_45 (lv_topi (fun v31 ev31 => ?_))
    have ev31i : v31.toInt = (v29.toInt - 1) := i_sub ev31 rfl (by decide) (by omega) (by omega)
    refine q_goI (q_runV (As := [.int 0, .int v31]) (rest := []) E hC25 hS25 (m_X4_takeNumber l X Γ H25 hC25 ra gra 0 (a1 := 0) (by decide) v31 (a2 := (v29.toInt - 1)) ev31i) cw_X4_takeNumber cl_RX10_79 gra ⟨rfl, rfl⟩ rfl hl.1 rfl (Nat.zero_le _) (by decide) dX10_takeHeap_46) hS25 (fun v32 H32 locs32 hr32 hC32 hS32 => ?_)
    obtain ⟨hp32, hr32⟩ := hr32
    have hKp32 := hKp25.tr (hp32.mono rfl)
    replace ys := ys.kp hp32 gyt gyy rfl
    rcases hr32.2 kd vl N (i + 2) cu with ⟨rfl, ⟨y1, y2, y3⟩, ny, cu⟩ | ⟨rfl, wy⟩
    · refine q_if_ne hx hb (a := 1) (by decide) (tgt := 54) dX10_takeHeap_49 rfl (fun c33 => ?_) (fun c33 => absurd c33 (by omega))
      refine lv_aload_n hx hb dX10_takeHeap_54 rfl (lv_at hl 1 rfl) ?_
      refine q_getU E hC32 g0 fa_RX10_21 ur dX10_takeHeap_55 ?_
      refine q_getI E hC32 gra fa_RX10_83 dX10_takeHeap_58 (fun v34 ev34 _ _ => ?_)
      have m35 : (sI H32 ra (X.1.2 4 13)).toInt = v34.toInt := congrArg Int32.toInt ev34
      refine lv_bipush (v := 6) hx hb dX10_takeHeap_61 rfl ?_
      refine lv_imul hx hb dX10_takeHeap_63 (lv_topi (fun v36 ev36 => ?_))
      have ev36i : v36.toInt = (v34.toInt * 6) := i_mul ev36 rfl (by decide) (by omega) (by omega)
      refine lv_iload hx hb dX10_takeHeap_64 (lv_at hl 0 rfl) ?_
      refine lv_iadd hx hb dX10_takeHeap_66 (lv_topi (fun v37 ev37 => ?_))
      have ev37i : v37.toInt = ((v34.toInt * 6) + v27.toInt) := i_add ev37 ev36i rfl (by omega) (by omega)
      refine lv_istore hx hb dX10_takeHeap_67 hl (by decide) rfl (fun ls hl => ?_)
      replace hl : lv_has ls 8 [(7, .int v37), (6, .int v27), (0, .ref h0), (1, .ref h1), (2, .ref h2), (3, .ref h3), (4, va_rf o4), (5, .int p5)] := hl
      refine lv_iload hx hb dX10_takeHeap_69 (lv_at hl 0 rfl) ?_
      refine lv_i2l (v := v37.toInt64) hx hb dX10_takeHeap_71 rfl (lv_topl (fun v38 ev38 => ?_))
      have ev38i : v38.toInt = ((v34.toInt * 6) + v27.toInt) := l_ofi ev38.symm ev37i
      refine lv_iconst (v := 0) hx hb dX10_takeHeap_72 rfl ?_
      refine lv_bipush (v := 35) hx hb dX10_takeHeap_73 rfl ?_
      refine q_goIp (q_runSN (As := [.long v38, .int 0, .int 35]) (rest := []) E hS32 (m_X11_isWithin l X Γ H32 hC32 v38 (a0 := ((v34.toInt * 6) + v27.toInt)) ev38i 0 (a1 := 0) (by decide) 35 (a2 := 35) (by decide)) cw_X11_isWithin cl_RX10_147 rfl hl.1 rfl (Nat.zero_le _) (by decide) dX10_takeHeap_75) hS32 (fun v39 locs39 hr39 hS39 => ?_)
      rcases hr39 with ⟨rfl, f39a0, f39a1⟩ | ⟨rfl, f39b⟩
      · refine q_if_eq hx hb (a := 1) (by decide) (tgt := 88) dX10_takeHeap_78 rfl (fun c40 => absurd c40 (by omega)) (fun c40 => ?_)
        refine lv_aload_n hx hb dX10_takeHeap_81 rfl (lv_at hl 5 rfl) ?_
        refine lv_iload hx hb dX10_takeHeap_82 (lv_at hl 0 rfl) ?_
        refine q_iald E hC32 g3 rfl rfl (fun _ h => h) (i_in (a := ((v34.toInt * 6) + v27.toInt)) ev37i (by omega) (by omega)) dX10_takeHeap_84 (fun v41 ev41 _ _ => ?_)
        have m42 : aI H32 h3 (((v34.toInt * 6) + v27.toInt)) = v41.toInt := aI_of ev37i ev41
        have htc : v41.toInt = S.2.2.2.2.1 2 (6 * vl (i + 2) + vl (i + 1)) := by rw [← ev41, i_ix ev37i, show (((v34.toInt * 6) + v27.toInt) : Int) = 6 * vl (i + 2) + vl (i + 1) by omega]; exact ys.cell (f := 3) (kk := 77) (by decide) ((kp_R hKp32 gyt (ci := 9) (k := 3) rfl (by decide) rfl).trans htl) (by omega) (by omega)
        refine q_if_eq hx hb (a := v41.toInt) rfl (tgt := 104) dX10_takeHeap_85 rfl (fun c43 => ?_) (fun c43 => ?_)
        · refine lv_aload_n hx hb dX10_takeHeap_104 rfl (lv_at hl 2 rfl) ?_
          refine q_getU E hC32 g0 fa_RX10_21 ur dX10_takeHeap_105 ?_
          refine q_alq (o := o4) hx hb dX10_takeHeap_108 (lv_at hl 6 rfl) ?_
          refine q_goI (q_runV (As := [va_rf o4]) (rest := []) E hC32 hS39 (m_X4_take l X Γ H32 hC32 ra gra o4 g4) cw_X4_take cl_RX10_75 gra ⟨rfl, rfl⟩ rfl hl.1 rfl (Nat.zero_le _) (by decide) dX10_takeHeap_110) hS39 (fun v44 H44 locs44 hr44 hC44 hS44 => ?_)
          obtain ⟨hp44, hr44⟩ := hr44
          have hKp44 := hKp32.tr (hp44.mono rfl)
          replace ys := ys.kp hp44 gyt gyy rfl
          rcases hr44.2 kd vl N (i + 3) cu bfi hbf ho with ⟨rfl, wb, cu⟩ | ⟨rfl, wb⟩
          · refine q_if_eq hx hb (a := 1) (by decide) (tgt := 129) dX10_takeHeap_113 rfl (fun c45 => absurd c45 (by omega)) (fun c45 => ?_)
            refine lv_aload_n hx hb dX10_takeHeap_116 rfl (lv_at hl 2 rfl) ?_
            refine q_getU E hC44 g0 fa_RX10_21 ur dX10_takeHeap_117 ?_
            refine lv_iconst (v := 0) hx hb dX10_takeHeap_120 rfl ?_
            refine lv_iload hx hb dX10_takeHeap_121 (lv_at hl 7 rfl) ?_
            refine q_goI (q_runV (As := [.int 0, .int p5]) (rest := []) E hC44 hS44 (m_X4_takeNumber l X Γ H44 hC44 ra gra 0 (a1 := 0) (by decide) p5 (a2 := a5) e5) cw_X4_takeNumber cl_RX10_79 gra ⟨rfl, rfl⟩ rfl hl.1 rfl (Nat.zero_le _) (by decide) dX10_takeHeap_123) hS44 (fun v46 H46 locs46 hr46 hC46 hS46 => ?_)
            obtain ⟨hp46, hr46⟩ := hr46
            have hKp46 := hKp44.tr (hp46.mono rfl)
            replace ys := ys.kp hp46 gyt gyy rfl
            rcases hr46.2 kd vl N (i + 4) cu with ⟨rfl, ⟨l1, l2, l3⟩, nl, cu⟩ | ⟨rfl, wl⟩
            · refine q_if_ne hx hb (a := 1) (by decide) (tgt := 131) dX10_takeHeap_126 rfl (fun c47 => ?_) (fun c47 => absurd c47 (by omega))
              have htq := ((kp_R hKp46 gyt (ci := 9) (k := 3) rfl (by decide) rfl).trans htl)
              refine lv_aload_n hx hb dX10_takeHeap_131 rfl (lv_at hl 5 rfl) ?_
              refine lv_iload hx hb dX10_takeHeap_132 (lv_at hl 0 rfl) ?_
              refine lv_iconst (v := 1) hx hb dX10_takeHeap_134 rfl ?_
              refine q_iast E hC46 hS46 g3 (by decide) rfl rfl (i_in (a := ((v34.toInt * 6) + v27.toInt)) ev37i (by omega) (by omega)) tv_F dX10_takeHeap_135 (fun H48 locs48 hC48 hS48 U48 => ?_)
              have hKp48 := Kp.upA g3 rfl (by decide) rfl U48 hKp46
              have m49 : aI H48 h3 (((v34.toInt * 6) + v27.toInt)) = 1 := aI_up U48 ev37i (show (1 : Int32).toInt = 1 from by decide)
              replace cu := cu.ne U48 g3 (by decide)
              have ys := ys.told (f := 3) (kk := 77) U48 gyt gyy (w := 2) (z := 6 * vl (i + 2) + vl (i + 1)) (by decide) htq g3 (by rw [i_ix ev37i]; omega) (by decide)
              have hn9 : (sI H48 ra (X.1.2 4 13)).toInt = (sI H46 ra (X.1.2 4 13)).toInt := congrArg Int32.toInt (up_nI U48 (ne_k gra g3 (by decide)))
              refine lv_aload_n hx hb dX10_takeHeap_136 rfl (lv_at hl 4 rfl) ?_
              refine lv_iload hx hb dX10_takeHeap_137 (lv_at hl 0 rfl) ?_
              refine lv_aload_n hx hb dX10_takeHeap_139 rfl (lv_at hl 2 rfl) ?_
              refine q_getU E hC48 g0 fa_RX10_21 ur dX10_takeHeap_140 ?_
              have e51 := (kp_I hp44 gra (k := 13) rfl (by decide) rfl).trans ev34
              refine q_getI E hC48 gra fa_RX10_83 dX10_takeHeap_143 (fun v50 ev50 _ _ => ?_)
              have m52 : (sI H48 ra (X.1.2 4 13)).toInt = v50.toInt := congrArg Int32.toInt ev50
              refine q_iast E hC48 hS48 g2 (by decide) rfl rfl (i_in (a := ((v34.toInt * 6) + v27.toInt)) ev37i (by omega) (by omega)) (tv_I rfl (by omega) (by omega)) dX10_takeHeap_146 (fun H53 locs53 hC53 hS53 U53 => ?_)
              have hKp53 := Kp.upA g2 rfl (by decide) rfl U53 hKp48
              have m54 : aI H53 h2 (((v34.toInt * 6) + v27.toInt)) = v50.toInt := aI_up U53 ev37i rfl
              replace cu := cu.ne U53 g2 (by decide)
              replace ys := ys.ne U53 gyt gyy g2 (by decide)
              refine lv_iconst (v := 1) hx hb dX10_takeHeap_147 rfl ?_
              have hyes : ∃ (S1 : YSt) (i1 : Nat), gHeap kd vl bfi 2 a5 S i S1 i1 ∧ CU X Γ H53 ra kd vl N i1 ∧ YSC X Γ H53 h0 h1 vl S1 := ⟨_, _, ⟨⟨x1, x2, by omega⟩, ⟨y1, y2, by omega⟩, by omega, wb, ⟨l1, l2, l3⟩, rfl, rfl⟩, cu, ys⟩
              exact ret 1 H53 locs53 _ _ dX10_takeHeap_148 (Or.inr rfl) ⟨hKp53, Or.inl ⟨rfl, hyes⟩⟩ hC53 hS53
            · refine q_if_ne hx hb (a := 0) (by decide) (tgt := 131) dX10_takeHeap_126 rfl (fun c55 => absurd c55 (by omega)) (fun c55 => ?_)
              refine lv_iconst (v := 0) hx hb dX10_takeHeap_129 rfl ?_
              have hno : ∀ (S1 : YSt) (i1 : Nat), ¬ gHeap kd vl bfi 2 a5 S i S1 i1 := fun S1 i1 q => by obtain ⟨q1, q2, q3, q4, q5, -, -⟩ := q; first | omega | exact wx ⟨q1.1, q1.2.1, by have := q1.2.2; omega⟩ | exact wy ⟨q2.1, q2.2.1, (show vl (i + 2) ≤ _ by have := q2.2.2; omega)⟩ | exact wb q4 | exact wl q5
              exact ret 0 H46 locs46 _ _ dX10_takeHeap_130 (Or.inl rfl) ⟨hKp46, Or.inr ⟨rfl, hno⟩⟩ hC46 hS46
          · refine q_if_eq hx hb (a := 0) (by decide) (tgt := 129) dX10_takeHeap_113 rfl (fun c56 => ?_) (fun c56 => absurd c56 (by omega))
            refine lv_iconst (v := 0) hx hb dX10_takeHeap_129 rfl ?_
            have hno : ∀ (S1 : YSt) (i1 : Nat), ¬ gHeap kd vl bfi 2 a5 S i S1 i1 := fun S1 i1 q => by obtain ⟨q1, q2, q3, q4, q5, -, -⟩ := q; first | omega | exact wx ⟨q1.1, q1.2.1, by have := q1.2.2; omega⟩ | exact wy ⟨q2.1, q2.2.1, (show vl (i + 2) ≤ _ by have := q2.2.2; omega)⟩ | exact wb q4 | exact wl q5
            exact ret 0 H44 locs44 _ _ dX10_takeHeap_130 (Or.inl rfl) ⟨hKp44, Or.inr ⟨rfl, hno⟩⟩ hC44 hS44
        · refine lv_aload_n hx hb dX10_takeHeap_88 rfl (lv_at hl 2 rfl) ?_
          refine q_getU E hC32 g0 fa_RX10_21 ur dX10_takeHeap_89 ?_
          refine lv_iconst (v := 5) hx hb dX10_takeHeap_92 rfl ?_
          refine lv_aload_n hx hb dX10_takeHeap_93 rfl (lv_at hl 2 rfl) ?_
          refine q_getU E hC32 g0 fa_RX10_21 ur dX10_takeHeap_94 ?_
          refine q_getI E hC32 gra fa_RX10_86 dX10_takeHeap_97 (fun v57 ev57 _ _ => ?_)
          have m58 : (sI H32 ra (X.1.2 4 14)).toInt = v57.toInt := congrArg Int32.toInt ev57
          refine q_goI (q_runV (As := [.int 5, .int v57]) (rest := []) E hC32 hS39 (m_X4_fail l X Γ H32 hC32 ra gra 5 (a1 := 5) (by decide) v57 (a2 := v57.toInt) rfl) cw_X4_fail cl_RX10_89 gra ⟨rfl, rfl⟩ rfl hl.1 rfl (Nat.zero_le _) (by decide) dX10_takeHeap_100) hS39 (fun v59 H59 locs59 hr59 hC59 hS59 => ?_)
          obtain ⟨hp59, hr59⟩ := hr59
          have hKp59 := hKp32.tr (hp59.mono rfl)
          replace cu := cu.kp hp59 rfl rfl
          replace ys := ys.kp hp59 gyt gyy rfl
          rcases hr59 with ⟨rfl, f59a⟩ | ⟨rfl, -⟩
          · exact absurd f59a (by decide)
          · have hno : ∀ (S1 : YSt) (i1 : Nat), ¬ gHeap kd vl bfi 2 a5 S i S1 i1 := fun S1 i1 q => by obtain ⟨q1, q2, q3, q4, q5, -, -⟩ := q; first | omega | exact wx ⟨q1.1, q1.2.1, by have := q1.2.2; omega⟩ | exact wy ⟨q2.1, q2.2.1, (show vl (i + 2) ≤ _ by have := q2.2.2; omega)⟩ | exact wb q4 | exact wl q5
            exact ret 0 H59 locs59 _ _ dX10_takeHeap_103 (Or.inl rfl) ⟨hKp59, Or.inr ⟨rfl, hno⟩⟩ hC59 hS59
      · refine q_if_eq hx hb (a := 0) (by decide) (tgt := 88) dX10_takeHeap_78 rfl (fun c60 => ?_) (fun c60 => absurd c60 (by omega))
        refine lv_aload_n hx hb dX10_takeHeap_88 rfl (lv_at hl 2 rfl) ?_
        refine q_getU E hC32 g0 fa_RX10_21 ur dX10_takeHeap_89 ?_
        refine lv_iconst (v := 5) hx hb dX10_takeHeap_92 rfl ?_
        refine lv_aload_n hx hb dX10_takeHeap_93 rfl (lv_at hl 2 rfl) ?_
        refine q_getU E hC32 g0 fa_RX10_21 ur dX10_takeHeap_94 ?_
        refine q_getI E hC32 gra fa_RX10_86 dX10_takeHeap_97 (fun v61 ev61 _ _ => ?_)
        have m62 : (sI H32 ra (X.1.2 4 14)).toInt = v61.toInt := congrArg Int32.toInt ev61
        refine q_goI (q_runV (As := [.int 5, .int v61]) (rest := []) E hC32 hS39 (m_X4_fail l X Γ H32 hC32 ra gra 5 (a1 := 5) (by decide) v61 (a2 := v61.toInt) rfl) cw_X4_fail cl_RX10_89 gra ⟨rfl, rfl⟩ rfl hl.1 rfl (Nat.zero_le _) (by decide) dX10_takeHeap_100) hS39 (fun v63 H63 locs63 hr63 hC63 hS63 => ?_)
        obtain ⟨hp63, hr63⟩ := hr63
        have hKp63 := hKp32.tr (hp63.mono rfl)
        replace cu := cu.kp hp63 rfl rfl
        replace ys := ys.kp hp63 gyt gyy rfl
        rcases hr63 with ⟨rfl, f63a⟩ | ⟨rfl, -⟩
        · exact absurd f63a (by decide)
        · have hno : ∀ (S1 : YSt) (i1 : Nat), ¬ gHeap kd vl bfi 2 a5 S i S1 i1 := fun S1 i1 q => by obtain ⟨q1, q2, q3, q4, q5, -, -⟩ := q; first | omega | exact wx ⟨q1.1, q1.2.1, by have := q1.2.2; omega⟩ | exact wy ⟨q2.1, q2.2.1, (show vl (i + 2) ≤ _ by have := q2.2.2; omega)⟩ | exact wb q4 | exact wl q5
          exact ret 0 H63 locs63 _ _ dX10_takeHeap_103 (Or.inl rfl) ⟨hKp63, Or.inr ⟨rfl, hno⟩⟩ hC63 hS63
    · refine q_if_ne hx hb (a := 0) (by decide) (tgt := 54) dX10_takeHeap_49 rfl (fun c64 => absurd c64 (by omega)) (fun c64 => ?_)
      refine lv_iconst (v := 0) hx hb dX10_takeHeap_52 rfl ?_
      have hno : ∀ (S1 : YSt) (i1 : Nat), ¬ gHeap kd vl bfi 2 a5 S i S1 i1 := fun S1 i1 q => by obtain ⟨q1, q2, q3, q4, q5, -, -⟩ := q; first | omega | exact wx ⟨q1.1, q1.2.1, by have := q1.2.2; omega⟩ | exact wy ⟨q2.1, q2.2.1, (show vl (i + 2) ≤ _ by have := q2.2.2; omega)⟩ | exact wb q4 | exact wl q5
      exact ret 0 H32 locs32 _ _ dX10_takeHeap_53 (Or.inl rfl) ⟨hKp32, Or.inr ⟨rfl, hno⟩⟩ hC32 hS32
  · refine q_if_ne hx hb (a := 0) (by decide) (tgt := 26) dX10_takeHeap_21 rfl (fun c65 => absurd c65 (by omega)) (fun c65 => ?_)
    refine lv_iconst (v := 0) hx hb dX10_takeHeap_24 rfl ?_
    have hno : ∀ (S1 : YSt) (i1 : Nat), ¬ gHeap kd vl bfi 2 a5 S i S1 i1 := fun S1 i1 q => by obtain ⟨q1, q2, q3, q4, q5, -, -⟩ := q; first | omega | exact wx ⟨q1.1, q1.2.1, by have := q1.2.2; omega⟩ | exact wy ⟨q2.1, q2.2.1, (show vl (i + 2) ≤ _ by have := q2.2.2; omega)⟩ | exact wb q4 | exact wl q5
    exact ret 0 H25 locs25 _ _ dX10_takeHeap_25 (Or.inl rfl) ⟨hKp25, Or.inr ⟨rfl, hno⟩⟩ hC25 hS25
set_option maxRecDepth 100000 in
set_option maxHeartbeats 4000000 in
theorem m_X10_isNew (l : Launch) (X : xW) (Γ : Nat → Option Nat) (H0 : Heap) (hC0 : Conf X Γ H0) (h0 : Nat) (g0 : Γ h0 = some 3) (h1 : Nat) (g1 : Γ h1 = some 5) (p2 : Int32) {a2 : Int} (e2 : p2.toInt = a2) (ra : Nat) (gra : Γ ra = some 2) (ur : ∀ a, Γ a = some 2 → a = ra) (kd vl : Nat → Int) (N i : Nat) (S : YSt) (cu : CU X Γ H0 ra kd vl N i) (ys : YSC X Γ H0 h0 h1 vl S) (r0 : 0 ≤ a2) (r1 : a2 ≤ 3) : Ctr l X Γ yX10_isNew cX10_isNew 4 (some .boolean) 1 [.ref h0, .ref h1, .int p2] H0 (QI X Γ (fun v H1 => Kp X Γ [3, 29, 31, 32, 33, 34, 37, 39, 40, 50, 51, 52, 53, 54, 55, 56, 57, 58, 59, 60, 61, 62, 63, 65, 67, 68, 69, 70, 71, 72] H0 H1 ∧ ((v = 1 ∧ (S.2.2.2.2.2 a2 = -1)) ∨ (v = 0 ∧ (S.2.2.2.2.2 a2 ≠ -1))))) := by
  refine q_enterZ (own := "SnowForts$YardText") (by decide) rfl (Nat.le_of_ble_eq_true rfl) ?_
  intro p e s m args below meth c ls Qz E hl ret hS0
  have hx := E.1; have hb := E.2.1
  have hKp0 : Kp X Γ [3, 29, 31, 32, 33, 34, 37, 39, 40, 50, 51, 52, 53, 54, 55, 56, 57, 58, 59, 60, 61, 62, 63, 65, 67, 68, 69, 70, 71, 72] H0 H0 := Kp.rf
  have hl : lv_has ls 4 [(0, .ref h0), (1, .ref h1), (2, .int p2)] := hl
  have gry := cu.g; have gyt := g0; have gyy := g1
  refine lv_iload_n hx hb dX10_isNew_0 rfl (lv_at hl 2 rfl) ?_
  refine lv_i2l (v := p2.toInt64) hx hb dX10_isNew_1 rfl (lv_topl (fun v21 ev21 => ?_))
  have ev21i : v21.toInt = a2 := l_ofi ev21.symm e2
  refine lv_iconst (v := 0) hx hb dX10_isNew_2 rfl ?_
  refine lv_iconst (v := 3) hx hb dX10_isNew_3 rfl ?_
  refine q_goIp (q_runSN (As := [.long v21, .int 0, .int 3]) (rest := []) E hS0 (m_X11_isWithin l X Γ H0 hC0 v21 (a0 := a2) ev21i 0 (a1 := 0) (by decide) 3 (a2 := 3) (by decide)) cw_X11_isWithin cl_RX10_147 rfl hl.1 rfl (Nat.zero_le _) (by decide) dX10_isNew_4) hS0 (fun v22 locs22 hr22 hS22 => ?_)
  rcases hr22 with ⟨rfl, f22a0, f22a1⟩ | ⟨rfl, f22b⟩
  · refine q_if_eq hx hb (a := 1) (by decide) (tgt := 20) dX10_isNew_7 rfl (fun c23 => absurd c23 (by omega)) (fun c23 => ?_)
    refine lv_aload_n hx hb dX10_isNew_10 rfl (lv_at hl 1 rfl) ?_
    refine q_getR E hC0 g1 fa_RX10_200 dX10_isNew_11 (fun q24 eq24 gq24 => ?_)
    have hqa := eq24
    refine lv_iload_n hx hb dX10_isNew_14 rfl (lv_at hl 2 rfl) ?_
    refine q_iald E hC0 gq24 rfl rfl (fun _ h => h) (i_in (a := a2) e2 (by omega) (by omega)) dX10_isNew_15 (fun v25 ev25 lv25 uv25 => ?_)
    have m26 : aI H0 q24 a2 = v25.toInt := aI_of e2 ev25
    have hta : v25.toInt = S.2.2.2.2.2 a2 := by rw [← ev25, i_ix e2]; exact ys.article hqa (by omega) (by omega)
    refine lv_iconst (v := (-1)) hx hb dX10_isNew_16 rfl ?_
    refine q_icmp_eq hx hb (a := v25.toInt) (b := (-1)) rfl (by decide) (tgt := 24) dX10_isNew_17 rfl (fun c27 => ?_) (fun c27 => ?_)
    · refine lv_iconst (v := 0) hx hb dX10_isNew_24 rfl ?_
      refine lv_istore_n hx hb dX10_isNew_25 rfl hl (by decide) rfl (fun ls hl => ?_)
      replace hl : lv_has ls 4 [(3, .int 0), (0, .ref h0), (1, .ref h1), (2, .int p2)] := hl
      refine lv_iload_n hx hb dX10_isNew_26 rfl (lv_at hl 0 rfl) ?_
      refine q_if_eq hx hb (a := 0) (by decide) (tgt := 48) dX10_isNew_27 rfl (fun c28 => ?_) (fun c28 => absurd c28 (by omega))
      refine lv_iconst (v := 1) hx hb dX10_isNew_48 rfl ?_
      refine lv_goto (tgt := 53) hx hb dX10_isNew_49 rfl ?_
      exact ret 1 H0 locs22 _ _ dX10_isNew_53 (Or.inr rfl) ⟨hKp0, Or.inl ⟨rfl, by omega⟩⟩ hC0 hS22
    · refine lv_iconst (v := 1) hx hb dX10_isNew_20 rfl ?_
      refine lv_goto (tgt := 25) hx hb dX10_isNew_21 rfl ?_
      refine lv_istore_n hx hb dX10_isNew_25 rfl hl (by decide) rfl (fun ls hl => ?_)
      replace hl : lv_has ls 4 [(3, .int 1), (0, .ref h0), (1, .ref h1), (2, .int p2)] := hl
      refine lv_iload_n hx hb dX10_isNew_26 rfl (lv_at hl 0 rfl) ?_
      refine q_if_eq hx hb (a := 1) (by decide) (tgt := 48) dX10_isNew_27 rfl (fun c29 => absurd c29 (by omega)) (fun c29 => ?_)
      refine lv_aload_n hx hb dX10_isNew_30 rfl (lv_at hl 1 rfl) ?_
      refine q_getU E hC0 g0 fa_RX10_21 ur dX10_isNew_31 ?_
      refine lv_iconst (v := 5) hx hb dX10_isNew_34 rfl ?_
      refine lv_aload_n hx hb dX10_isNew_35 rfl (lv_at hl 1 rfl) ?_
      refine q_getU E hC0 g0 fa_RX10_21 ur dX10_isNew_36 ?_
      refine q_getI E hC0 gra fa_RX10_151 dX10_isNew_39 (fun v30 ev30 _ _ => ?_)
      have m31 : (sI H0 ra (X.1.2 4 10)).toInt = v30.toInt := congrArg Int32.toInt ev30
      refine q_goI (q_runV (As := [.int 5, .int v30]) (rest := []) E hC0 hS22 (m_X4_fail l X Γ H0 hC0 ra gra 5 (a1 := 5) (by decide) v30 (a2 := v30.toInt) rfl) cw_X4_fail cl_RX10_89 gra ⟨rfl, rfl⟩ rfl hl.1 rfl (Nat.zero_le _) (by decide) dX10_isNew_42) hS22 (fun v32 H32 locs32 hr32 hC32 hS32 => ?_)
      obtain ⟨hp32, hr32⟩ := hr32
      have hKp32 := hKp0.tr (hp32.mono rfl)
      replace cu := cu.kp hp32 rfl rfl
      replace ys := ys.kp hp32 gyt gyy rfl
      rcases hr32 with ⟨rfl, f32a⟩ | ⟨rfl, -⟩
      · exact absurd f32a (by decide)
      · refine q_if_eq hx hb (a := 0) (by decide) (tgt := 52) dX10_isNew_45 rfl (fun c33 => ?_) (fun c33 => absurd c33 (by omega))
        refine lv_iconst (v := 0) hx hb dX10_isNew_52 rfl ?_
        exact ret 0 H32 locs32 _ _ dX10_isNew_53 (Or.inl rfl) ⟨hKp32, Or.inr ⟨rfl, by omega⟩⟩ hC32 hS32
  · refine q_if_eq hx hb (a := 0) (by decide) (tgt := 20) dX10_isNew_7 rfl (fun c34 => ?_) (fun c34 => absurd c34 (by omega))
    refine lv_iconst (v := 1) hx hb dX10_isNew_20 rfl ?_
    refine lv_goto (tgt := 25) hx hb dX10_isNew_21 rfl ?_
    refine lv_istore_n hx hb dX10_isNew_25 rfl hl (by decide) rfl (fun ls hl => ?_)
    replace hl : lv_has ls 4 [(3, .int 1), (0, .ref h0), (1, .ref h1), (2, .int p2)] := hl
    refine lv_iload_n hx hb dX10_isNew_26 rfl (lv_at hl 0 rfl) ?_
    refine q_if_eq hx hb (a := 1) (by decide) (tgt := 48) dX10_isNew_27 rfl (fun c35 => absurd c35 (by omega)) (fun c35 => ?_)
    refine lv_aload_n hx hb dX10_isNew_30 rfl (lv_at hl 1 rfl) ?_
    refine q_getU E hC0 g0 fa_RX10_21 ur dX10_isNew_31 ?_
    refine lv_iconst (v := 5) hx hb dX10_isNew_34 rfl ?_
    refine lv_aload_n hx hb dX10_isNew_35 rfl (lv_at hl 1 rfl) ?_
    refine q_getU E hC0 g0 fa_RX10_21 ur dX10_isNew_36 ?_
    refine q_getI E hC0 gra fa_RX10_151 dX10_isNew_39 (fun v36 ev36 _ _ => ?_)
    have m37 : (sI H0 ra (X.1.2 4 10)).toInt = v36.toInt := congrArg Int32.toInt ev36
    refine q_goI (q_runV (As := [.int 5, .int v36]) (rest := []) E hC0 hS22 (m_X4_fail l X Γ H0 hC0 ra gra 5 (a1 := 5) (by decide) v36 (a2 := v36.toInt) rfl) cw_X4_fail cl_RX10_89 gra ⟨rfl, rfl⟩ rfl hl.1 rfl (Nat.zero_le _) (by decide) dX10_isNew_42) hS22 (fun v38 H38 locs38 hr38 hC38 hS38 => ?_)
    obtain ⟨hp38, hr38⟩ := hr38
    have hKp38 := hKp0.tr (hp38.mono rfl)
    replace cu := cu.kp hp38 rfl rfl
    replace ys := ys.kp hp38 gyt gyy rfl
    rcases hr38 with ⟨rfl, f38a⟩ | ⟨rfl, -⟩
    · exact absurd f38a (by decide)
    · refine q_if_eq hx hb (a := 0) (by decide) (tgt := 52) dX10_isNew_45 rfl (fun c39 => ?_) (fun c39 => absurd c39 (by omega))
      refine lv_iconst (v := 0) hx hb dX10_isNew_52 rfl ?_
      exact ret 0 H38 locs38 _ _ dX10_isNew_53 (Or.inl rfl) ⟨hKp38, Or.inr ⟨rfl, by omega⟩⟩ hC38 hS38
set_option maxRecDepth 100000 in
set_option maxHeartbeats 4000000 in
theorem m_X10_takeLimit (l : Launch) (X : xW) (Γ : Nat → Option Nat) (H0 : Heap) (hC0 : Conf X Γ H0) (h0 : Nat) (g0 : Γ h0 = some 3) (h1 : Nat) (g1 : Γ h1 = some 5) (p2 : Int32) {a2 : Int} (e2 : p2.toInt = a2) (o3 : Option Nat) (g3 : ∀ q, o3 = some q → Γ q = some 12) (p4 : Int32) {a4 : Int} (e4 : p4.toInt = a4) (ra : Nat) (gra : Γ ra = some 2) (ur : ∀ a, Γ a = some 2 → a = ra) (kd vl : Nat → Int) (N i : Nat) (S : YSt) (cu : CU X Γ H0 ra kd vl N i) (ys : YSC X Γ H0 h0 h1 vl S) (bfi : Nat) (hbf : bfi < 29) (ho : o3 = some (wad X bfi)) (r0 : kd i = 2) (r1 : 0 ≤ a2) (r2 : a2 ≤ 3) (r3 : a4 ≤ 40) : Ctr l X Γ yX10_takeLimit cX10_takeLimit 5 (some .boolean) 3 [.ref h0, .ref h1, .int p2, va_rf o3, .int p4] H0 (QI X Γ (fun v H1 => Kp X Γ [3, 29, 31, 37, 39, 50, 51, 52, 53, 54, 55, 56, 57, 58, 59, 60, 61, 62, 63, 65, 67, 68, 69, 70, 71, 72] H0 H1 ∧ ((v = 1 ∧ (∃ (S1 : YSt) (i1 : Nat), gLim kd vl bfi a2 a4 S i S1 i1 ∧ CU X Γ H1 ra kd vl N i1 ∧ YSC X Γ H1 h0 h1 vl S1)) ∨ (v = 0 ∧ (∀ (S1 : YSt) (i1 : Nat), ¬ gLim kd vl bfi a2 a4 S i S1 i1))))) := by
  refine q_enterZ (own := "SnowForts$YardText") (by decide) rfl (by cases o3 <;> exact Nat.le_of_ble_eq_true rfl) ?_
  intro p e s m args below meth c ls Qz E hl ret hS0
  have hx := E.1; have hb := E.2.1
  have hKp0 : Kp X Γ [3, 29, 31, 37, 39, 50, 51, 52, 53, 54, 55, 56, 57, 58, 59, 60, 61, 62, 63, 65, 67, 68, 69, 70, 71, 72] H0 H0 := Kp.rf
  have hl : lv_has ls 5 [(0, .ref h0), (1, .ref h1), (2, .int p2), (3, va_rf o3), (4, .int p4)] := by revert hl; cases o3 <;> exact fun h => h
  have gry := cu.g; have gyt := g0; have gyy := g1
  refine lv_aload_n hx hb dX10_takeLimit_0 rfl (lv_at hl 0 rfl) ?_
  refine q_getU E hC0 g0 fa_RX10_21 ur dX10_takeLimit_1 ?_
  refine q_goV (q_runV (As := []) (rest := []) E hC0 hS0 (m_X4_advance l X Γ H0 hC0 ra gra) cw_X4_advance cl_RX10_154 gra ⟨rfl, rfl⟩ rfl hl.1 rfl (Nat.zero_le _) (by decide) dX10_takeLimit_4) hS0 (fun H21 locs21 hr21 hC21 hS21 => ?_)
  obtain ⟨hp21, hr21⟩ := hr21
  have hKp21 := hKp0.tr (hp21.mono rfl)
  replace ys := ys.kp hp21 gyt gyy rfl
  have f21_0 := hr21
  have cu := cu.next (by omega) hp21 rfl f21_0
  refine lv_aload_n hx hb dX10_takeLimit_7 rfl (lv_at hl 0 rfl) ?_
  refine q_getU E hC21 g0 fa_RX10_21 ur dX10_takeLimit_8 ?_
  refine q_alq_n (o := o3) hx hb dX10_takeLimit_11 rfl (lv_at hl 3 rfl) ?_
  refine q_goI (q_runV (As := [va_rf o3]) (rest := []) E hC21 hS21 (m_X4_take l X Γ H21 hC21 ra gra o3 g3) cw_X4_take cl_RX10_75 gra ⟨rfl, rfl⟩ rfl hl.1 rfl (Nat.zero_le _) (by decide) dX10_takeLimit_12) hS21 (fun v22 H22 locs22 hr22 hC22 hS22 => ?_)
  obtain ⟨hp22, hr22⟩ := hr22
  have hKp22 := hKp21.tr (hp22.mono rfl)
  replace ys := ys.kp hp22 gyt gyy rfl
  rcases hr22.2 kd vl N (i + 1) cu bfi hbf ho with ⟨rfl, wb, cu⟩ | ⟨rfl, wb⟩
  · refine q_if_eq hx hb (a := 1) (by decide) (tgt := 41) dX10_takeLimit_15 rfl (fun c23 => absurd c23 (by omega)) (fun c23 => ?_)
    refine lv_aload_n hx hb dX10_takeLimit_18 rfl (lv_at hl 0 rfl) ?_
    refine q_getU E hC22 g0 fa_RX10_21 ur dX10_takeLimit_19 ?_
    refine lv_iconst (v := 0) hx hb dX10_takeLimit_22 rfl ?_
    refine lv_iload hx hb dX10_takeLimit_23 (lv_at hl 4 rfl) ?_
    refine q_goI (q_runV (As := [.int 0, .int p4]) (rest := []) E hC22 hS22 (m_X4_takeNumber l X Γ H22 hC22 ra gra 0 (a1 := 0) (by decide) p4 (a2 := a4) e4) cw_X4_takeNumber cl_RX10_79 gra ⟨rfl, rfl⟩ rfl hl.1 rfl (Nat.zero_le _) (by decide) dX10_takeLimit_25) hS22 (fun v24 H24 locs24 hr24 hC24 hS24 => ?_)
    obtain ⟨hp24, hr24⟩ := hr24
    have hKp24 := hKp22.tr (hp24.mono rfl)
    replace ys := ys.kp hp24 gyt gyy rfl
    rcases hr24.2 kd vl N (i + 2) cu with ⟨rfl, ⟨l1, l2, l3⟩, nl, cu⟩ | ⟨rfl, wl⟩
    · refine q_if_eq hx hb (a := 1) (by decide) (tgt := 41) dX10_takeLimit_28 rfl (fun c25 => absurd c25 (by omega)) (fun c25 => ?_)
      refine lv_iload_n hx hb dX10_takeLimit_31 rfl (lv_at hl 2 rfl) ?_
      refine lv_i2l (v := p2.toInt64) hx hb dX10_takeLimit_32 rfl (lv_topl (fun v26 ev26 => ?_))
      have ev26i : v26.toInt = a2 := l_ofi ev26.symm e2
      refine lv_iconst (v := 0) hx hb dX10_takeLimit_33 rfl ?_
      refine lv_iconst (v := 3) hx hb dX10_takeLimit_34 rfl ?_
      refine q_goIp (q_runSN (As := [.long v26, .int 0, .int 3]) (rest := []) E hS24 (m_X11_isWithin l X Γ H24 hC24 v26 (a0 := a2) ev26i 0 (a1 := 0) (by decide) 3 (a2 := 3) (by decide)) cw_X11_isWithin cl_RX10_147 rfl hl.1 rfl (Nat.zero_le _) (by decide) dX10_takeLimit_35) hS24 (fun v27 locs27 hr27 hS27 => ?_)
      rcases hr27 with ⟨rfl, f27a0, f27a1⟩ | ⟨rfl, f27b⟩
      · refine q_if_ne hx hb (a := 1) (by decide) (tgt := 43) dX10_takeLimit_38 rfl (fun c28 => ?_) (fun c28 => absurd c28 (by omega))
        refine lv_aload_n hx hb dX10_takeLimit_43 rfl (lv_at hl 1 rfl) ?_
        refine q_getR E hC24 g1 fa_RX10_200 dX10_takeLimit_44 (fun q29 eq29 gq29 => ?_)
        have hqa := eq29; have gqa := gq29
        refine lv_iload_n hx hb dX10_takeLimit_47 rfl (lv_at hl 2 rfl) ?_
        refine lv_aload_n hx hb dX10_takeLimit_48 rfl (lv_at hl 0 rfl) ?_
        refine q_getU E hC24 g0 fa_RX10_21 ur dX10_takeLimit_49 ?_
        refine q_getI E hC24 gra fa_RX10_83 dX10_takeLimit_52 (fun v30 ev30 _ _ => ?_)
        have m31 : (sI H24 ra (X.1.2 4 13)).toInt = v30.toInt := congrArg Int32.toInt ev30
        refine q_iast E hC24 hS27 gq29 (by decide) rfl rfl (i_in (a := a2) e2 (by omega) (by omega)) (tv_I rfl (by omega) (by omega)) dX10_takeLimit_55 (fun H32 locs32 hC32 hS32 U32 => ?_)
        have hKp32 := Kp.upA gq29 rfl (by decide) rfl U32 hKp24
        have m33 : aI H32 q29 a2 = v30.toInt := aI_up U32 e2 rfl
        replace cu := cu.ne U32 gq29 (by decide)
        have ys := ys.art U32 gyt gyy hqa gqa (w := a2) (z := vl (i + 2)) (by rw [i_ix e2]; omega) (by omega)
        refine lv_iconst (v := 1) hx hb dX10_takeLimit_56 rfl ?_
        have hyes : ∃ (S1 : YSt) (i1 : Nat), gLim kd vl bfi a2 a4 S i S1 i1 ∧ CU X Γ H32 ra kd vl N i1 ∧ YSC X Γ H32 h0 h1 vl S1 := ⟨_, _, ⟨wb, ⟨l1, l2, l3⟩, rfl, rfl⟩, cu, ys⟩
        exact ret 1 H32 locs32 _ _ dX10_takeLimit_57 (Or.inr rfl) ⟨hKp32, Or.inl ⟨rfl, hyes⟩⟩ hC32 hS32
      · refine q_if_ne hx hb (a := 0) (by decide) (tgt := 43) dX10_takeLimit_38 rfl (fun c34 => absurd c34 (by omega)) (fun c34 => ?_)
        refine lv_iconst (v := 0) hx hb dX10_takeLimit_41 rfl ?_
        have hno : ∀ (S1 : YSt) (i1 : Nat), ¬ gLim kd vl bfi a2 a4 S i S1 i1 := fun S1 i1 q => by obtain ⟨q1, q2, -, -⟩ := q; first | exact wb q1 | exact wl q2 | omega
        exact ret 0 H24 locs27 _ _ dX10_takeLimit_42 (Or.inl rfl) ⟨hKp24, Or.inr ⟨rfl, hno⟩⟩ hC24 hS27
    · refine q_if_eq hx hb (a := 0) (by decide) (tgt := 41) dX10_takeLimit_28 rfl (fun c35 => ?_) (fun c35 => absurd c35 (by omega))
      refine lv_iconst (v := 0) hx hb dX10_takeLimit_41 rfl ?_
      have hno : ∀ (S1 : YSt) (i1 : Nat), ¬ gLim kd vl bfi a2 a4 S i S1 i1 := fun S1 i1 q => by obtain ⟨q1, q2, -, -⟩ := q; first | exact wb q1 | exact wl q2 | omega
      exact ret 0 H24 locs24 _ _ dX10_takeLimit_42 (Or.inl rfl) ⟨hKp24, Or.inr ⟨rfl, hno⟩⟩ hC24 hS24
  · refine q_if_eq hx hb (a := 0) (by decide) (tgt := 41) dX10_takeLimit_15 rfl (fun c36 => ?_) (fun c36 => absurd c36 (by omega))
    refine lv_iconst (v := 0) hx hb dX10_takeLimit_41 rfl ?_
    have hno : ∀ (S1 : YSt) (i1 : Nat), ¬ gLim kd vl bfi a2 a4 S i S1 i1 := fun S1 i1 q => by obtain ⟨q1, q2, -, -⟩ := q; first | exact wb q1 | exact wl q2 | omega
    exact ret 0 H22 locs22 _ _ dX10_takeLimit_42 (Or.inl rfl) ⟨hKp22, Or.inr ⟨rfl, hno⟩⟩ hC22 hS22
