set_option maxRecDepth 100000 in
set_option maxHeartbeats 4000000 in
theorem m_X9_allBreaches (l : Launch) (X : xW) (Γ : Nat → Option Nat) (H0 : Heap) (hC0 : Conf X Γ H0) (h0 : Nat) (g0 : Γ h0 = some 5) : Ctr l X Γ yX9_allBreaches cX9_allBreaches 1 (some .int) 0 [.ref h0] H0 (QI X Γ (fun v H1 => H1 = H0 ∧ (True))) := by
  refine q_enterI (own := "SnowForts$Yard") (by decide) rfl (Nat.le_of_ble_eq_true rfl) ?_
  intro p e s m args below meth c ls Qz E hl ret hS0
  have hx := E.1; have hb := E.2.1
  have hl : lv_has ls 1 [(0, .ref h0)] := hl
  refine lv_aload_n hx hb dX9_allBreaches_0 rfl (lv_at hl 0 rfl) ?_
  refine q_getR E hC0 g0 fa_RX9_25 dX9_allBreaches_1 (fun q21 eq21 gq21 => ?_)
  refine lv_iconst (v := 0) hx hb dX9_allBreaches_4 rfl ?_
  refine q_iald E hC0 gq21 rfl rfl (fun _ h => h) (i_in (a := 0) (show (0 : Int32).toInt = 0 from by decide) (by omega) (by omega)) dX9_allBreaches_5 (fun v22 ev22 _ _ => ?_)
  refine lv_aload_n hx hb dX9_allBreaches_6 rfl (lv_at hl 0 rfl) ?_
  refine q_getR E hC0 g0 fa_RX9_25 dX9_allBreaches_7 (fun q23 eq23 gq23 => ?_)
  refine lv_iconst (v := 1) hx hb dX9_allBreaches_10 rfl ?_
  refine q_iald E hC0 gq23 rfl rfl (fun _ h => h) (i_in (a := 1) (show (1 : Int32).toInt = 1 from by decide) (by omega) (by omega)) dX9_allBreaches_11 (fun v24 ev24 _ _ => ?_)
  refine lv_iadd hx hb dX9_allBreaches_12 (lv_topi (fun v25 ev25 => ?_))
  exact ret v25 H0 [] _ _ dX9_allBreaches_13 ⟨rfl, trivial⟩ hC0 hS0
set_option maxRecDepth 100000 in
set_option maxHeartbeats 4000000 in
theorem m_X9_sumOf (l : Launch) (X : xW) (Γ : Nat → Option Nat) (H0 : Heap) (hC0 : Conf X Γ H0) (h0 : Nat) (g0 : Γ h0 = some 36) : Ctr l X Γ yX9_sumOf cX9_sumOf 6 (some .int) 0 [.ref h0] H0 (QI X Γ (fun v H1 => H1 = H0 ∧ (True))) := by
  refine q_enterI (own := "SnowForts$Yard") (by decide) rfl (Nat.le_of_ble_eq_true rfl) ?_
  intro p e s m args below meth c ls Qz E hl ret hS0
  have hx := E.1; have hb := E.2.1
  have hl : lv_has ls 6 [(0, .ref h0)] := hl
  refine lv_iconst (v := 0) hx hb dX9_sumOf_0 rfl ?_
  refine lv_istore_n hx hb dX9_sumOf_1 rfl hl (by decide) rfl (fun ls hl => ?_)
  replace hl : lv_has ls 6 [(1, .int 0), (0, .ref h0)] := hl
  refine lv_aload_n hx hb dX9_sumOf_2 rfl (lv_at hl 1 rfl) ?_
  refine lv_astore_n hx hb dX9_sumOf_3 rfl hl (by decide) rfl (fun ls hl => ?_)
  replace hl : lv_has ls 6 [(2, .ref h0), (1, .int 0), (0, .ref h0)] := hl
  refine lv_aload_n hx hb dX9_sumOf_4 rfl (lv_at hl 0 rfl) ?_
  refine q_alen E hC0 g0 rfl rfl rfl (v := 36) rfl dX9_sumOf_5 ?_
  refine lv_istore_n hx hb dX9_sumOf_6 rfl hl (by decide) rfl (fun ls hl => ?_)
  replace hl : lv_has ls 6 [(3, .int 36), (2, .ref h0), (1, .int 0), (0, .ref h0)] := hl
  refine lv_iconst (v := 0) hx hb dX9_sumOf_7 rfl ?_
  refine lv_istore hx hb dX9_sumOf_8 hl (by decide) rfl (fun ls hl => ?_)
  replace hl : lv_has ls 6 [(4, .int 0), (3, .int 36), (2, .ref h0), (1, .int 0), (0, .ref h0)] := hl
  have L10 : ∀ (n23 : Nat) (locs23 : List Loc) (v21 : Int32) (z21 : Int) (v22 : Int32) (z22 : Int) (ls : Array Slot), (36 - z21).toNat < n23 → v21.toInt = z21 → v22.toInt = z22 → z21 ≤ 36 → 0 ≤ z21 → va_S (AΓ Γ) H0 H0 locs23 → lv_has ls 6 [(4, .int v21), (3, .int 36), (2, .ref h0), (1, .int v22), (0, .ref h0)] → W p l e (rmL 0) s m args below meth c H0 locs23 0 0 Qz (F0 m 10 ls []) := by
    intro n23
    induction n23 with
    | zero => intro locs23 v21 z21 v22 z22 ls hm23 ev21 ev22 iv23_0 iv23_1 hS23 hl; exact absurd hm23 (Nat.not_lt_zero _)
    | succ n23 ih23 =>
      intro locs23 v21 z21 v22 z22 ls hm23 ev21 ev22 iv23_0 iv23_1 hS23 hl
      refine lv_iload hx hb dX9_sumOf_10 (lv_at hl 0 rfl) ?_
      refine lv_iload_n hx hb dX9_sumOf_12 rfl (lv_at hl 1 rfl) ?_
      refine q_icmp_ge hx hb (a := z21) (b := 36) ev21 (by decide) (tgt := 33) dX9_sumOf_13 rfl (fun c24 => ?_) (fun c24 => ?_)
      · refine lv_iload_n hx hb dX9_sumOf_33 rfl (lv_at hl 3 rfl) ?_
        exact ret v22 H0 locs23 _ _ dX9_sumOf_34 ⟨rfl, trivial⟩ hC0 hS23
      · refine lv_aload_n hx hb dX9_sumOf_16 rfl (lv_at hl 2 rfl) ?_
        refine lv_iload hx hb dX9_sumOf_17 (lv_at hl 0 rfl) ?_
        refine q_iald E hC0 g0 rfl rfl (fun _ h => h) (i_in (a := z21) ev21 (by omega) (by omega)) dX9_sumOf_19 (fun v25 ev25 _ _ => ?_)
        refine lv_istore hx hb dX9_sumOf_20 hl (by decide) rfl (fun ls hl => ?_)
        replace hl : lv_has ls 6 [(5, .int v25), (4, .int v21), (3, .int 36), (2, .ref h0), (1, .int v22), (0, .ref h0)] := hl
        refine lv_iload_n hx hb dX9_sumOf_22 rfl (lv_at hl 4 rfl) ?_
        refine lv_iload hx hb dX9_sumOf_23 (lv_at hl 0 rfl) ?_
        refine lv_iadd hx hb dX9_sumOf_25 (lv_topi (fun v26 ev26 => ?_))
        refine lv_istore_n hx hb dX9_sumOf_26 rfl hl (by decide) rfl (fun ls hl => ?_)
        replace hl : lv_has ls 6 [(1, .int v26), (5, .int v25), (4, .int v21), (3, .int 36), (2, .ref h0), (0, .ref h0)] := hl
        obtain ⟨v27, ev27⟩ : ∃ z, z = v21 + Int32.ofInt 1 := ⟨_, rfl⟩
        have ev27i : v27.toInt = (z21 + 1) := i_add ev27 ev21 (by decide) (by omega) (by omega)
        refine lv_iinc hx hb dX9_sumOf_27 hl (k := 2) rfl ev27.symm (by decide) rfl (fun ls hl => ?_)
        replace hl : lv_has ls 6 [(4, .int v27), (1, .int v26), (5, .int v25), (3, .int 36), (2, .ref h0), (0, .ref h0)] := hl
        refine lv_goto (tgt := 10) hx hb dX9_sumOf_30 rfl ?_
        exact ih23 locs23 v27 ((z21 + 1)) v26 (v26.toInt) ls (by omega) ev27i rfl (by omega) (by omega) hS23 (lv_sub hl [0, 3, 4, 1, 5] rfl)
  exact L10 _ [] 0 0 0 0 ls (Nat.lt_succ_self _) (by decide) (by decide) (by omega) (by omega) hS0 hl
set_option maxRecDepth 100000 in
set_option maxHeartbeats 4000000 in
theorem m_X9_tell (l : Launch) (X : xW) (Γ : Nat → Option Nat) (H0 : Heap) (hC0 : Conf X Γ H0) (h0 : Nat) (g0 : Γ h0 = some 5) (p1 : Int32) {a1 : Int} (e1 : p1.toInt = a1) : Ctr l X Γ yX9_tell cX9_tell 2 (some .int) 1 [.ref h0, .int p1] H0 (QI X Γ (fun v H1 => H1 = H0 ∧ (True))) := by
  refine q_enterI (own := "SnowForts$Yard") (by decide) rfl (Nat.le_of_ble_eq_true rfl) ?_
  intro p e s m args below meth c ls Qz E hl ret hS0
  have hx := E.1; have hb := E.2.1
  have hl : lv_has ls 2 [(0, .ref h0), (1, .int p1)] := hl
  refine lv_iload_n hx hb dX9_tell_0 rfl (lv_at hl 1 rfl) ?_
  by_cases c21_0 : a1 = 0
  · have c21_x := (show p1.toInt = a1 from e1).trans c21_0
    refine lv_tableIn hx hb dX9_tell_1 (by rw [c21_x]; decide) (by rw [c21_x]; decide) (off := 51) (by rw [c21_x]; rfl) (tgt := 52) rfl ?_
    refine lv_aload_n hx hb dX9_tell_52 rfl (lv_at hl 0 rfl) ?_
    refine q_getI E hC0 g0 fa_RX9_9 dX9_tell_53 (fun v22 ev22 _ _ => ?_)
    exact ret v22 H0 [] _ _ dX9_tell_56 ⟨rfl, trivial⟩ hC0 hS0
  by_cases c21_1 : a1 = 1
  · have c21_x := (show p1.toInt = a1 from e1).trans c21_1
    refine lv_tableIn hx hb dX9_tell_1 (by rw [c21_x]; decide) (by rw [c21_x]; decide) (off := 56) (by rw [c21_x]; rfl) (tgt := 57) rfl ?_
    refine lv_aload_n hx hb dX9_tell_57 rfl (lv_at hl 0 rfl) ?_
    refine q_getI E hC0 g0 fa_RX9_15 dX9_tell_58 (fun v23 ev23 _ _ => ?_)
    exact ret v23 H0 [] _ _ dX9_tell_61 ⟨rfl, trivial⟩ hC0 hS0
  by_cases c21_2 : a1 = 2
  · have c21_x := (show p1.toInt = a1 from e1).trans c21_2
    refine lv_tableIn hx hb dX9_tell_1 (by rw [c21_x]; decide) (by rw [c21_x]; decide) (off := 61) (by rw [c21_x]; rfl) (tgt := 62) rfl ?_
    refine lv_aload_n hx hb dX9_tell_62 rfl (lv_at hl 0 rfl) ?_
    refine q_getI E hC0 g0 fa_RX9_52 dX9_tell_63 (fun v24 ev24 _ _ => ?_)
    exact ret v24 H0 [] _ _ dX9_tell_66 ⟨rfl, trivial⟩ hC0 hS0
  by_cases c21_3 : a1 = 3
  · have c21_x := (show p1.toInt = a1 from e1).trans c21_3
    refine lv_tableIn hx hb dX9_tell_1 (by rw [c21_x]; decide) (by rw [c21_x]; decide) (off := 66) (by rw [c21_x]; rfl) (tgt := 67) rfl ?_
    refine lv_aload_n hx hb dX9_tell_67 rfl (lv_at hl 0 rfl) ?_
    refine q_getI E hC0 g0 fa_RX9_55 dX9_tell_68 (fun v25 ev25 _ _ => ?_)
    exact ret v25 H0 [] _ _ dX9_tell_71 ⟨rfl, trivial⟩ hC0 hS0
  by_cases c21_4 : a1 = 4
  · have c21_x := (show p1.toInt = a1 from e1).trans c21_4
    refine lv_tableIn hx hb dX9_tell_1 (by rw [c21_x]; decide) (by rw [c21_x]; decide) (off := 71) (by rw [c21_x]; rfl) (tgt := 72) rfl ?_
    refine lv_aload_n hx hb dX9_tell_72 rfl (lv_at hl 0 rfl) ?_
    refine q_goIp (q_runV (As := []) (rest := []) E hC0 hS0 (m_X9_allBreaches l X Γ H0 hC0 h0 g0) cw_X9_allBreaches cl_RX9_91 g0 ⟨rfl, rfl⟩ rfl hl.1 rfl (Nat.zero_le _) (by decide) dX9_tell_73) hS0 (fun v26 locs26 hr26 hS26 => ?_)
    exact ret v26 H0 locs26 _ _ dX9_tell_76 ⟨rfl, trivial⟩ hC0 hS26
  by_cases c21_5 : a1 = 5
  · have c21_x := (show p1.toInt = a1 from e1).trans c21_5
    refine lv_tableIn hx hb dX9_tell_1 (by rw [c21_x]; decide) (by rw [c21_x]; decide) (off := 76) (by rw [c21_x]; rfl) (tgt := 77) rfl ?_
    refine lv_aload_n hx hb dX9_tell_77 rfl (lv_at hl 0 rfl) ?_
    refine q_getR E hC0 g0 fa_RX9_34 dX9_tell_78 (fun q27 eq27 gq27 => ?_)
    refine q_goIp (q_runS (As := [.ref q27]) (rest := []) E hS0 (m_X9_sumOf l X Γ H0 hC0 q27 gq27) cw_X9_sumOf cl_RX9_95 rfl hl.1 rfl (Nat.zero_le _) (by decide) dX9_tell_81) hS0 (fun v28 locs28 hr28 hS28 => ?_)
    exact ret v28 H0 locs28 _ _ dX9_tell_84 ⟨rfl, trivial⟩ hC0 hS28
  by_cases c21_6 : a1 = 6
  · have c21_x := (show p1.toInt = a1 from e1).trans c21_6
    refine lv_tableIn hx hb dX9_tell_1 (by rw [c21_x]; decide) (by rw [c21_x]; decide) (off := 84) (by rw [c21_x]; rfl) (tgt := 85) rfl ?_
    refine lv_aload_n hx hb dX9_tell_85 rfl (lv_at hl 0 rfl) ?_
    refine q_getR E hC0 g0 fa_RX9_37 dX9_tell_86 (fun q29 eq29 gq29 => ?_)
    refine q_goIp (q_runS (As := [.ref q29]) (rest := []) E hS0 (m_X9_sumOf l X Γ H0 hC0 q29 gq29) cw_X9_sumOf cl_RX9_95 rfl hl.1 rfl (Nat.zero_le _) (by decide) dX9_tell_89) hS0 (fun v30 locs30 hr30 hS30 => ?_)
    exact ret v30 H0 locs30 _ _ dX9_tell_92 ⟨rfl, trivial⟩ hC0 hS30
  by_cases c21_7 : a1 = 7
  · have c21_x := (show p1.toInt = a1 from e1).trans c21_7
    refine lv_tableIn hx hb dX9_tell_1 (by rw [c21_x]; decide) (by rw [c21_x]; decide) (off := 92) (by rw [c21_x]; rfl) (tgt := 93) rfl ?_
    refine lv_aload_n hx hb dX9_tell_93 rfl (lv_at hl 0 rfl) ?_
    refine q_getI E hC0 g0 fa_RX9_58 dX9_tell_94 (fun v31 ev31 _ _ => ?_)
    exact ret v31 H0 [] _ _ dX9_tell_97 ⟨rfl, trivial⟩ hC0 hS0
  by_cases c21_8 : a1 = 8
  · have c21_x := (show p1.toInt = a1 from e1).trans c21_8
    refine lv_tableIn hx hb dX9_tell_1 (by rw [c21_x]; decide) (by rw [c21_x]; decide) (off := 97) (by rw [c21_x]; rfl) (tgt := 98) rfl ?_
    refine lv_aload_n hx hb dX9_tell_98 rfl (lv_at hl 0 rfl) ?_
    refine q_getI E hC0 g0 fa_RX9_61 dX9_tell_99 (fun v32 ev32 _ _ => ?_)
    exact ret v32 H0 [] _ _ dX9_tell_102 ⟨rfl, trivial⟩ hC0 hS0
  refine lv_tableOut hx hb dX9_tell_1 (by rw [show p1.toInt = a1 from e1]; omega) (tgt := 103) rfl ?_
  refine lv_aload_n hx hb dX9_tell_103 rfl (lv_at hl 0 rfl) ?_
  refine q_getI E hC0 g0 fa_RX9_64 dX9_tell_104 (fun v33 ev33 _ _ => ?_)
  exact ret v33 H0 [] _ _ dX9_tell_107 ⟨rfl, trivial⟩ hC0 hS0
set_option maxRecDepth 100000 in
set_option maxHeartbeats 4000000 in
theorem m_X11_many (l : Launch) (X : xW) (Γ : Nat → Option Nat) (H0 : Heap) (hC0 : Conf X Γ H0) (h0 : Nat) (g0 : Γ h0 = some 0) (p1 : Int32) {a1 : Int} (e1 : p1.toInt = a1) : Ctr l X Γ yX11_many cX11_many 2 (some .int) 2 [.ref h0, .int p1] H0 (QI X Γ (fun v H1 => Kp X Γ [0, 2, 3, 4, 5, 18, 21, 23, 25, 27] H0 H1 ∧ (True))) := by
  refine q_enterI (own := "SnowForts") (by decide) rfl (Nat.le_of_ble_eq_true rfl) ?_
  intro p e s m args below meth c ls Qz E hl ret hS0
  have hx := E.1; have hb := E.2.1
  have hKp0 : Kp X Γ [0, 2, 3, 4, 5, 18, 21, 23, 25, 27] H0 H0 := Kp.rf
  have hl : lv_has ls 2 [(0, .ref h0), (1, .int p1)] := hl
  refine lv_iload_n hx hb dX11_many_0 rfl (lv_at hl 1 rfl) ?_
  refine lv_i2l (v := p1.toInt64) hx hb dX11_many_1 rfl (lv_topl (fun v21 ev21 => ?_))
  have ev21i : v21.toInt = a1 := l_ofi ev21.symm e1
  refine lv_iconst (v := 0) hx hb dX11_many_2 rfl ?_
  refine lv_bipush (v := 9) hx hb dX11_many_3 rfl ?_
  refine q_goIp (q_runS (As := [.long v21, .int 0, .int 9]) (rest := []) E hS0 (m_X11_isWithin l X Γ H0 hC0 v21 (a0 := a1) ev21i 0 (a1 := 0) (by decide) 9 (a2 := 9) (by decide)) cw_X11_isWithin cl_RX11_113 rfl hl.1 rfl (Nat.zero_le _) (by decide) dX11_many_5) hS0 (fun v22 locs22 hr22 hS22 => ?_)
  rcases hr22 with ⟨rfl, f22a0, f22a1⟩ | ⟨rfl, f22b⟩
  · refine q_if_ne hx hb (a := 1) (by decide) (tgt := 17) dX11_many_8 rfl (fun c23 => ?_) (fun c23 => absurd c23 (by omega))
    refine lv_aload_n hx hb dX11_many_17 rfl (lv_at hl 0 rfl) ?_
    refine lv_aload_n hx hb dX11_many_18 rfl (lv_at hl 0 rfl) ?_
    refine q_getR E hC0 g0 fa_RX11_42 dX11_many_19 (fun q24 eq24 gq24 => ?_)
    refine lv_iload_n hx hb dX11_many_22 rfl (lv_at hl 1 rfl) ?_
    refine q_goIp (q_runV (As := [.int p1]) (rest := [.ref h0]) E hC0 hS22 (m_X9_tell l X Γ H0 hC0 q24 gq24 p1 (a1 := a1) e1) cw_X9_tell cl_RX11_206 gq24 ⟨rfl, rfl⟩ rfl hl.1 rfl (show _ ≤ _ from by simp [Value.category]) (by decide) dX11_many_23) hS22 (fun v25 locs25 hr25 hS25 => ?_)
    refine q_goI (q_runV (As := [.int v25]) (rest := []) E hC0 hS25 (m_X11_answer l X Γ H0 hC0 h0 g0 v25 (a1 := v25.toInt) rfl) cw_X11_answer cl_RX11_191 g0 ⟨rfl, rfl⟩ rfl hl.1 rfl (Nat.zero_le _) (by decide) dX11_many_26) hS25 (fun v26 H26 locs26 hr26 hC26 hS26 => ?_)
    obtain ⟨hp26, hr26⟩ := hr26
    have hKp26 := hKp0.tr (hp26.mono rfl)
    have f26_0 := hr26
    exact ret v26 H26 locs26 _ _ dX11_many_29 ⟨hKp26, trivial⟩ hC26 hS26
  · refine q_if_ne hx hb (a := 0) (by decide) (tgt := 17) dX11_many_8 rfl (fun c27 => absurd c27 (by omega)) (fun c27 => ?_)
    refine lv_aload_n hx hb dX11_many_11 rfl (lv_at hl 0 rfl) ?_
    refine lv_iconst (v := 5) hx hb dX11_many_12 rfl ?_
    refine q_goI (q_runV (As := [.int 5]) (rest := []) E hC0 hS22 (m_X11_refuse l X Γ H0 hC0 h0 g0 5 (a1 := 5) (by decide)) cw_X11_refuse cl_RX11_146 g0 ⟨rfl, rfl⟩ rfl hl.1 rfl (Nat.zero_le _) (by decide) dX11_many_13) hS22 (fun v28 H28 locs28 hr28 hC28 hS28 => ?_)
    obtain ⟨hp28, hr28⟩ := hr28
    have hKp28 := hKp0.tr (hp28.mono rfl)
    have f28_0 := hr28
    exact ret v28 H28 locs28 _ _ dX11_many_16 ⟨hKp28, trivial⟩ hC28 hS28
set_option maxRecDepth 100000 in
set_option maxHeartbeats 4000000 in
theorem m_X9_isCell (l : Launch) (X : xW) (Γ : Nat → Option Nat) (H0 : Heap) (hC0 : Conf X Γ H0) (h0 : Nat) (g0 : Γ h0 = some 5) (p1 : Int32) {a1 : Int} (e1 : p1.toInt = a1) (p2 : Int32) {a2 : Int} (e2 : p2.toInt = a2) : Ctr l X Γ yX9_isCell cX9_isCell 3 (some .boolean) 0 [.ref h0, .int p1, .int p2] H0 (QI X Γ (fun v H1 => H1 = H0 ∧ ((v = 1 ∧ (0 ≤ a1 ∧ a1 ≤ 5 ∧ 0 ≤ a2 ∧ a2 ≤ 5)) ∨ (v = 0 ∧ (True))))) := by
  refine q_enterZ (own := "SnowForts$Yard") (by decide) rfl (Nat.le_of_ble_eq_true rfl) ?_
  intro p e s m args below meth c ls Qz E hl ret hS0
  have hx := E.1; have hb := E.2.1
  have hl : lv_has ls 3 [(0, .ref h0), (1, .int p1), (2, .int p2)] := hl
  refine lv_iload_n hx hb dX9_isCell_0 rfl (lv_at hl 1 rfl) ?_
  refine q_if_lt hx hb (a := a1) e1 (tgt := 40) dX9_isCell_1 rfl (fun c21 => ?_) (fun c21 => ?_)
  · refine lv_iconst (v := 0) hx hb dX9_isCell_40 rfl ?_
    exact ret 0 H0 [] _ _ dX9_isCell_41 (Or.inl rfl) ⟨rfl, Or.inr ⟨rfl, trivial⟩⟩ hC0 hS0
  · refine lv_iload_n hx hb dX9_isCell_4 rfl (lv_at hl 1 rfl) ?_
    refine lv_aload_n hx hb dX9_isCell_5 rfl (lv_at hl 0 rfl) ?_
    refine q_getI E hC0 g0 fa_RX9_9 dX9_isCell_6 (fun v22 ev22 _ _ => ?_)
    have c23 := i_rng v22; rw [show v22.toInt = v22.toInt from rfl] at c23
    refine q_icmp_ge hx hb (a := a1) (b := v22.toInt) e1 rfl (tgt := 40) dX9_isCell_9 rfl (fun c24 => ?_) (fun c24 => ?_)
    · refine lv_iconst (v := 0) hx hb dX9_isCell_40 rfl ?_
      exact ret 0 H0 [] _ _ dX9_isCell_41 (Or.inl rfl) ⟨rfl, Or.inr ⟨rfl, trivial⟩⟩ hC0 hS0
    · refine lv_iload_n hx hb dX9_isCell_12 rfl (lv_at hl 1 rfl) ?_
      refine lv_bipush (v := 6) hx hb dX9_isCell_13 rfl ?_
      refine q_icmp_ge hx hb (a := a1) (b := 6) e1 (by decide) (tgt := 40) dX9_isCell_15 rfl (fun c25 => ?_) (fun c25 => ?_)
      · refine lv_iconst (v := 0) hx hb dX9_isCell_40 rfl ?_
        exact ret 0 H0 [] _ _ dX9_isCell_41 (Or.inl rfl) ⟨rfl, Or.inr ⟨rfl, trivial⟩⟩ hC0 hS0
      · refine lv_iload_n hx hb dX9_isCell_18 rfl (lv_at hl 2 rfl) ?_
        refine q_if_lt hx hb (a := a2) e2 (tgt := 40) dX9_isCell_19 rfl (fun c26 => ?_) (fun c26 => ?_)
        · refine lv_iconst (v := 0) hx hb dX9_isCell_40 rfl ?_
          exact ret 0 H0 [] _ _ dX9_isCell_41 (Or.inl rfl) ⟨rfl, Or.inr ⟨rfl, trivial⟩⟩ hC0 hS0
        · refine lv_iload_n hx hb dX9_isCell_22 rfl (lv_at hl 2 rfl) ?_
          refine lv_aload_n hx hb dX9_isCell_23 rfl (lv_at hl 0 rfl) ?_
          refine q_getI E hC0 g0 fa_RX9_15 dX9_isCell_24 (fun v27 ev27 _ _ => ?_)
          have c28 := i_rng v27; rw [show v27.toInt = v27.toInt from rfl] at c28
          refine q_icmp_ge hx hb (a := a2) (b := v27.toInt) e2 rfl (tgt := 40) dX9_isCell_27 rfl (fun c29 => ?_) (fun c29 => ?_)
          · refine lv_iconst (v := 0) hx hb dX9_isCell_40 rfl ?_
            exact ret 0 H0 [] _ _ dX9_isCell_41 (Or.inl rfl) ⟨rfl, Or.inr ⟨rfl, trivial⟩⟩ hC0 hS0
          · refine lv_iload_n hx hb dX9_isCell_30 rfl (lv_at hl 2 rfl) ?_
            refine lv_bipush (v := 6) hx hb dX9_isCell_31 rfl ?_
            refine q_icmp_ge hx hb (a := a2) (b := 6) e2 (by decide) (tgt := 40) dX9_isCell_33 rfl (fun c30 => ?_) (fun c30 => ?_)
            · refine lv_iconst (v := 0) hx hb dX9_isCell_40 rfl ?_
              exact ret 0 H0 [] _ _ dX9_isCell_41 (Or.inl rfl) ⟨rfl, Or.inr ⟨rfl, trivial⟩⟩ hC0 hS0
            · refine lv_iconst (v := 1) hx hb dX9_isCell_36 rfl ?_
              refine lv_goto (tgt := 41) hx hb dX9_isCell_37 rfl ?_
              exact ret 1 H0 [] _ _ dX9_isCell_41 (Or.inr rfl) ⟨rfl, Or.inl ⟨rfl, by omega, by omega, by omega, by omega⟩⟩ hC0 hS0
set_option maxRecDepth 100000 in
set_option maxHeartbeats 4000000 in
theorem m_X9_holds (l : Launch) (X : xW) (Γ : Nat → Option Nat) (H0 : Heap) (hC0 : Conf X Γ H0) (h0 : Nat) (g0 : Γ h0 = some 5) (p1 : Int32) {a1 : Int} (e1 : p1.toInt = a1) : Ctr l X Γ yX9_holds cX9_holds 2 (some .boolean) 1 [.ref h0, .int p1] H0 (QI X Γ (fun v H1 => H1 = H0 ∧ ((v = 1 ∧ (0 ≤ a1 ∧ a1 ≤ 35)) ∨ (v = 0 ∧ (True))))) := by
  refine q_enterZ (own := "SnowForts$Yard") (by decide) rfl (Nat.le_of_ble_eq_true rfl) ?_
  intro p e s m args below meth c ls Qz E hl ret hS0
  have hx := E.1; have hb := E.2.1
  have hl : lv_has ls 2 [(0, .ref h0), (1, .int p1)] := hl
  refine lv_iload_n hx hb dX9_holds_0 rfl (lv_at hl 1 rfl) ?_
  refine q_if_lt hx hb (a := a1) e1 (tgt := 29) dX9_holds_1 rfl (fun c21 => ?_) (fun c21 => ?_)
  · refine lv_iconst (v := 0) hx hb dX9_holds_29 rfl ?_
    exact ret 0 H0 [] _ _ dX9_holds_30 (Or.inl rfl) ⟨rfl, Or.inr ⟨rfl, trivial⟩⟩ hC0 hS0
  · refine lv_iload_n hx hb dX9_holds_4 rfl (lv_at hl 1 rfl) ?_
    refine lv_bipush (v := 36) hx hb dX9_holds_5 rfl ?_
    refine q_icmp_ge hx hb (a := a1) (b := 36) e1 (by decide) (tgt := 29) dX9_holds_7 rfl (fun c22 => ?_) (fun c22 => ?_)
    · refine lv_iconst (v := 0) hx hb dX9_holds_29 rfl ?_
      exact ret 0 H0 [] _ _ dX9_holds_30 (Or.inl rfl) ⟨rfl, Or.inr ⟨rfl, trivial⟩⟩ hC0 hS0
    · refine lv_aload_n hx hb dX9_holds_10 rfl (lv_at hl 0 rfl) ?_
      refine lv_iload_n hx hb dX9_holds_11 rfl (lv_at hl 1 rfl) ?_
      refine lv_bipush (v := 6) hx hb dX9_holds_12 rfl ?_
      refine lv_irem hx hb dX9_holds_14 (by decide) (lv_topi (fun v23 ev23 => ?_))
      have ev23i : v23.toInt = (a1 % 6) := i_rem ev23 e1 (by decide) (by omega) (by decide)
      refine lv_iload_n hx hb dX9_holds_15 rfl (lv_at hl 1 rfl) ?_
      refine lv_bipush (v := 6) hx hb dX9_holds_16 rfl ?_
      refine lv_idiv hx hb dX9_holds_18 (by decide) (lv_topi (fun v24 ev24 => ?_))
      have ev24i : v24.toInt = (a1 / 6) := i_div ev24 e1 (by decide) (by omega) (by decide)
      refine q_goIp (q_runV (As := [.int v23, .int v24]) (rest := []) E hC0 hS0 (m_X9_isCell l X Γ H0 hC0 h0 g0 v23 (a1 := (a1 % 6)) ev23i v24 (a2 := (a1 / 6)) ev24i) cw_X9_isCell cl_RX9_79 g0 ⟨rfl, rfl⟩ rfl hl.1 rfl (Nat.zero_le _) (by decide) dX9_holds_19) hS0 (fun v25 locs25 hr25 hS25 => ?_)
      rcases hr25 with ⟨rfl, f25a0, f25a1, f25a2, f25a3⟩ | ⟨rfl, -⟩
      · refine q_if_eq hx hb (a := 1) (by decide) (tgt := 29) dX9_holds_22 rfl (fun c26 => absurd c26 (by omega)) (fun c26 => ?_)
        refine lv_iconst (v := 1) hx hb dX9_holds_25 rfl ?_
        refine lv_goto (tgt := 30) hx hb dX9_holds_26 rfl ?_
        exact ret 1 H0 locs25 _ _ dX9_holds_30 (Or.inr rfl) ⟨rfl, Or.inl ⟨rfl, by omega, by omega⟩⟩ hC0 hS25
      · refine q_if_eq hx hb (a := 0) (by decide) (tgt := 29) dX9_holds_22 rfl (fun c27 => ?_) (fun c27 => absurd c27 (by omega))
        refine lv_iconst (v := 0) hx hb dX9_holds_29 rfl ?_
        exact ret 0 H0 locs25 _ _ dX9_holds_30 (Or.inl rfl) ⟨rfl, Or.inr ⟨rfl, trivial⟩⟩ hC0 hS25
set_option maxRecDepth 100000 in
set_option maxHeartbeats 4000000 in
theorem m_X9_halfOf (l : Launch) (X : xW) (Γ : Nat → Option Nat) (H0 : Heap) (hC0 : Conf X Γ H0) (h0 : Nat) (g0 : Γ h0 = some 5) (p1 : Int32) {a1 : Int} (e1 : p1.toInt = a1) : Ctr l X Γ yX9_halfOf cX9_halfOf 2 (some .int) 0 [.ref h0, .int p1] H0 (QI X Γ (fun v H1 => H1 = H0 ∧ ((0 ≤ v.toInt) ∧ (v.toInt ≤ 1)))) := by
  refine q_enterI (own := "SnowForts$Yard") (by decide) rfl (Nat.le_of_ble_eq_true rfl) ?_
  intro p e s m args below meth c ls Qz E hl ret hS0
  have hx := E.1; have hb := E.2.1
  have hl : lv_has ls 2 [(0, .ref h0), (1, .int p1)] := hl
  refine lv_iload_n hx hb dX9_halfOf_0 rfl (lv_at hl 1 rfl) ?_
  refine lv_bipush (v := 6) hx hb dX9_halfOf_1 rfl ?_
  refine lv_irem hx hb dX9_halfOf_3 (by decide) (lv_topi (fun v21 ev21 => ?_))
  have ev21b := i_remB ev21 e1 (show (6 : Int32).toInt = 6 from by decide) (by decide)
  refine lv_aload_n hx hb dX9_halfOf_4 rfl (lv_at hl 0 rfl) ?_
  refine q_getI E hC0 g0 fa_RX9_9 dX9_halfOf_5 (fun v22 ev22 _ _ => ?_)
  refine lv_iconst (v := 2) hx hb dX9_halfOf_8 rfl ?_
  refine lv_idiv hx hb dX9_halfOf_9 (by decide) (lv_topi (fun v23 ev23 => ?_))
  have c24 := i_rng v23; rw [show v23.toInt = v23.toInt from rfl] at c24
  refine q_icmp_ge hx hb (a := v21.toInt) (b := v23.toInt) rfl rfl (tgt := 17) dX9_halfOf_10 rfl (fun c25 => ?_) (fun c25 => ?_)
  · refine lv_iconst (v := 1) hx hb dX9_halfOf_17 rfl ?_
    have c26 : (1 : Int32).toInt = 1 := (by decide)
    exact ret 1 H0 [] _ _ dX9_halfOf_18 ⟨rfl, ⟨by omega, by omega⟩⟩ hC0 hS0
  · refine lv_iconst (v := 0) hx hb dX9_halfOf_13 rfl ?_
    refine lv_goto (tgt := 18) hx hb dX9_halfOf_14 rfl ?_
    have c27 : (0 : Int32).toInt = 0 := (by decide)
    exact ret 0 H0 [] _ _ dX9_halfOf_18 ⟨rfl, ⟨by omega, by omega⟩⟩ hC0 hS0
set_option maxRecDepth 100000 in
set_option maxHeartbeats 4000000 in
theorem m_X9_tellCell (l : Launch) (X : xW) (Γ : Nat → Option Nat) (H0 : Heap) (hC0 : Conf X Γ H0) (h0 : Nat) (g0 : Γ h0 = some 5) (p1 : Int32) {a1 : Int} (e1 : p1.toInt = a1) (p2 : Int32) {a2 : Int} (e2 : p2.toInt = a2) : Ctr l X Γ yX9_tellCell cX9_tellCell 3 (some .int) 2 [.ref h0, .int p1, .int p2] H0 (QI X Γ (fun v H1 => H1 = H0 ∧ (True))) := by
  refine q_enterI (own := "SnowForts$Yard") (by decide) rfl (Nat.le_of_ble_eq_true rfl) ?_
  intro p e s m args below meth c ls Qz E hl ret hS0
  have hx := E.1; have hb := E.2.1
  have hl : lv_has ls 3 [(0, .ref h0), (1, .int p1), (2, .int p2)] := hl
  refine lv_aload_n hx hb dX9_tellCell_0 rfl (lv_at hl 0 rfl) ?_
  refine lv_iload_n hx hb dX9_tellCell_1 rfl (lv_at hl 1 rfl) ?_
  refine q_goIp (q_runV (As := [.int p1]) (rest := []) E hC0 hS0 (m_X9_holds l X Γ H0 hC0 h0 g0 p1 (a1 := a1) e1) cw_X9_holds cl_RX9_99 g0 ⟨rfl, rfl⟩ rfl hl.1 rfl (Nat.zero_le _) (by decide) dX9_tellCell_2) hS0 (fun v21 locs21 hr21 hS21 => ?_)
  rcases hr21 with ⟨rfl, f21a0, f21a1⟩ | ⟨rfl, -⟩
  · refine q_if_ne hx hb (a := 1) (by decide) (tgt := 10) dX9_tellCell_5 rfl (fun c22 => ?_) (fun c22 => absurd c22 (by omega))
    refine lv_iload_n hx hb dX9_tellCell_10 rfl (lv_at hl 2 rfl) ?_
    by_cases c23_0 : a2 = 0
    · have c23_x := (show p2.toInt = a2 from e2).trans c23_0
      refine lv_tableIn hx hb dX9_tellCell_11 (by rw [c23_x]; decide) (by rw [c23_x]; decide) (off := 33) (by rw [c23_x]; rfl) (tgt := 44) rfl ?_
      refine lv_aload_n hx hb dX9_tellCell_44 rfl (lv_at hl 0 rfl) ?_
      refine q_getR E hC0 g0 fa_RX9_34 dX9_tellCell_45 (fun q24 eq24 gq24 => ?_)
      refine lv_iload_n hx hb dX9_tellCell_48 rfl (lv_at hl 1 rfl) ?_
      refine q_iald E hC0 gq24 rfl rfl (fun _ h => h) (i_in (a := a1) e1 (by omega) (by omega)) dX9_tellCell_49 (fun v25 ev25 _ _ => ?_)
      exact ret v25 H0 locs21 _ _ dX9_tellCell_50 ⟨rfl, trivial⟩ hC0 hS21
    by_cases c23_1 : a2 = 1
    · have c23_x := (show p2.toInt = a2 from e2).trans c23_1
      refine lv_tableIn hx hb dX9_tellCell_11 (by rw [c23_x]; decide) (by rw [c23_x]; decide) (off := 40) (by rw [c23_x]; rfl) (tgt := 51) rfl ?_
      refine lv_aload_n hx hb dX9_tellCell_51 rfl (lv_at hl 0 rfl) ?_
      refine q_getR E hC0 g0 fa_RX9_37 dX9_tellCell_52 (fun q26 eq26 gq26 => ?_)
      refine lv_iload_n hx hb dX9_tellCell_55 rfl (lv_at hl 1 rfl) ?_
      refine q_iald E hC0 gq26 rfl rfl (fun _ h => h) (i_in (a := a1) e1 (by omega) (by omega)) dX9_tellCell_56 (fun v27 ev27 _ _ => ?_)
      exact ret v27 H0 locs21 _ _ dX9_tellCell_57 ⟨rfl, trivial⟩ hC0 hS21
    by_cases c23_2 : a2 = 2
    · have c23_x := (show p2.toInt = a2 from e2).trans c23_2
      refine lv_tableIn hx hb dX9_tellCell_11 (by rw [c23_x]; decide) (by rw [c23_x]; decide) (off := 47) (by rw [c23_x]; rfl) (tgt := 58) rfl ?_
      refine lv_aload_n hx hb dX9_tellCell_58 rfl (lv_at hl 0 rfl) ?_
      refine q_getR E hC0 g0 fa_RX9_40 dX9_tellCell_59 (fun q28 eq28 gq28 => ?_)
      refine lv_iload_n hx hb dX9_tellCell_62 rfl (lv_at hl 1 rfl) ?_
      refine q_iald E hC0 gq28 rfl rfl (fun _ h => h) (i_in (a := a1) e1 (by omega) (by omega)) dX9_tellCell_63 (fun v29 ev29 _ _ => ?_)
      exact ret v29 H0 locs21 _ _ dX9_tellCell_64 ⟨rfl, trivial⟩ hC0 hS21
    by_cases c23_3 : a2 = 3
    · have c23_x := (show p2.toInt = a2 from e2).trans c23_3
      refine lv_tableIn hx hb dX9_tellCell_11 (by rw [c23_x]; decide) (by rw [c23_x]; decide) (off := 54) (by rw [c23_x]; rfl) (tgt := 65) rfl ?_
      refine lv_aload_n hx hb dX9_tellCell_65 rfl (lv_at hl 0 rfl) ?_
      refine q_getR E hC0 g0 fa_RX9_43 dX9_tellCell_66 (fun q30 eq30 gq30 => ?_)
      refine lv_iload_n hx hb dX9_tellCell_69 rfl (lv_at hl 1 rfl) ?_
      refine q_iald E hC0 gq30 rfl rfl (fun _ h => h) (i_in (a := a1) e1 (by omega) (by omega)) dX9_tellCell_70 (fun v31 ev31 _ _ => ?_)
      exact ret v31 H0 locs21 _ _ dX9_tellCell_71 ⟨rfl, trivial⟩ hC0 hS21
    by_cases c23_4 : a2 = 4
    · have c23_x := (show p2.toInt = a2 from e2).trans c23_4
      refine lv_tableIn hx hb dX9_tellCell_11 (by rw [c23_x]; decide) (by rw [c23_x]; decide) (off := 61) (by rw [c23_x]; rfl) (tgt := 72) rfl ?_
      refine lv_aload_n hx hb dX9_tellCell_72 rfl (lv_at hl 0 rfl) ?_
      refine lv_iload_n hx hb dX9_tellCell_73 rfl (lv_at hl 1 rfl) ?_
      refine q_goIp (q_runV (As := [.int p1]) (rest := []) E hC0 hS21 (m_X9_halfOf l X Γ H0 hC0 h0 g0 p1 (a1 := a1) e1) cw_X9_halfOf cl_RX9_102 g0 ⟨rfl, rfl⟩ rfl hl.1 rfl (Nat.zero_le _) (by decide) dX9_tellCell_74) hS21 (fun v32 locs32 hr32 hS32 => ?_)
      obtain ⟨f32_0, f32_1⟩ := hr32
      exact ret v32 H0 locs32 _ _ dX9_tellCell_77 ⟨rfl, trivial⟩ hC0 hS32
    refine lv_tableOut hx hb dX9_tellCell_11 (by rw [show p2.toInt = a2 from e2]; omega) (tgt := 78) rfl ?_
    refine lv_aload_n hx hb dX9_tellCell_78 rfl (lv_at hl 0 rfl) ?_
    refine q_getR E hC0 g0 fa_RX9_46 dX9_tellCell_79 (fun q33 eq33 gq33 => ?_)
    refine lv_iload_n hx hb dX9_tellCell_82 rfl (lv_at hl 1 rfl) ?_
    refine q_iald E hC0 gq33 rfl rfl (fun _ h => h) (i_in (a := a1) e1 (by omega) (by omega)) dX9_tellCell_83 (fun v34 ev34 _ _ => ?_)
    exact ret v34 H0 locs21 _ _ dX9_tellCell_84 ⟨rfl, trivial⟩ hC0 hS21
  · refine q_if_ne hx hb (a := 0) (by decide) (tgt := 10) dX9_tellCell_5 rfl (fun c35 => absurd c35 (by omega)) (fun c35 => ?_)
    refine lv_iconst (v := (-1)) hx hb dX9_tellCell_8 rfl ?_
    exact ret (-1) H0 locs21 _ _ dX9_tellCell_9 ⟨rfl, trivial⟩ hC0 hS21
set_option maxRecDepth 100000 in
set_option maxHeartbeats 4000000 in
theorem m_X11_cell (l : Launch) (X : xW) (Γ : Nat → Option Nat) (H0 : Heap) (hC0 : Conf X Γ H0) (h0 : Nat) (g0 : Γ h0 = some 0) (p1 : Int32) {a1 : Int} (e1 : p1.toInt = a1) (p2 : Int32) {a2 : Int} (e2 : p2.toInt = a2) (p3 : Int32) {a3 : Int} (e3 : p3.toInt = a3) : Ctr l X Γ yX11_cell cX11_cell 4 (some .int) 3 [.ref h0, .int p1, .int p2, .int p3] H0 (QI X Γ (fun v H1 => Kp X Γ [0, 2, 3, 4, 5, 18, 21, 23, 25, 27] H0 H1 ∧ (True))) := by
  refine q_enterI (own := "SnowForts") (by decide) rfl (Nat.le_of_ble_eq_true rfl) ?_
  intro p e s m args below meth c ls Qz E hl ret hS0
  have hx := E.1; have hb := E.2.1
  have hKp0 : Kp X Γ [0, 2, 3, 4, 5, 18, 21, 23, 25, 27] H0 H0 := Kp.rf
  have hl : lv_has ls 4 [(0, .ref h0), (1, .int p1), (2, .int p2), (3, .int p3)] := hl
  refine lv_aload_n hx hb dX11_cell_0 rfl (lv_at hl 0 rfl) ?_
  refine q_getR E hC0 g0 fa_RX11_42 dX11_cell_1 (fun q21 eq21 gq21 => ?_)
  refine lv_iload_n hx hb dX11_cell_4 rfl (lv_at hl 1 rfl) ?_
  refine lv_iload_n hx hb dX11_cell_5 rfl (lv_at hl 2 rfl) ?_
  refine q_goIp (q_runV (As := [.int p1, .int p2]) (rest := []) E hC0 hS0 (m_X9_isCell l X Γ H0 hC0 q21 gq21 p1 (a1 := a1) e1 p2 (a2 := a2) e2) cw_X9_isCell cl_RX11_209 gq21 ⟨rfl, rfl⟩ rfl hl.1 rfl (Nat.zero_le _) (by decide) dX11_cell_6) hS0 (fun v22 locs22 hr22 hS22 => ?_)
  rcases hr22 with ⟨rfl, f22a0, f22a1, f22a2, f22a3⟩ | ⟨rfl, -⟩
  · refine q_if_ne hx hb (a := 1) (by decide) (tgt := 18) dX11_cell_9 rfl (fun c23 => ?_) (fun c23 => absurd c23 (by omega))
    refine lv_iload_n hx hb dX11_cell_18 rfl (lv_at hl 3 rfl) ?_
    refine lv_i2l (v := p3.toInt64) hx hb dX11_cell_19 rfl (lv_topl (fun v24 ev24 => ?_))
    have ev24i : v24.toInt = a3 := l_ofi ev24.symm e3
    refine lv_iconst (v := 0) hx hb dX11_cell_20 rfl ?_
    refine lv_iconst (v := 5) hx hb dX11_cell_21 rfl ?_
    refine q_goIp (q_runS (As := [.long v24, .int 0, .int 5]) (rest := []) E hS22 (m_X11_isWithin l X Γ H0 hC0 v24 (a0 := a3) ev24i 0 (a1 := 0) (by decide) 5 (a2 := 5) (by decide)) cw_X11_isWithin cl_RX11_113 rfl hl.1 rfl (Nat.zero_le _) (by decide) dX11_cell_22) hS22 (fun v25 locs25 hr25 hS25 => ?_)
    rcases hr25 with ⟨rfl, f25a0, f25a1⟩ | ⟨rfl, f25b⟩
    · refine q_if_ne hx hb (a := 1) (by decide) (tgt := 34) dX11_cell_25 rfl (fun c26 => ?_) (fun c26 => absurd c26 (by omega))
      refine lv_aload_n hx hb dX11_cell_34 rfl (lv_at hl 0 rfl) ?_
      refine lv_aload_n hx hb dX11_cell_35 rfl (lv_at hl 0 rfl) ?_
      refine q_getR E hC0 g0 fa_RX11_42 dX11_cell_36 (fun q27 eq27 gq27 => ?_)
      refine lv_iload_n hx hb dX11_cell_39 rfl (lv_at hl 2 rfl) ?_
      refine lv_bipush (v := 6) hx hb dX11_cell_40 rfl ?_
      refine lv_imul hx hb dX11_cell_42 (lv_topi (fun v28 ev28 => ?_))
      have ev28i : v28.toInt = (a2 * 6) := i_mul ev28 e2 (by decide) (by omega) (by omega)
      refine lv_iload_n hx hb dX11_cell_43 rfl (lv_at hl 1 rfl) ?_
      refine lv_iadd hx hb dX11_cell_44 (lv_topi (fun v29 ev29 => ?_))
      have ev29i : v29.toInt = ((a2 * 6) + a1) := i_add ev29 ev28i e1 (by omega) (by omega)
      refine lv_iload_n hx hb dX11_cell_45 rfl (lv_at hl 3 rfl) ?_
      refine q_goIp (q_runV (As := [.int v29, .int p3]) (rest := [.ref h0]) E hC0 hS25 (m_X9_tellCell l X Γ H0 hC0 q27 gq27 v29 (a1 := ((a2 * 6) + a1)) ev29i p3 (a2 := a3) e3) cw_X9_tellCell cl_RX11_212 gq27 ⟨rfl, rfl⟩ rfl hl.1 rfl (show _ ≤ _ from by simp [Value.category]) (by decide) dX11_cell_46) hS25 (fun v30 locs30 hr30 hS30 => ?_)
      refine q_goI (q_runV (As := [.int v30]) (rest := []) E hC0 hS30 (m_X11_answer l X Γ H0 hC0 h0 g0 v30 (a1 := v30.toInt) rfl) cw_X11_answer cl_RX11_191 g0 ⟨rfl, rfl⟩ rfl hl.1 rfl (Nat.zero_le _) (by decide) dX11_cell_49) hS30 (fun v31 H31 locs31 hr31 hC31 hS31 => ?_)
      obtain ⟨hp31, hr31⟩ := hr31
      have hKp31 := hKp0.tr (hp31.mono rfl)
      have f31_0 := hr31
      exact ret v31 H31 locs31 _ _ dX11_cell_52 ⟨hKp31, trivial⟩ hC31 hS31
    · refine q_if_ne hx hb (a := 0) (by decide) (tgt := 34) dX11_cell_25 rfl (fun c32 => absurd c32 (by omega)) (fun c32 => ?_)
      refine lv_aload_n hx hb dX11_cell_28 rfl (lv_at hl 0 rfl) ?_
      refine lv_iconst (v := 5) hx hb dX11_cell_29 rfl ?_
      refine q_goI (q_runV (As := [.int 5]) (rest := []) E hC0 hS25 (m_X11_refuse l X Γ H0 hC0 h0 g0 5 (a1 := 5) (by decide)) cw_X11_refuse cl_RX11_146 g0 ⟨rfl, rfl⟩ rfl hl.1 rfl (Nat.zero_le _) (by decide) dX11_cell_30) hS25 (fun v33 H33 locs33 hr33 hC33 hS33 => ?_)
      obtain ⟨hp33, hr33⟩ := hr33
      have hKp33 := hKp0.tr (hp33.mono rfl)
      have f33_0 := hr33
      exact ret v33 H33 locs33 _ _ dX11_cell_33 ⟨hKp33, trivial⟩ hC33 hS33
  · refine q_if_ne hx hb (a := 0) (by decide) (tgt := 18) dX11_cell_9 rfl (fun c34 => absurd c34 (by omega)) (fun c34 => ?_)
    refine lv_aload_n hx hb dX11_cell_12 rfl (lv_at hl 0 rfl) ?_
    refine lv_iconst (v := 2) hx hb dX11_cell_13 rfl ?_
    refine q_goI (q_runV (As := [.int 2]) (rest := []) E hC0 hS22 (m_X11_refuse l X Γ H0 hC0 h0 g0 2 (a1 := 2) (by decide)) cw_X11_refuse cl_RX11_146 g0 ⟨rfl, rfl⟩ rfl hl.1 rfl (Nat.zero_le _) (by decide) dX11_cell_14) hS22 (fun v35 H35 locs35 hr35 hC35 hS35 => ?_)
    obtain ⟨hp35, hr35⟩ := hr35
    have hKp35 := hKp0.tr (hp35.mono rfl)
    have f35_0 := hr35
    exact ret v35 H35 locs35 _ _ dX11_cell_17 ⟨hKp35, trivial⟩ hC35 hS35
set_option maxRecDepth 100000 in
set_option maxHeartbeats 4000000 in
theorem m_X9_isIn (l : Launch) (X : xW) (Γ : Nat → Option Nat) (H0 : Heap) (hC0 : Conf X Γ H0) (h0 : Nat) (g0 : Γ h0 = some 5) (p1 : Int32) {a1 : Int} (e1 : p1.toInt = a1) (p2 : Int32) {a2 : Int} (e2 : p2.toInt = a2) : Ctr l X Γ yX9_isIn cX9_isIn 5 (some .boolean) 0 [.ref h0, .int p1, .int p2] H0 (QI X Γ (fun v H1 => H1 = H0 ∧ (v = 0 ∨ v = 1))) := by
  refine q_enterZ (own := "SnowForts$Yard") (by decide) rfl (Nat.le_of_ble_eq_true rfl) ?_
  intro p e s m args below meth c ls Qz E hl ret hS0
  have hx := E.1; have hb := E.2.1
  have hl : lv_has ls 5 [(0, .ref h0), (1, .int p1), (2, .int p2)] := hl
  refine lv_iload_n hx hb dX9_isIn_0 rfl (lv_at hl 2 rfl) ?_
  refine lv_bipush (v := 6) hx hb dX9_isIn_1 rfl ?_
  refine lv_irem hx hb dX9_isIn_3 (by decide) (lv_topi (fun v21 ev21 => ?_))
  have ev21b := i_remB ev21 e2 (show (6 : Int32).toInt = 6 from by decide) (by decide)
  refine lv_istore_n hx hb dX9_isIn_4 rfl hl (by decide) rfl (fun ls hl => ?_)
  replace hl : lv_has ls 5 [(3, .int v21), (0, .ref h0), (1, .int p1), (2, .int p2)] := hl
  refine lv_iload_n hx hb dX9_isIn_5 rfl (lv_at hl 0 rfl) ?_
  refine lv_aload_n hx hb dX9_isIn_6 rfl (lv_at hl 1 rfl) ?_
  refine q_getI E hC0 g0 fa_RX9_9 dX9_isIn_7 (fun v22 ev22 _ _ => ?_)
  refine lv_iconst (v := 2) hx hb dX9_isIn_10 rfl ?_
  refine lv_idiv hx hb dX9_isIn_11 (by decide) (lv_topi (fun v23 ev23 => ?_))
  have c24 := i_rng v23; rw [show v23.toInt = v23.toInt from rfl] at c24
  refine q_icmp_ge hx hb (a := v21.toInt) (b := v23.toInt) rfl rfl (tgt := 19) dX9_isIn_12 rfl (fun c25 => ?_) (fun c25 => ?_)
  · refine lv_iconst (v := 0) hx hb dX9_isIn_19 rfl ?_
    refine lv_istore hx hb dX9_isIn_20 hl (by decide) rfl (fun ls hl => ?_)
    replace hl : lv_has ls 5 [(4, .int 0), (3, .int v21), (0, .ref h0), (1, .int p1), (2, .int p2)] := hl
    refine lv_iload_n hx hb dX9_isIn_22 rfl (lv_at hl 1 rfl) ?_
    refine lv_aload_n hx hb dX9_isIn_23 rfl (lv_at hl 2 rfl) ?_
    refine q_getI E hC0 g0 fa_RX9_9 dX9_isIn_24 (fun v26 ev26 _ _ => ?_)
    have qv26 := ev22.symm.trans ev26; subst qv26
    have c27 := i_rng v22; rw [show v22.toInt = v22.toInt from rfl] at c27
    refine q_icmp_ge hx hb (a := v21.toInt) (b := v22.toInt) rfl rfl (tgt := 59) dX9_isIn_27 rfl (fun c28 => ?_) (fun c28 => ?_)
    · refine lv_iconst (v := 0) hx hb dX9_isIn_59 rfl ?_
      exact ret 0 H0 [] _ _ dX9_isIn_60 (Or.inl rfl) ⟨rfl, Or.inl rfl⟩ hC0 hS0
    · refine lv_iload_n hx hb dX9_isIn_30 rfl (lv_at hl 4 rfl) ?_
      refine lv_bipush (v := 6) hx hb dX9_isIn_31 rfl ?_
      refine lv_idiv hx hb dX9_isIn_33 (by decide) (lv_topi (fun v29 ev29 => ?_))
      refine lv_aload_n hx hb dX9_isIn_34 rfl (lv_at hl 2 rfl) ?_
      refine q_getI E hC0 g0 fa_RX9_15 dX9_isIn_35 (fun v30 ev30 _ _ => ?_)
      have c31 := i_rng v29; rw [show v29.toInt = v29.toInt from rfl] at c31
      have c32 := i_rng v30; rw [show v30.toInt = v30.toInt from rfl] at c32
      refine q_icmp_ge hx hb (a := v29.toInt) (b := v30.toInt) rfl rfl (tgt := 59) dX9_isIn_38 rfl (fun c33 => ?_) (fun c33 => ?_)
      · refine lv_iconst (v := 0) hx hb dX9_isIn_59 rfl ?_
        exact ret 0 H0 [] _ _ dX9_isIn_60 (Or.inl rfl) ⟨rfl, Or.inl rfl⟩ hC0 hS0
      · refine lv_iload hx hb dX9_isIn_41 (lv_at hl 0 rfl) ?_
        refine lv_iload_n hx hb dX9_isIn_43 rfl (lv_at hl 3 rfl) ?_
        refine q_if_ne hx hb (a := a1) e1 (tgt := 51) dX9_isIn_44 rfl (fun c34 => ?_) (fun c34 => ?_)
        · refine lv_iconst (v := 0) hx hb dX9_isIn_51 rfl ?_
          refine q_icmp_ne hx hb (a := 0) (b := 0) (by decide) (by decide) (tgt := 59) dX9_isIn_52 rfl (fun c35 => absurd c35 (by omega)) (fun c35 => ?_)
          refine lv_iconst (v := 1) hx hb dX9_isIn_55 rfl ?_
          refine lv_goto (tgt := 60) hx hb dX9_isIn_56 rfl ?_
          exact ret 1 H0 [] _ _ dX9_isIn_60 (Or.inr rfl) ⟨rfl, Or.inr rfl⟩ hC0 hS0
        · refine lv_iconst (v := 1) hx hb dX9_isIn_47 rfl ?_
          refine lv_goto (tgt := 52) hx hb dX9_isIn_48 rfl ?_
          refine q_icmp_ne hx hb (a := 0) (b := 1) (by decide) (by decide) (tgt := 59) dX9_isIn_52 rfl (fun c36 => ?_) (fun c36 => absurd c36 (by omega))
          refine lv_iconst (v := 0) hx hb dX9_isIn_59 rfl ?_
          exact ret 0 H0 [] _ _ dX9_isIn_60 (Or.inl rfl) ⟨rfl, Or.inl rfl⟩ hC0 hS0
  · refine lv_iconst (v := 1) hx hb dX9_isIn_15 rfl ?_
    refine lv_goto (tgt := 20) hx hb dX9_isIn_16 rfl ?_
    refine lv_istore hx hb dX9_isIn_20 hl (by decide) rfl (fun ls hl => ?_)
    replace hl : lv_has ls 5 [(4, .int 1), (3, .int v21), (0, .ref h0), (1, .int p1), (2, .int p2)] := hl
    refine lv_iload_n hx hb dX9_isIn_22 rfl (lv_at hl 1 rfl) ?_
    refine lv_aload_n hx hb dX9_isIn_23 rfl (lv_at hl 2 rfl) ?_
    refine q_getI E hC0 g0 fa_RX9_9 dX9_isIn_24 (fun v37 ev37 _ _ => ?_)
    have qv37 := ev22.symm.trans ev37; subst qv37
    have c38 := i_rng v22; rw [show v22.toInt = v22.toInt from rfl] at c38
    refine q_icmp_ge hx hb (a := v21.toInt) (b := v22.toInt) rfl rfl (tgt := 59) dX9_isIn_27 rfl (fun c39 => ?_) (fun c39 => ?_)
    · refine lv_iconst (v := 0) hx hb dX9_isIn_59 rfl ?_
      exact ret 0 H0 [] _ _ dX9_isIn_60 (Or.inl rfl) ⟨rfl, Or.inl rfl⟩ hC0 hS0
    · refine lv_iload_n hx hb dX9_isIn_30 rfl (lv_at hl 4 rfl) ?_
      refine lv_bipush (v := 6) hx hb dX9_isIn_31 rfl ?_
      refine lv_idiv hx hb dX9_isIn_33 (by decide) (lv_topi (fun v40 ev40 => ?_))
      refine lv_aload_n hx hb dX9_isIn_34 rfl (lv_at hl 2 rfl) ?_
      refine q_getI E hC0 g0 fa_RX9_15 dX9_isIn_35 (fun v41 ev41 _ _ => ?_)
      have c42 := i_rng v40; rw [show v40.toInt = v40.toInt from rfl] at c42
      have c43 := i_rng v41; rw [show v41.toInt = v41.toInt from rfl] at c43
      refine q_icmp_ge hx hb (a := v40.toInt) (b := v41.toInt) rfl rfl (tgt := 59) dX9_isIn_38 rfl (fun c44 => ?_) (fun c44 => ?_)
      · refine lv_iconst (v := 0) hx hb dX9_isIn_59 rfl ?_
        exact ret 0 H0 [] _ _ dX9_isIn_60 (Or.inl rfl) ⟨rfl, Or.inl rfl⟩ hC0 hS0
      · refine lv_iload hx hb dX9_isIn_41 (lv_at hl 0 rfl) ?_
        refine lv_iload_n hx hb dX9_isIn_43 rfl (lv_at hl 3 rfl) ?_
        refine q_if_ne hx hb (a := a1) e1 (tgt := 51) dX9_isIn_44 rfl (fun c45 => ?_) (fun c45 => ?_)
        · refine lv_iconst (v := 0) hx hb dX9_isIn_51 rfl ?_
          refine q_icmp_ne hx hb (a := 1) (b := 0) (by decide) (by decide) (tgt := 59) dX9_isIn_52 rfl (fun c46 => ?_) (fun c46 => absurd c46 (by omega))
          refine lv_iconst (v := 0) hx hb dX9_isIn_59 rfl ?_
          exact ret 0 H0 [] _ _ dX9_isIn_60 (Or.inl rfl) ⟨rfl, Or.inl rfl⟩ hC0 hS0
        · refine lv_iconst (v := 1) hx hb dX9_isIn_47 rfl ?_
          refine lv_goto (tgt := 52) hx hb dX9_isIn_48 rfl ?_
          refine q_icmp_ne hx hb (a := 1) (b := 1) (by decide) (by decide) (tgt := 59) dX9_isIn_52 rfl (fun c47 => absurd c47 (by omega)) (fun c47 => ?_)
          refine lv_iconst (v := 1) hx hb dX9_isIn_55 rfl ?_
          refine lv_goto (tgt := 60) hx hb dX9_isIn_56 rfl ?_
          exact ret 1 H0 [] _ _ dX9_isIn_60 (Or.inr rfl) ⟨rfl, Or.inr rfl⟩ hC0 hS0
set_option maxRecDepth 100000 in
set_option maxHeartbeats 4000000 in
theorem m_X9_icedCells (l : Launch) (X : xW) (Γ : Nat → Option Nat) (H0 : Heap) (hC0 : Conf X Γ H0) (h0 : Nat) (g0 : Γ h0 = some 5) (p1 : Int32) {a1 : Int} (e1 : p1.toInt = a1) : Ctr l X Γ yX9_icedCells cX9_icedCells 4 (some .int) 1 [.ref h0, .int p1] H0 (QI X Γ (fun v H1 => H1 = H0 ∧ (True))) := by
  refine q_enterI (own := "SnowForts$Yard") (by decide) rfl (Nat.le_of_ble_eq_true rfl) ?_
  intro p e s m args below meth c ls Qz E hl ret hS0
  have hx := E.1; have hb := E.2.1
  have hl : lv_has ls 4 [(0, .ref h0), (1, .int p1)] := hl
  refine lv_iconst (v := 0) hx hb dX9_icedCells_0 rfl ?_
  refine lv_istore_n hx hb dX9_icedCells_1 rfl hl (by decide) rfl (fun ls hl => ?_)
  replace hl : lv_has ls 4 [(2, .int 0), (0, .ref h0), (1, .int p1)] := hl
  refine lv_iconst (v := 0) hx hb dX9_icedCells_2 rfl ?_
  refine lv_istore_n hx hb dX9_icedCells_3 rfl hl (by decide) rfl (fun ls hl => ?_)
  replace hl : lv_has ls 4 [(3, .int 0), (2, .int 0), (0, .ref h0), (1, .int p1)] := hl
  have L4 : ∀ (n23 : Nat) (locs23 : List Loc) (v21 : Int32) (z21 : Int) (v22 : Int32) (z22 : Int) (ls : Array Slot), (36 - z21).toNat < n23 → v21.toInt = z21 → v22.toInt = z22 → z21 ≤ 36 → 0 ≤ z21 → va_S (AΓ Γ) H0 H0 locs23 → lv_has ls 4 [(3, .int v21), (2, .int v22), (0, .ref h0), (1, .int p1)] → W p l e (rmL 1) s m args below meth c H0 locs23 0 0 Qz (F0 m 4 ls []) := by
    intro n23
    induction n23 with
    | zero => intro locs23 v21 z21 v22 z22 ls hm23 ev21 ev22 iv23_0 iv23_1 hS23 hl; exact absurd hm23 (Nat.not_lt_zero _)
    | succ n23 ih23 =>
      intro locs23 v21 z21 v22 z22 ls hm23 ev21 ev22 iv23_0 iv23_1 hS23 hl
      refine lv_iload_n hx hb dX9_icedCells_4 rfl (lv_at hl 0 rfl) ?_
      refine lv_bipush (v := 36) hx hb dX9_icedCells_5 rfl ?_
      refine q_icmp_ge hx hb (a := z21) (b := 36) ev21 (by decide) (tgt := 38) dX9_icedCells_7 rfl (fun c24 => ?_) (fun c24 => ?_)
      · refine lv_iload_n hx hb dX9_icedCells_38 rfl (lv_at hl 1 rfl) ?_
        exact ret v22 H0 locs23 _ _ dX9_icedCells_39 ⟨rfl, trivial⟩ hC0 hS23
      · refine lv_iload_n hx hb dX9_icedCells_10 rfl (lv_at hl 1 rfl) ?_
        refine lv_aload_n hx hb dX9_icedCells_11 rfl (lv_at hl 2 rfl) ?_
        refine lv_iload_n hx hb dX9_icedCells_12 rfl (lv_at hl 3 rfl) ?_
        refine lv_iload_n hx hb dX9_icedCells_13 rfl (lv_at hl 0 rfl) ?_
        refine q_goIp (q_runV (As := [.int p1, .int v21]) (rest := [.int v22]) E hC0 hS23 (m_X9_isIn l X Γ H0 hC0 h0 g0 p1 (a1 := a1) e1 v21 (a2 := z21) ev21) cw_X9_isIn cl_RX9_111 g0 ⟨rfl, rfl⟩ rfl hl.1 rfl (show _ ≤ _ from by simp [Value.category]) (by decide) dX9_icedCells_14) hS23 (fun v25 locs25 hr25 hS25 => ?_)
        rcases hr25 with rfl | rfl
        · refine q_if_eq hx hb (a := 0) (by decide) (tgt := 29) dX9_icedCells_17 rfl (fun c26 => ?_) (fun c26 => absurd c26 (by omega))
          refine lv_iconst (v := 0) hx hb dX9_icedCells_29 rfl ?_
          refine lv_iadd hx hb dX9_icedCells_30 (lv_topi (fun v27 ev27 => ?_))
          have c28 := i_rng v22; rw [show v22.toInt = z22 from ev22] at c28
          have ev27i : v27.toInt = (z22 + 0) := i_add ev27 ev22 (by decide) (by omega) (by omega)
          refine lv_istore_n hx hb dX9_icedCells_31 rfl hl (by decide) rfl (fun ls hl => ?_)
          replace hl : lv_has ls 4 [(2, .int v27), (3, .int v21), (0, .ref h0), (1, .int p1)] := hl
          obtain ⟨v29, ev29⟩ : ∃ z, z = v21 + Int32.ofInt 1 := ⟨_, rfl⟩
          have ev29i : v29.toInt = (z21 + 1) := i_add ev29 ev21 (by decide) (by omega) (by omega)
          refine lv_iinc hx hb dX9_icedCells_32 hl (k := 1) rfl ev29.symm (by decide) rfl (fun ls hl => ?_)
          replace hl : lv_has ls 4 [(3, .int v29), (2, .int v27), (0, .ref h0), (1, .int p1)] := hl
          refine lv_goto (tgt := 4) hx hb dX9_icedCells_35 rfl ?_
          exact ih23 locs25 v29 ((z21 + 1)) v27 ((z22 + 0)) ls (by omega) ev29i ev27i (by omega) (by omega) hS25 hl
        · refine q_if_eq hx hb (a := 1) (by decide) (tgt := 29) dX9_icedCells_17 rfl (fun c30 => absurd c30 (by omega)) (fun c30 => ?_)
          refine lv_aload_n hx hb dX9_icedCells_20 rfl (lv_at hl 2 rfl) ?_
          refine q_getR E hC0 g0 fa_RX9_46 dX9_icedCells_21 (fun q31 eq31 gq31 => ?_)
          refine lv_iload_n hx hb dX9_icedCells_24 rfl (lv_at hl 0 rfl) ?_
          refine q_iald E hC0 gq31 rfl rfl (fun _ h => h) (i_in (a := z21) ev21 (by omega) (by omega)) dX9_icedCells_25 (fun v32 ev32 _ _ => ?_)
          refine lv_goto (tgt := 30) hx hb dX9_icedCells_26 rfl ?_
          refine lv_iadd hx hb dX9_icedCells_30 (lv_topi (fun v33 ev33 => ?_))
          refine lv_istore_n hx hb dX9_icedCells_31 rfl hl (by decide) rfl (fun ls hl => ?_)
          replace hl : lv_has ls 4 [(2, .int v33), (3, .int v21), (0, .ref h0), (1, .int p1)] := hl
          obtain ⟨v34, ev34⟩ : ∃ z, z = v21 + Int32.ofInt 1 := ⟨_, rfl⟩
          have ev34i : v34.toInt = (z21 + 1) := i_add ev34 ev21 (by decide) (by omega) (by omega)
          refine lv_iinc hx hb dX9_icedCells_32 hl (k := 1) rfl ev34.symm (by decide) rfl (fun ls hl => ?_)
          replace hl : lv_has ls 4 [(3, .int v34), (2, .int v33), (0, .ref h0), (1, .int p1)] := hl
          refine lv_goto (tgt := 4) hx hb dX9_icedCells_35 rfl ?_
          exact ih23 locs25 v34 ((z21 + 1)) v33 (v33.toInt) ls (by omega) ev34i rfl (by omega) (by omega) hS25 hl
  exact L4 _ [] 0 0 0 0 ls (Nat.lt_succ_self _) (by decide) (by decide) (by omega) (by omega) hS0 hl
set_option maxRecDepth 100000 in
set_option maxHeartbeats 4000000 in
theorem m_X9_wallsOf (l : Launch) (X : xW) (Γ : Nat → Option Nat) (H0 : Heap) (hC0 : Conf X Γ H0) (h0 : Nat) (g0 : Γ h0 = some 5) (p1 : Int32) {a1 : Int} (e1 : p1.toInt = a1) : Ctr l X Γ yX9_wallsOf cX9_wallsOf 4 (some .int) 1 [.ref h0, .int p1] H0 (QI X Γ (fun v H1 => H1 = H0 ∧ (True))) := by
  refine q_enterI (own := "SnowForts$Yard") (by decide) rfl (Nat.le_of_ble_eq_true rfl) ?_
  intro p e s m args below meth c ls Qz E hl ret hS0
  have hx := E.1; have hb := E.2.1
  have hl : lv_has ls 4 [(0, .ref h0), (1, .int p1)] := hl
  refine lv_iconst (v := 0) hx hb dX9_wallsOf_0 rfl ?_
  refine lv_istore_n hx hb dX9_wallsOf_1 rfl hl (by decide) rfl (fun ls hl => ?_)
  replace hl : lv_has ls 4 [(2, .int 0), (0, .ref h0), (1, .int p1)] := hl
  refine lv_iconst (v := 0) hx hb dX9_wallsOf_2 rfl ?_
  refine lv_istore_n hx hb dX9_wallsOf_3 rfl hl (by decide) rfl (fun ls hl => ?_)
  replace hl : lv_has ls 4 [(3, .int 0), (2, .int 0), (0, .ref h0), (1, .int p1)] := hl
  have L4 : ∀ (n23 : Nat) (locs23 : List Loc) (v21 : Int32) (z21 : Int) (v22 : Int32) (z22 : Int) (ls : Array Slot), (36 - z21).toNat < n23 → v21.toInt = z21 → v22.toInt = z22 → z21 ≤ 36 → 0 ≤ z21 → va_S (AΓ Γ) H0 H0 locs23 → lv_has ls 4 [(3, .int v21), (2, .int v22), (0, .ref h0), (1, .int p1)] → W p l e (rmL 1) s m args below meth c H0 locs23 0 0 Qz (F0 m 4 ls []) := by
    intro n23
    induction n23 with
    | zero => intro locs23 v21 z21 v22 z22 ls hm23 ev21 ev22 iv23_0 iv23_1 hS23 hl; exact absurd hm23 (Nat.not_lt_zero _)
    | succ n23 ih23 =>
      intro locs23 v21 z21 v22 z22 ls hm23 ev21 ev22 iv23_0 iv23_1 hS23 hl
      refine lv_iload_n hx hb dX9_wallsOf_4 rfl (lv_at hl 0 rfl) ?_
      refine lv_bipush (v := 36) hx hb dX9_wallsOf_5 rfl ?_
      refine q_icmp_ge hx hb (a := z21) (b := 36) ev21 (by decide) (tgt := 34) dX9_wallsOf_7 rfl (fun c24 => ?_) (fun c24 => ?_)
      · refine lv_iload_n hx hb dX9_wallsOf_34 rfl (lv_at hl 1 rfl) ?_
        exact ret v22 H0 locs23 _ _ dX9_wallsOf_35 ⟨rfl, trivial⟩ hC0 hS23
      · refine lv_aload_n hx hb dX9_wallsOf_10 rfl (lv_at hl 2 rfl) ?_
        refine lv_iload_n hx hb dX9_wallsOf_11 rfl (lv_at hl 3 rfl) ?_
        refine lv_iload_n hx hb dX9_wallsOf_12 rfl (lv_at hl 0 rfl) ?_
        refine q_goIp (q_runV (As := [.int p1, .int v21]) (rest := []) E hC0 hS23 (m_X9_isIn l X Γ H0 hC0 h0 g0 p1 (a1 := a1) e1 v21 (a2 := z21) ev21) cw_X9_isIn cl_RX9_111 g0 ⟨rfl, rfl⟩ rfl hl.1 rfl (Nat.zero_le _) (by decide) dX9_wallsOf_13) hS23 (fun v25 locs25 hr25 hS25 => ?_)
        rcases hr25 with rfl | rfl
        · refine q_if_eq hx hb (a := 0) (by decide) (tgt := 28) dX9_wallsOf_16 rfl (fun c26 => ?_) (fun c26 => absurd c26 (by omega))
          obtain ⟨v27, ev27⟩ : ∃ z, z = v21 + Int32.ofInt 1 := ⟨_, rfl⟩
          have ev27i : v27.toInt = (z21 + 1) := i_add ev27 ev21 (by decide) (by omega) (by omega)
          refine lv_iinc hx hb dX9_wallsOf_28 hl (k := 0) rfl ev27.symm (by decide) rfl (fun ls hl => ?_)
          replace hl : lv_has ls 4 [(3, .int v27), (2, .int v22), (0, .ref h0), (1, .int p1)] := hl
          refine lv_goto (tgt := 4) hx hb dX9_wallsOf_31 rfl ?_
          exact ih23 locs25 v27 ((z21 + 1)) v22 (z22) ls (by omega) ev27i ev22 (by omega) (by omega) hS25 hl
        · refine q_if_eq hx hb (a := 1) (by decide) (tgt := 28) dX9_wallsOf_16 rfl (fun c28 => absurd c28 (by omega)) (fun c28 => ?_)
          refine lv_iload_n hx hb dX9_wallsOf_19 rfl (lv_at hl 1 rfl) ?_
          refine lv_aload_n hx hb dX9_wallsOf_20 rfl (lv_at hl 2 rfl) ?_
          refine q_getR E hC0 g0 fa_RX9_37 dX9_wallsOf_21 (fun q29 eq29 gq29 => ?_)
          refine lv_iload_n hx hb dX9_wallsOf_24 rfl (lv_at hl 0 rfl) ?_
          refine q_iald E hC0 gq29 rfl rfl (fun _ h => h) (i_in (a := z21) ev21 (by omega) (by omega)) dX9_wallsOf_25 (fun v30 ev30 _ _ => ?_)
          refine lv_iadd hx hb dX9_wallsOf_26 (lv_topi (fun v31 ev31 => ?_))
          refine lv_istore_n hx hb dX9_wallsOf_27 rfl hl (by decide) rfl (fun ls hl => ?_)
          replace hl : lv_has ls 4 [(2, .int v31), (3, .int v21), (0, .ref h0), (1, .int p1)] := hl
          obtain ⟨v32, ev32⟩ : ∃ z, z = v21 + Int32.ofInt 1 := ⟨_, rfl⟩
          have ev32i : v32.toInt = (z21 + 1) := i_add ev32 ev21 (by decide) (by omega) (by omega)
          refine lv_iinc hx hb dX9_wallsOf_28 hl (k := 1) rfl ev32.symm (by decide) rfl (fun ls hl => ?_)
          replace hl : lv_has ls 4 [(3, .int v32), (2, .int v31), (0, .ref h0), (1, .int p1)] := hl
          refine lv_goto (tgt := 4) hx hb dX9_wallsOf_31 rfl ?_
          exact ih23 locs25 v32 ((z21 + 1)) v31 (v31.toInt) ls (by omega) ev32i rfl (by omega) (by omega) hS25 hl
  exact L4 _ [] 0 0 0 0 ls (Nat.lt_succ_self _) (by decide) (by decide) (by omega) (by omega) hS0 hl
set_option maxRecDepth 100000 in
set_option maxHeartbeats 4000000 in
theorem m_X9_tellSchool (l : Launch) (X : xW) (Γ : Nat → Option Nat) (H0 : Heap) (hC0 : Conf X Γ H0) (h0 : Nat) (g0 : Γ h0 = some 5) (p1 : Int32) {a1 : Int} (e1 : p1.toInt = a1) (p2 : Int32) {a2 : Int} (e2 : p2.toInt = a2) : Ctr l X Γ yX9_tellSchool cX9_tellSchool 3 (some .int) 2 [.ref h0, .int p1, .int p2] H0 (QI X Γ (fun v H1 => H1 = H0 ∧ (True))) := by
  refine q_enterI (own := "SnowForts$Yard") (by decide) rfl (Nat.le_of_ble_eq_true rfl) ?_
  intro p e s m args below meth c ls Qz E hl ret hS0
  have hx := E.1; have hb := E.2.1
  have hl : lv_has ls 3 [(0, .ref h0), (1, .int p1), (2, .int p2)] := hl
  refine lv_aload_n hx hb dX9_tellSchool_0 rfl (lv_at hl 0 rfl) ?_
  refine lv_iload_n hx hb dX9_tellSchool_1 rfl (lv_at hl 1 rfl) ?_
  refine q_goIp (q_runV (As := [.int p1]) (rest := []) E hC0 hS0 (m_X9_isSchool l X Γ H0 hC0 h0 g0 p1 (a1 := a1) e1) cw_X9_isSchool cl_RX9_87 g0 ⟨rfl, rfl⟩ rfl hl.1 rfl (Nat.zero_le _) (by decide) dX9_tellSchool_2) hS0 (fun v21 locs21 hr21 hS21 => ?_)
  rcases hr21 with ⟨rfl, f21a0, f21a1⟩ | ⟨rfl, -⟩
  · refine q_if_ne hx hb (a := 1) (by decide) (tgt := 10) dX9_tellSchool_5 rfl (fun c22 => ?_) (fun c22 => absurd c22 (by omega))
    refine lv_iload_n hx hb dX9_tellSchool_10 rfl (lv_at hl 2 rfl) ?_
    by_cases c23_0 : a2 = 0
    · have c23_x := (show p2.toInt = a2 from e2).trans c23_0
      refine lv_tableIn hx hb dX9_tellSchool_11 (by rw [c23_x]; decide) (by rw [c23_x]; decide) (off := 29) (by rw [c23_x]; rfl) (tgt := 40) rfl ?_
      refine lv_aload_n hx hb dX9_tellSchool_40 rfl (lv_at hl 0 rfl) ?_
      refine q_getR E hC0 g0 fa_RX9_18 dX9_tellSchool_41 (fun q24 eq24 gq24 => ?_)
      refine lv_iload_n hx hb dX9_tellSchool_44 rfl (lv_at hl 1 rfl) ?_
      refine q_iald E hC0 gq24 rfl rfl (fun _ h => h) (i_in (a := a1) e1 (by omega) (by omega)) dX9_tellSchool_45 (fun v25 ev25 _ _ => ?_)
      exact ret v25 H0 locs21 _ _ dX9_tellSchool_46 ⟨rfl, trivial⟩ hC0 hS21
    by_cases c23_1 : a2 = 1
    · have c23_x := (show p2.toInt = a2 from e2).trans c23_1
      refine lv_tableIn hx hb dX9_tellSchool_11 (by rw [c23_x]; decide) (by rw [c23_x]; decide) (off := 36) (by rw [c23_x]; rfl) (tgt := 47) rfl ?_
      refine lv_aload_n hx hb dX9_tellSchool_47 rfl (lv_at hl 0 rfl) ?_
      refine q_getR E hC0 g0 fa_RX9_22 dX9_tellSchool_48 (fun q26 eq26 gq26 => ?_)
      refine lv_iload_n hx hb dX9_tellSchool_51 rfl (lv_at hl 1 rfl) ?_
      refine q_iald E hC0 gq26 rfl rfl (fun _ h => h) (i_in (a := a1) e1 (by omega) (by omega)) dX9_tellSchool_52 (fun v27 ev27 _ _ => ?_)
      exact ret v27 H0 locs21 _ _ dX9_tellSchool_53 ⟨rfl, trivial⟩ hC0 hS21
    by_cases c23_2 : a2 = 2
    · have c23_x := (show p2.toInt = a2 from e2).trans c23_2
      refine lv_tableIn hx hb dX9_tellSchool_11 (by rw [c23_x]; decide) (by rw [c23_x]; decide) (off := 43) (by rw [c23_x]; rfl) (tgt := 54) rfl ?_
      refine lv_aload_n hx hb dX9_tellSchool_54 rfl (lv_at hl 0 rfl) ?_
      refine q_getR E hC0 g0 fa_RX9_25 dX9_tellSchool_55 (fun q28 eq28 gq28 => ?_)
      refine lv_iload_n hx hb dX9_tellSchool_58 rfl (lv_at hl 1 rfl) ?_
      refine q_iald E hC0 gq28 rfl rfl (fun _ h => h) (i_in (a := a1) e1 (by omega) (by omega)) dX9_tellSchool_59 (fun v29 ev29 _ _ => ?_)
      exact ret v29 H0 locs21 _ _ dX9_tellSchool_60 ⟨rfl, trivial⟩ hC0 hS21
    by_cases c23_3 : a2 = 3
    · have c23_x := (show p2.toInt = a2 from e2).trans c23_3
      refine lv_tableIn hx hb dX9_tellSchool_11 (by rw [c23_x]; decide) (by rw [c23_x]; decide) (off := 50) (by rw [c23_x]; rfl) (tgt := 61) rfl ?_
      refine lv_aload_n hx hb dX9_tellSchool_61 rfl (lv_at hl 0 rfl) ?_
      refine lv_iload_n hx hb dX9_tellSchool_62 rfl (lv_at hl 1 rfl) ?_
      refine q_goIp (q_runV (As := [.int p1]) (rest := []) E hC0 hS21 (m_X9_icedCells l X Γ H0 hC0 h0 g0 p1 (a1 := a1) e1) cw_X9_icedCells cl_RX9_105 g0 ⟨rfl, rfl⟩ rfl hl.1 rfl (Nat.zero_le _) (by decide) dX9_tellSchool_63) hS21 (fun v30 locs30 hr30 hS30 => ?_)
      exact ret v30 H0 locs30 _ _ dX9_tellSchool_66 ⟨rfl, trivial⟩ hC0 hS30
    refine lv_tableOut hx hb dX9_tellSchool_11 (by rw [show p2.toInt = a2 from e2]; omega) (tgt := 67) rfl ?_
    refine lv_aload_n hx hb dX9_tellSchool_67 rfl (lv_at hl 0 rfl) ?_
    refine lv_iload_n hx hb dX9_tellSchool_68 rfl (lv_at hl 1 rfl) ?_
    refine q_goIp (q_runV (As := [.int p1]) (rest := []) E hC0 hS21 (m_X9_wallsOf l X Γ H0 hC0 h0 g0 p1 (a1 := a1) e1) cw_X9_wallsOf cl_RX9_108 g0 ⟨rfl, rfl⟩ rfl hl.1 rfl (Nat.zero_le _) (by decide) dX9_tellSchool_69) hS21 (fun v31 locs31 hr31 hS31 => ?_)
    exact ret v31 H0 locs31 _ _ dX9_tellSchool_72 ⟨rfl, trivial⟩ hC0 hS31
  · refine q_if_ne hx hb (a := 0) (by decide) (tgt := 10) dX9_tellSchool_5 rfl (fun c32 => absurd c32 (by omega)) (fun c32 => ?_)
    refine lv_iconst (v := (-1)) hx hb dX9_tellSchool_8 rfl ?_
    exact ret (-1) H0 locs21 _ _ dX9_tellSchool_9 ⟨rfl, trivial⟩ hC0 hS21
set_option maxRecDepth 100000 in
set_option maxHeartbeats 4000000 in
theorem m_X11_school (l : Launch) (X : xW) (Γ : Nat → Option Nat) (H0 : Heap) (hC0 : Conf X Γ H0) (h0 : Nat) (g0 : Γ h0 = some 0) (p1 : Int32) {a1 : Int} (e1 : p1.toInt = a1) (p2 : Int32) {a2 : Int} (e2 : p2.toInt = a2) : Ctr l X Γ yX11_school cX11_school 3 (some .int) 3 [.ref h0, .int p1, .int p2] H0 (QI X Γ (fun v H1 => Kp X Γ [0, 2, 3, 4, 5, 18, 21, 23, 25, 27] H0 H1 ∧ (True))) := by
  refine q_enterI (own := "SnowForts") (by decide) rfl (Nat.le_of_ble_eq_true rfl) ?_
  intro p e s m args below meth c ls Qz E hl ret hS0
  have hx := E.1; have hb := E.2.1
  have hKp0 : Kp X Γ [0, 2, 3, 4, 5, 18, 21, 23, 25, 27] H0 H0 := Kp.rf
  have hl : lv_has ls 3 [(0, .ref h0), (1, .int p1), (2, .int p2)] := hl
  refine lv_aload_n hx hb dX11_school_0 rfl (lv_at hl 0 rfl) ?_
  refine q_getR E hC0 g0 fa_RX11_42 dX11_school_1 (fun q21 eq21 gq21 => ?_)
  refine lv_iload_n hx hb dX11_school_4 rfl (lv_at hl 1 rfl) ?_
  refine q_goIp (q_runV (As := [.int p1]) (rest := []) E hC0 hS0 (m_X9_isSchool l X Γ H0 hC0 q21 gq21 p1 (a1 := a1) e1) cw_X9_isSchool cl_RX11_215 gq21 ⟨rfl, rfl⟩ rfl hl.1 rfl (Nat.zero_le _) (by decide) dX11_school_5) hS0 (fun v22 locs22 hr22 hS22 => ?_)
  rcases hr22 with ⟨rfl, f22a0, f22a1⟩ | ⟨rfl, -⟩
  · refine q_if_ne hx hb (a := 1) (by decide) (tgt := 17) dX11_school_8 rfl (fun c23 => ?_) (fun c23 => absurd c23 (by omega))
    refine lv_iload_n hx hb dX11_school_17 rfl (lv_at hl 2 rfl) ?_
    refine lv_i2l (v := p2.toInt64) hx hb dX11_school_18 rfl (lv_topl (fun v24 ev24 => ?_))
    have ev24i : v24.toInt = a2 := l_ofi ev24.symm e2
    refine lv_iconst (v := 0) hx hb dX11_school_19 rfl ?_
    refine lv_iconst (v := 4) hx hb dX11_school_20 rfl ?_
    refine q_goIp (q_runS (As := [.long v24, .int 0, .int 4]) (rest := []) E hS22 (m_X11_isWithin l X Γ H0 hC0 v24 (a0 := a2) ev24i 0 (a1 := 0) (by decide) 4 (a2 := 4) (by decide)) cw_X11_isWithin cl_RX11_113 rfl hl.1 rfl (Nat.zero_le _) (by decide) dX11_school_21) hS22 (fun v25 locs25 hr25 hS25 => ?_)
    rcases hr25 with ⟨rfl, f25a0, f25a1⟩ | ⟨rfl, f25b⟩
    · refine q_if_ne hx hb (a := 1) (by decide) (tgt := 33) dX11_school_24 rfl (fun c26 => ?_) (fun c26 => absurd c26 (by omega))
      refine lv_aload_n hx hb dX11_school_33 rfl (lv_at hl 0 rfl) ?_
      refine lv_aload_n hx hb dX11_school_34 rfl (lv_at hl 0 rfl) ?_
      refine q_getR E hC0 g0 fa_RX11_42 dX11_school_35 (fun q27 eq27 gq27 => ?_)
      refine lv_iload_n hx hb dX11_school_38 rfl (lv_at hl 1 rfl) ?_
      refine lv_iload_n hx hb dX11_school_39 rfl (lv_at hl 2 rfl) ?_
      refine q_goIp (q_runV (As := [.int p1, .int p2]) (rest := [.ref h0]) E hC0 hS25 (m_X9_tellSchool l X Γ H0 hC0 q27 gq27 p1 (a1 := a1) e1 p2 (a2 := a2) e2) cw_X9_tellSchool cl_RX11_218 gq27 ⟨rfl, rfl⟩ rfl hl.1 rfl (show _ ≤ _ from by simp [Value.category]) (by decide) dX11_school_40) hS25 (fun v28 locs28 hr28 hS28 => ?_)
      refine q_goI (q_runV (As := [.int v28]) (rest := []) E hC0 hS28 (m_X11_answer l X Γ H0 hC0 h0 g0 v28 (a1 := v28.toInt) rfl) cw_X11_answer cl_RX11_191 g0 ⟨rfl, rfl⟩ rfl hl.1 rfl (Nat.zero_le _) (by decide) dX11_school_43) hS28 (fun v29 H29 locs29 hr29 hC29 hS29 => ?_)
      obtain ⟨hp29, hr29⟩ := hr29
      have hKp29 := hKp0.tr (hp29.mono rfl)
      have f29_0 := hr29
      exact ret v29 H29 locs29 _ _ dX11_school_46 ⟨hKp29, trivial⟩ hC29 hS29
    · refine q_if_ne hx hb (a := 0) (by decide) (tgt := 33) dX11_school_24 rfl (fun c30 => absurd c30 (by omega)) (fun c30 => ?_)
      refine lv_aload_n hx hb dX11_school_27 rfl (lv_at hl 0 rfl) ?_
      refine lv_iconst (v := 5) hx hb dX11_school_28 rfl ?_
      refine q_goI (q_runV (As := [.int 5]) (rest := []) E hC0 hS25 (m_X11_refuse l X Γ H0 hC0 h0 g0 5 (a1 := 5) (by decide)) cw_X11_refuse cl_RX11_146 g0 ⟨rfl, rfl⟩ rfl hl.1 rfl (Nat.zero_le _) (by decide) dX11_school_29) hS25 (fun v31 H31 locs31 hr31 hC31 hS31 => ?_)
      obtain ⟨hp31, hr31⟩ := hr31
      have hKp31 := hKp0.tr (hp31.mono rfl)
      have f31_0 := hr31
      exact ret v31 H31 locs31 _ _ dX11_school_32 ⟨hKp31, trivial⟩ hC31 hS31
  · refine q_if_ne hx hb (a := 0) (by decide) (tgt := 17) dX11_school_8 rfl (fun c32 => absurd c32 (by omega)) (fun c32 => ?_)
    refine lv_aload_n hx hb dX11_school_11 rfl (lv_at hl 0 rfl) ?_
    refine lv_iconst (v := 2) hx hb dX11_school_12 rfl ?_
    refine q_goI (q_runV (As := [.int 2]) (rest := []) E hC0 hS22 (m_X11_refuse l X Γ H0 hC0 h0 g0 2 (a1 := 2) (by decide)) cw_X11_refuse cl_RX11_146 g0 ⟨rfl, rfl⟩ rfl hl.1 rfl (Nat.zero_le _) (by decide) dX11_school_13) hS22 (fun v33 H33 locs33 hr33 hC33 hS33 => ?_)
    obtain ⟨hp33, hr33⟩ := hr33
    have hKp33 := hKp0.tr (hp33.mono rfl)
    have f33_0 := hr33
    exact ret v33 H33 locs33 _ _ dX11_school_16 ⟨hKp33, trivial⟩ hC33 hS33
set_option maxRecDepth 100000 in
set_option maxHeartbeats 4000000 in
theorem m_X11_article (l : Launch) (X : xW) (Γ : Nat → Option Nat) (H0 : Heap) (hC0 : Conf X Γ H0) (h0 : Nat) (g0 : Γ h0 = some 0) (p1 : Int32) {a1 : Int} (e1 : p1.toInt = a1) : Ctr l X Γ yX11_article cX11_article 3 (some .int) 1 [.ref h0, .int p1] H0 (QI X Γ (fun v H1 => Kp X Γ [0, 2, 3, 4, 5, 18, 21, 23, 25, 27] H0 H1 ∧ (True))) := by
  refine q_enterI (own := "SnowForts") (by decide) rfl (Nat.le_of_ble_eq_true rfl) ?_
  intro p e s m args below meth c ls Qz E hl ret hS0
  have hx := E.1; have hb := E.2.1
  have hKp0 : Kp X Γ [0, 2, 3, 4, 5, 18, 21, 23, 25, 27] H0 H0 := Kp.rf
  have hl : lv_has ls 3 [(0, .ref h0), (1, .int p1)] := hl
  refine lv_iload_n hx hb dX11_article_0 rfl (lv_at hl 1 rfl) ?_
  refine lv_i2l (v := p1.toInt64) hx hb dX11_article_1 rfl (lv_topl (fun v21 ev21 => ?_))
  have ev21i : v21.toInt = a1 := l_ofi ev21.symm e1
  refine lv_iconst (v := 0) hx hb dX11_article_2 rfl ?_
  refine lv_iconst (v := 3) hx hb dX11_article_3 rfl ?_
  refine q_goIp (q_runS (As := [.long v21, .int 0, .int 3]) (rest := []) E hS0 (m_X11_isWithin l X Γ H0 hC0 v21 (a0 := a1) ev21i 0 (a1 := 0) (by decide) 3 (a2 := 3) (by decide)) cw_X11_isWithin cl_RX11_113 rfl hl.1 rfl (Nat.zero_le _) (by decide) dX11_article_4) hS0 (fun v22 locs22 hr22 hS22 => ?_)
  rcases hr22 with ⟨rfl, f22a0, f22a1⟩ | ⟨rfl, f22b⟩
  · refine q_if_ne hx hb (a := 1) (by decide) (tgt := 16) dX11_article_7 rfl (fun c23 => ?_) (fun c23 => absurd c23 (by omega))
    refine lv_aload_n hx hb dX11_article_16 rfl (lv_at hl 0 rfl) ?_
    refine q_getR E hC0 g0 fa_RX11_42 dX11_article_17 (fun q24 eq24 gq24 => ?_)
    refine q_getR E hC0 gq24 fa_RX11_221 dX11_article_20 (fun q25 eq25 gq25 => ?_)
    refine lv_iload_n hx hb dX11_article_23 rfl (lv_at hl 1 rfl) ?_
    refine q_iald E hC0 gq25 rfl rfl (fun _ h => h) (i_in (a := a1) e1 (by omega) (by omega)) dX11_article_24 (fun v26 ev26 _ _ => ?_)
    refine lv_istore_n hx hb dX11_article_25 rfl hl (by decide) rfl (fun ls hl => ?_)
    replace hl : lv_has ls 3 [(2, .int v26), (0, .ref h0), (1, .int p1)] := hl
    refine lv_iload_n hx hb dX11_article_26 rfl (lv_at hl 0 rfl) ?_
    refine lv_iconst (v := (-1)) hx hb dX11_article_27 rfl ?_
    refine q_icmp_ne hx hb (a := v26.toInt) (b := (-1)) rfl (by decide) (tgt := 40) dX11_article_28 rfl (fun c27 => ?_) (fun c27 => ?_)
    · refine lv_aload_n hx hb dX11_article_40 rfl (lv_at hl 1 rfl) ?_
      refine lv_iload_n hx hb dX11_article_41 rfl (lv_at hl 0 rfl) ?_
      refine q_goI (q_runV (As := [.int v26]) (rest := []) E hC0 hS22 (m_X11_answer l X Γ H0 hC0 h0 g0 v26 (a1 := v26.toInt) rfl) cw_X11_answer cl_RX11_191 g0 ⟨rfl, rfl⟩ rfl hl.1 rfl (Nat.zero_le _) (by decide) dX11_article_42) hS22 (fun v28 H28 locs28 hr28 hC28 hS28 => ?_)
      obtain ⟨hp28, hr28⟩ := hr28
      have hKp28 := hKp0.tr (hp28.mono rfl)
      have f28_0 := hr28
      exact ret v28 H28 locs28 _ _ dX11_article_45 ⟨hKp28, trivial⟩ hC28 hS28
    · refine lv_aload_n hx hb dX11_article_31 rfl (lv_at hl 1 rfl) ?_
      refine lv_bipush (v := 8) hx hb dX11_article_32 rfl ?_
      refine q_goI (q_runV (As := [.int 8]) (rest := []) E hC0 hS22 (m_X11_refuse l X Γ H0 hC0 h0 g0 8 (a1 := 8) (by decide)) cw_X11_refuse cl_RX11_146 g0 ⟨rfl, rfl⟩ rfl hl.1 rfl (Nat.zero_le _) (by decide) dX11_article_34) hS22 (fun v29 H29 locs29 hr29 hC29 hS29 => ?_)
      obtain ⟨hp29, hr29⟩ := hr29
      have hKp29 := hKp0.tr (hp29.mono rfl)
      have f29_0 := hr29
      refine lv_goto (tgt := 45) hx hb dX11_article_37 rfl ?_
      exact ret v29 H29 locs29 _ _ dX11_article_45 ⟨hKp29, trivial⟩ hC29 hS29
  · refine q_if_ne hx hb (a := 0) (by decide) (tgt := 16) dX11_article_7 rfl (fun c30 => absurd c30 (by omega)) (fun c30 => ?_)
    refine lv_aload_n hx hb dX11_article_10 rfl (lv_at hl 0 rfl) ?_
    refine lv_iconst (v := 5) hx hb dX11_article_11 rfl ?_
    refine q_goI (q_runV (As := [.int 5]) (rest := []) E hC0 hS22 (m_X11_refuse l X Γ H0 hC0 h0 g0 5 (a1 := 5) (by decide)) cw_X11_refuse cl_RX11_146 g0 ⟨rfl, rfl⟩ rfl hl.1 rfl (Nat.zero_le _) (by decide) dX11_article_12) hS22 (fun v31 H31 locs31 hr31 hC31 hS31 => ?_)
    obtain ⟨hp31, hr31⟩ := hr31
    have hKp31 := hKp0.tr (hp31.mono rfl)
    have f31_0 := hr31
    exact ret v31 H31 locs31 _ _ dX11_article_15 ⟨hKp31, trivial⟩ hC31 hS31
set_option maxRecDepth 100000 in
set_option maxHeartbeats 4000000 in
theorem m_X11_breach (l : Launch) (X : xW) (Γ : Nat → Option Nat) (H0 : Heap) (hC0 : Conf X Γ H0) (h0 : Nat) (g0 : Γ h0 = some 0) (p1 : Int32) {a1 : Int} (e1 : p1.toInt = a1) : Ctr l X Γ yX11_breach cX11_breach 2 (some .int) 1 [.ref h0, .int p1] H0 (QI X Γ (fun v H1 => Kp X Γ [0, 2, 3, 4, 5, 18, 21, 23, 25, 27] H0 H1 ∧ (True))) := by
  refine q_enterI (own := "SnowForts") (by decide) rfl (Nat.le_of_ble_eq_true rfl) ?_
  intro p e s m args below meth c ls Qz E hl ret hS0
  have hx := E.1; have hb := E.2.1
  have hKp0 : Kp X Γ [0, 2, 3, 4, 5, 18, 21, 23, 25, 27] H0 H0 := Kp.rf
  have hl : lv_has ls 2 [(0, .ref h0), (1, .int p1)] := hl
  refine lv_iload_n hx hb dX11_breach_0 rfl (lv_at hl 1 rfl) ?_
  refine lv_i2l (v := p1.toInt64) hx hb dX11_breach_1 rfl (lv_topl (fun v21 ev21 => ?_))
  have ev21i : v21.toInt = a1 := l_ofi ev21.symm e1
  refine lv_iconst (v := 0) hx hb dX11_breach_2 rfl ?_
  refine lv_iconst (v := 4) hx hb dX11_breach_3 rfl ?_
  refine q_goIp (q_runS (As := [.long v21, .int 0, .int 4]) (rest := []) E hS0 (m_X11_isWithin l X Γ H0 hC0 v21 (a0 := a1) ev21i 0 (a1 := 0) (by decide) 4 (a2 := 4) (by decide)) cw_X11_isWithin cl_RX11_113 rfl hl.1 rfl (Nat.zero_le _) (by decide) dX11_breach_4) hS0 (fun v22 locs22 hr22 hS22 => ?_)
  rcases hr22 with ⟨rfl, f22a0, f22a1⟩ | ⟨rfl, f22b⟩
  · refine q_if_ne hx hb (a := 1) (by decide) (tgt := 16) dX11_breach_7 rfl (fun c23 => ?_) (fun c23 => absurd c23 (by omega))
    refine lv_aload_n hx hb dX11_breach_16 rfl (lv_at hl 0 rfl) ?_
    refine q_getR E hC0 g0 fa_RX11_42 dX11_breach_17 (fun q24 eq24 gq24 => ?_)
    refine q_goIp (q_runV (As := []) (rest := []) E hC0 hS22 (m_X9_allBreaches l X Γ H0 hC0 q24 gq24) cw_X9_allBreaches cl_RX11_225 gq24 ⟨rfl, rfl⟩ rfl hl.1 rfl (Nat.zero_le _) (by decide) dX11_breach_20) hS22 (fun v25 locs25 hr25 hS25 => ?_)
    refine q_if_ne hx hb (a := v25.toInt) rfl (tgt := 35) dX11_breach_23 rfl (fun c26 => ?_) (fun c26 => ?_)
    · refine lv_aload_n hx hb dX11_breach_35 rfl (lv_at hl 0 rfl) ?_
      refine lv_aload_n hx hb dX11_breach_36 rfl (lv_at hl 0 rfl) ?_
      refine q_getR E hC0 g0 fa_RX11_42 dX11_breach_37 (fun q27 eq27 gq27 => ?_)
      refine q_getR E hC0 gq27 fa_RX11_229 dX11_breach_40 (fun q28 eq28 gq28 => ?_)
      refine lv_iload_n hx hb dX11_breach_43 rfl (lv_at hl 1 rfl) ?_
      refine q_iald E hC0 gq28 rfl rfl (fun _ h => h) (i_in (a := a1) e1 (by omega) (by omega)) dX11_breach_44 (fun v29 ev29 _ _ => ?_)
      refine q_goI (q_runV (As := [.int v29]) (rest := []) E hC0 hS25 (m_X11_answer l X Γ H0 hC0 h0 g0 v29 (a1 := v29.toInt) rfl) cw_X11_answer cl_RX11_191 g0 ⟨rfl, rfl⟩ rfl hl.1 rfl (Nat.zero_le _) (by decide) dX11_breach_45) hS25 (fun v30 H30 locs30 hr30 hC30 hS30 => ?_)
      obtain ⟨hp30, hr30⟩ := hr30
      have hKp30 := hKp0.tr (hp30.mono rfl)
      have f30_0 := hr30
      exact ret v30 H30 locs30 _ _ dX11_breach_48 ⟨hKp30, trivial⟩ hC30 hS30
    · refine lv_aload_n hx hb dX11_breach_26 rfl (lv_at hl 0 rfl) ?_
      refine lv_bipush (v := 8) hx hb dX11_breach_27 rfl ?_
      refine q_goI (q_runV (As := [.int 8]) (rest := []) E hC0 hS25 (m_X11_refuse l X Γ H0 hC0 h0 g0 8 (a1 := 8) (by decide)) cw_X11_refuse cl_RX11_146 g0 ⟨rfl, rfl⟩ rfl hl.1 rfl (Nat.zero_le _) (by decide) dX11_breach_29) hS25 (fun v31 H31 locs31 hr31 hC31 hS31 => ?_)
      obtain ⟨hp31, hr31⟩ := hr31
      have hKp31 := hKp0.tr (hp31.mono rfl)
      have f31_0 := hr31
      refine lv_goto (tgt := 48) hx hb dX11_breach_32 rfl ?_
      exact ret v31 H31 locs31 _ _ dX11_breach_48 ⟨hKp31, trivial⟩ hC31 hS31
  · refine q_if_ne hx hb (a := 0) (by decide) (tgt := 16) dX11_breach_7 rfl (fun c32 => absurd c32 (by omega)) (fun c32 => ?_)
    refine lv_aload_n hx hb dX11_breach_10 rfl (lv_at hl 0 rfl) ?_
    refine lv_iconst (v := 5) hx hb dX11_breach_11 rfl ?_
    refine q_goI (q_runV (As := [.int 5]) (rest := []) E hC0 hS22 (m_X11_refuse l X Γ H0 hC0 h0 g0 5 (a1 := 5) (by decide)) cw_X11_refuse cl_RX11_146 g0 ⟨rfl, rfl⟩ rfl hl.1 rfl (Nat.zero_le _) (by decide) dX11_breach_12) hS22 (fun v33 H33 locs33 hr33 hC33 hS33 => ?_)
    obtain ⟨hp33, hr33⟩ := hr33
    have hKp33 := hKp0.tr (hp33.mono rfl)
    have f33_0 := hr33
    exact ret v33 H33 locs33 _ _ dX11_breach_15 ⟨hKp33, trivial⟩ hC33 hS33
set_option maxRecDepth 100000 in
set_option maxHeartbeats 4000000 in
theorem m_X9_heaps (l : Launch) (X : xW) (Γ : Nat → Option Nat) (H0 : Heap) (hC0 : Conf X Γ H0) (h0 : Nat) (g0 : Γ h0 = some 5) (p1 : Int32) {a1 : Int} (e1 : p1.toInt = a1) (p2 : Int32) {a2 : Int} (e2 : p2.toInt = a2) (r0 : 0 ≤ a1) (r1 : a1 ≤ 35) : Ctr l X Γ yX9_heaps cX9_heaps 4 (some .int) 1 [.ref h0, .int p1, .int p2] H0 (QI X Γ (fun v H1 => Kp X Γ [0, 2, 3, 4, 5, 18, 21, 23, 25, 27] H0 H1 ∧ (True))) := by
  refine q_enterI (own := "SnowForts$Yard") (by decide) rfl (Nat.le_of_ble_eq_true rfl) ?_
  intro p e s m args below meth c ls Qz E hl ret hS0
  have hx := E.1; have hb := E.2.1
  have hKp0 : Kp X Γ [0, 2, 3, 4, 5, 18, 21, 23, 25, 27] H0 H0 := Kp.rf
  have hl : lv_has ls 4 [(0, .ref h0), (1, .int p1), (2, .int p2)] := hl
  refine lv_iconst (v := 0) hx hb dX9_heaps_0 rfl ?_
  refine lv_aload_n hx hb dX9_heaps_1 rfl (lv_at hl 0 rfl) ?_
  refine q_getR E hC0 g0 fa_RX9_34 dX9_heaps_2 (fun q21 eq21 gq21 => ?_)
  refine lv_iload_n hx hb dX9_heaps_5 rfl (lv_at hl 1 rfl) ?_
  refine q_iald E hC0 gq21 rfl rfl (fun _ h => h) (i_in (a := a1) e1 (by omega) (by omega)) dX9_heaps_6 (fun v22 ev22 _ _ => ?_)
  refine lv_iload_n hx hb dX9_heaps_7 rfl (lv_at hl 2 rfl) ?_
  refine lv_iadd hx hb dX9_heaps_8 (lv_topi (fun v23 ev23 => ?_))
  refine lv_bipush (v := 99) hx hb dX9_heaps_9 rfl ?_
  refine lv_isub hx hb dX9_heaps_11 (lv_topi (fun v24 ev24 => ?_))
  refine q_mmax E hl.1 w_893 mathw_max (a := 0) (b := v24.toInt) (show (0 : Int32).toInt = 0 from by decide) rfl (by decide) (Nat.zero_le _) dX9_heaps_12 (fun v25 mv25a mv25b mv25c => ?_)
  refine lv_istore_n hx hb dX9_heaps_15 rfl hl (by decide) rfl (fun ls hl => ?_)
  replace hl : lv_has ls 4 [(3, .int v25), (0, .ref h0), (1, .int p1), (2, .int p2)] := hl
  refine lv_aload_n hx hb dX9_heaps_16 rfl (lv_at hl 1 rfl) ?_
  refine q_getR E hC0 g0 fa_RX9_34 dX9_heaps_17 (fun q26 eq26 gq26 => ?_)
  refine lv_iload_n hx hb dX9_heaps_20 rfl (lv_at hl 2 rfl) ?_
  refine lv_dup2_11 hx hb dX9_heaps_21 rfl rfl ?_
  refine q_iald E hC0 gq26 rfl rfl (fun _ h => h) (i_in (a := a1) e1 (by omega) (by omega)) dX9_heaps_22 (fun v27 ev27 _ _ => ?_)
  refine lv_iload_n hx hb dX9_heaps_23 rfl (lv_at hl 3 rfl) ?_
  refine lv_iload_n hx hb dX9_heaps_24 rfl (lv_at hl 0 rfl) ?_
  refine lv_isub hx hb dX9_heaps_25 (lv_topi (fun v28 ev28 => ?_))
  refine lv_iadd hx hb dX9_heaps_26 (lv_topi (fun v29 ev29 => ?_))
  refine q_iast E hC0 hS0 gq26 (by decide) rfl rfl (i_in (a := a1) e1 (by omega) (by omega)) tv_F dX9_heaps_27 (fun H30 locs30 hC30 hS30 U30 => ?_)
  have hKp30 := Kp.upA gq26 rfl (by decide) rfl U30 hKp0
  refine lv_aload_n hx hb dX9_heaps_28 rfl (lv_at hl 1 rfl) ?_
  refine lv_dup hx hb dX9_heaps_29 rfl ?_
  refine q_getI E hC30 g0 fa_RX9_61 dX9_heaps_30 (fun v31 ev31 _ _ => ?_)
  refine lv_iload_n hx hb dX9_heaps_33 rfl (lv_at hl 0 rfl) ?_
  refine lv_iadd hx hb dX9_heaps_34 (lv_topi (fun v32 ev32 => ?_))
  refine q_put E hC30 hS30 g0 fp_RX9_61 tv_F rfl rfl dX9_heaps_35 (fun H33 locs33 hC33 hS33 U33 => ?_)
  have hKp33 := Kp.upO E g0 fp_RX9_61 rfl U33 hKp30
  have e34 := up_I U33
  refine lv_iload_n hx hb dX9_heaps_38 rfl (lv_at hl 0 rfl) ?_
  exact ret v25 H33 locs33 _ _ dX9_heaps_39 ⟨hKp33, trivial⟩ hC33 hS33
set_option maxRecDepth 100000 in
set_option maxHeartbeats 4000000 in
theorem m_X9_snowFalls (l : Launch) (X : xW) (Γ : Nat → Option Nat) (H0 : Heap) (hC0 : Conf X Γ H0) (h0 : Nat) (g0 : Γ h0 = some 5) (p1 : Int32) {a1 : Int} (e1 : p1.toInt = a1) : Ctr l X Γ yX9_snowFalls cX9_snowFalls 4 (some .int) 2 [.ref h0, .int p1] H0 (QI X Γ (fun v H1 => Kp X Γ [0, 2, 3, 4, 5, 18, 21, 23, 25, 27] H0 H1 ∧ (True))) := by
  refine q_enterI (own := "SnowForts$Yard") (by decide) rfl (Nat.le_of_ble_eq_true rfl) ?_
  intro p e s m args below meth c ls Qz E hl ret hS0
  have hx := E.1; have hb := E.2.1
  have hKp0 : Kp X Γ [0, 2, 3, 4, 5, 18, 21, 23, 25, 27] H0 H0 := Kp.rf
  have hl : lv_has ls 4 [(0, .ref h0), (1, .int p1)] := hl
  refine lv_iconst (v := 0) hx hb dX9_snowFalls_0 rfl ?_
  refine lv_istore_n hx hb dX9_snowFalls_1 rfl hl (by decide) rfl (fun ls hl => ?_)
  replace hl : lv_has ls 4 [(2, .int 0), (0, .ref h0), (1, .int p1)] := hl
  refine lv_iconst (v := 0) hx hb dX9_snowFalls_2 rfl ?_
  refine lv_istore_n hx hb dX9_snowFalls_3 rfl hl (by decide) rfl (fun ls hl => ?_)
  replace hl : lv_has ls 4 [(3, .int 0), (2, .int 0), (0, .ref h0), (1, .int p1)] := hl
  have L4 : ∀ (n23 : Nat) (H23 : Heap) (locs23 : List Loc) (v21 : Int32) (z21 : Int) (v22 : Int32) (z22 : Int) (ls : Array Slot), (36 - z21).toNat < n23 → v21.toInt = z21 → v22.toInt = z22 → z21 ≤ 36 → 0 ≤ z21 → Conf X Γ H23 → va_S (AΓ Γ) H0 H23 locs23 → Kp X Γ [0, 2, 3, 4, 5, 18, 21, 23, 25, 27] H0 H23 → lv_has ls 4 [(3, .int v21), (2, .int v22), (0, .ref h0), (1, .int p1)] → W p l e (rmL 2) s m args below meth c H23 locs23 0 0 Qz (F0 m 4 ls []) := by
    intro n23
    induction n23 with
    | zero => intro H23 locs23 v21 z21 v22 z22 ls hm23 ev21 ev22 iv23_0 iv23_1 hC23 hS23 hKp23 hl; exact absurd hm23 (Nat.not_lt_zero _)
    | succ n23 ih23 =>
      intro H23 locs23 v21 z21 v22 z22 ls hm23 ev21 ev22 iv23_0 iv23_1 hC23 hS23 hKp23 hl
      refine lv_iload_n hx hb dX9_snowFalls_4 rfl (lv_at hl 0 rfl) ?_
      refine lv_bipush (v := 36) hx hb dX9_snowFalls_5 rfl ?_
      refine q_icmp_ge hx hb (a := z21) (b := 36) ev21 (by decide) (tgt := 43) dX9_snowFalls_7 rfl (fun c24 => ?_) (fun c24 => ?_)
      · refine lv_iload_n hx hb dX9_snowFalls_43 rfl (lv_at hl 1 rfl) ?_
        exact ret v22 H23 locs23 _ _ dX9_snowFalls_44 ⟨hKp23, trivial⟩ hC23 hS23
      · refine lv_aload_n hx hb dX9_snowFalls_10 rfl (lv_at hl 2 rfl) ?_
        refine lv_iload_n hx hb dX9_snowFalls_11 rfl (lv_at hl 0 rfl) ?_
        refine q_goIp (q_runV (As := [.int v21]) (rest := []) E hC23 hS23 (m_X9_holds l X Γ H23 hC23 h0 g0 v21 (a1 := z21) ev21) cw_X9_holds cl_RX9_99 g0 ⟨rfl, rfl⟩ rfl hl.1 rfl (Nat.zero_le _) (by decide) dX9_snowFalls_12) hS23 (fun v25 locs25 hr25 hS25 => ?_)
        rcases hr25 with ⟨rfl, f25a0, f25a1⟩ | ⟨rfl, -⟩
        · refine q_if_eq hx hb (a := 1) (by decide) (tgt := 37) dX9_snowFalls_15 rfl (fun c26 => absurd c26 (by omega)) (fun c26 => ?_)
          refine lv_aload_n hx hb dX9_snowFalls_18 rfl (lv_at hl 2 rfl) ?_
          refine lv_dup hx hb dX9_snowFalls_19 rfl ?_
          refine q_getI E hC23 g0 fa_RX9_64 dX9_snowFalls_20 (fun v27 ev27 _ _ => ?_)
          refine lv_iload_n hx hb dX9_snowFalls_23 rfl (lv_at hl 3 rfl) ?_
          refine lv_iadd hx hb dX9_snowFalls_24 (lv_topi (fun v28 ev28 => ?_))
          refine q_put E hC23 hS25 g0 fp_RX9_64 tv_F rfl rfl dX9_snowFalls_25 (fun H29 locs29 hC29 hS29 U29 => ?_)
          have hKp29 := Kp.upO E g0 fp_RX9_64 rfl U29 hKp23
          have e30 := up_I U29
          refine lv_iload_n hx hb dX9_snowFalls_28 rfl (lv_at hl 1 rfl) ?_
          refine lv_aload_n hx hb dX9_snowFalls_29 rfl (lv_at hl 2 rfl) ?_
          refine lv_iload_n hx hb dX9_snowFalls_30 rfl (lv_at hl 0 rfl) ?_
          refine lv_iload_n hx hb dX9_snowFalls_31 rfl (lv_at hl 3 rfl) ?_
          refine q_goI (q_runV (As := [.int v21, .int p1]) (rest := [.int v22]) E hC29 hS29 (m_X9_heaps l X Γ H29 hC29 h0 g0 v21 (a1 := z21) ev21 p1 (a2 := a1) e1 (by omega) (by omega)) cw_X9_heaps cl_RX9_114 g0 ⟨rfl, rfl⟩ rfl hl.1 rfl (show _ ≤ _ from by simp [Value.category]) (by decide) dX9_snowFalls_32) hS29 (fun v31 H31 locs31 hr31 hC31 hS31 => ?_)
          obtain ⟨hp31, hr31⟩ := hr31
          have hKp31 := hKp29.tr (hp31.mono rfl)
          refine lv_iadd hx hb dX9_snowFalls_35 (lv_topi (fun v32 ev32 => ?_))
          refine lv_istore_n hx hb dX9_snowFalls_36 rfl hl (by decide) rfl (fun ls hl => ?_)
          replace hl : lv_has ls 4 [(2, .int v32), (3, .int v21), (0, .ref h0), (1, .int p1)] := hl
          obtain ⟨v33, ev33⟩ : ∃ z, z = v21 + Int32.ofInt 1 := ⟨_, rfl⟩
          have ev33i : v33.toInt = (z21 + 1) := i_add ev33 ev21 (by decide) (by omega) (by omega)
          refine lv_iinc hx hb dX9_snowFalls_37 hl (k := 1) rfl ev33.symm (by decide) rfl (fun ls hl => ?_)
          replace hl : lv_has ls 4 [(3, .int v33), (2, .int v32), (0, .ref h0), (1, .int p1)] := hl
          refine lv_goto (tgt := 4) hx hb dX9_snowFalls_40 rfl ?_
          exact ih23 H31 locs31 v33 ((z21 + 1)) v32 (v32.toInt) ls (by omega) ev33i rfl (by omega) (by omega) hC31 hS31 hKp31 hl
        · refine q_if_eq hx hb (a := 0) (by decide) (tgt := 37) dX9_snowFalls_15 rfl (fun c34 => ?_) (fun c34 => absurd c34 (by omega))
          obtain ⟨v35, ev35⟩ : ∃ z, z = v21 + Int32.ofInt 1 := ⟨_, rfl⟩
          have ev35i : v35.toInt = (z21 + 1) := i_add ev35 ev21 (by decide) (by omega) (by omega)
          refine lv_iinc hx hb dX9_snowFalls_37 hl (k := 0) rfl ev35.symm (by decide) rfl (fun ls hl => ?_)
          replace hl : lv_has ls 4 [(3, .int v35), (2, .int v22), (0, .ref h0), (1, .int p1)] := hl
          refine lv_goto (tgt := 4) hx hb dX9_snowFalls_40 rfl ?_
          exact ih23 H23 locs25 v35 ((z21 + 1)) v22 (z22) ls (by omega) ev35i ev22 (by omega) (by omega) hC23 hS25 hKp23 hl
  exact L4 _ H0 [] 0 0 0 0 ls (Nat.lt_succ_self _) (by decide) (by decide) (by omega) (by omega) hC0 hS0 hKp0 hl
set_option maxRecDepth 100000 in
set_option maxHeartbeats 4000000 in
theorem m_X11_fall (l : Launch) (X : xW) (Γ : Nat → Option Nat) (H0 : Heap) (hC0 : Conf X Γ H0) (h0 : Nat) (g0 : Γ h0 = some 0) (p1 : Int32) {a1 : Int} (e1 : p1.toInt = a1) : Ctr l X Γ yX11_fall cX11_fall 2 (some .int) 3 [.ref h0, .int p1] H0 (QI X Γ (fun v H1 => Kp X Γ [0, 2, 3, 4, 5, 18, 21, 23, 25, 27] H0 H1 ∧ (True))) := by
  refine q_enterI (own := "SnowForts") (by decide) rfl (Nat.le_of_ble_eq_true rfl) ?_
  intro p e s m args below meth c ls Qz E hl ret hS0
  have hx := E.1; have hb := E.2.1
  have hKp0 : Kp X Γ [0, 2, 3, 4, 5, 18, 21, 23, 25, 27] H0 H0 := Kp.rf
  have hl : lv_has ls 2 [(0, .ref h0), (1, .int p1)] := hl
  refine lv_iload_n hx hb dX11_fall_0 rfl (lv_at hl 1 rfl) ?_
  refine lv_i2l (v := p1.toInt64) hx hb dX11_fall_1 rfl (lv_topl (fun v21 ev21 => ?_))
  have ev21i : v21.toInt = a1 := l_ofi ev21.symm e1
  refine lv_iconst (v := 0) hx hb dX11_fall_2 rfl ?_
  refine lv_bipush (v := 40) hx hb dX11_fall_3 rfl ?_
  refine q_goIp (q_runS (As := [.long v21, .int 0, .int 40]) (rest := []) E hS0 (m_X11_isWithin l X Γ H0 hC0 v21 (a0 := a1) ev21i 0 (a1 := 0) (by decide) 40 (a2 := 40) (by decide)) cw_X11_isWithin cl_RX11_113 rfl hl.1 rfl (Nat.zero_le _) (by decide) dX11_fall_5) hS0 (fun v22 locs22 hr22 hS22 => ?_)
  rcases hr22 with ⟨rfl, f22a0, f22a1⟩ | ⟨rfl, f22b⟩
  · refine q_if_eq hx hb (a := 1) (by decide) (tgt := 26) dX11_fall_8 rfl (fun c23 => absurd c23 (by omega)) (fun c23 => ?_)
    refine lv_aload_n hx hb dX11_fall_11 rfl (lv_at hl 0 rfl) ?_
    refine lv_aload_n hx hb dX11_fall_12 rfl (lv_at hl 0 rfl) ?_
    refine q_getR E hC0 g0 fa_RX11_42 dX11_fall_13 (fun q24 eq24 gq24 => ?_)
    refine lv_iload_n hx hb dX11_fall_16 rfl (lv_at hl 1 rfl) ?_
    refine q_goI (q_runV (As := [.int p1]) (rest := [.ref h0]) E hC0 hS22 (m_X9_snowFalls l X Γ H0 hC0 q24 gq24 p1 (a1 := a1) e1) cw_X9_snowFalls cl_RX11_232 gq24 ⟨rfl, rfl⟩ rfl hl.1 rfl (show _ ≤ _ from by simp [Value.category]) (by decide) dX11_fall_17) hS22 (fun v25 H25 locs25 hr25 hC25 hS25 => ?_)
    obtain ⟨hp25, hr25⟩ := hr25
    have hKp25 := hKp0.tr (hp25.mono rfl)
    refine q_goI (q_runV (As := [.int v25]) (rest := []) E hC25 hS25 (m_X11_answer l X Γ H25 hC25 h0 g0 v25 (a1 := v25.toInt) rfl) cw_X11_answer cl_RX11_191 g0 ⟨rfl, rfl⟩ rfl hl.1 rfl (Nat.zero_le _) (by decide) dX11_fall_20) hS25 (fun v26 H26 locs26 hr26 hC26 hS26 => ?_)
    obtain ⟨hp26, hr26⟩ := hr26
    have hKp26 := hKp25.tr (hp26.mono rfl)
    have f26_0 := hr26
    refine lv_goto (tgt := 31) hx hb dX11_fall_23 rfl ?_
    exact ret v26 H26 locs26 _ _ dX11_fall_31 ⟨hKp26, trivial⟩ hC26 hS26
  · refine q_if_eq hx hb (a := 0) (by decide) (tgt := 26) dX11_fall_8 rfl (fun c27 => ?_) (fun c27 => absurd c27 (by omega))
    refine lv_aload_n hx hb dX11_fall_26 rfl (lv_at hl 0 rfl) ?_
    refine lv_iconst (v := 5) hx hb dX11_fall_27 rfl ?_
    refine q_goI (q_runV (As := [.int 5]) (rest := []) E hC0 hS22 (m_X11_refuse l X Γ H0 hC0 h0 g0 5 (a1 := 5) (by decide)) cw_X11_refuse cl_RX11_146 g0 ⟨rfl, rfl⟩ rfl hl.1 rfl (Nat.zero_le _) (by decide) dX11_fall_28) hS22 (fun v28 H28 locs28 hr28 hC28 hS28 => ?_)
    obtain ⟨hp28, hr28⟩ := hr28
    have hKp28 := hKp0.tr (hp28.mono rfl)
    have f28_0 := hr28
    exact ret v28 H28 locs28 _ _ dX11_fall_31 ⟨hKp28, trivial⟩ hC28 hS28
set_option maxRecDepth 100000 in
set_option maxHeartbeats 4000000 in
theorem m_X9_meltsAt (l : Launch) (X : xW) (Γ : Nat → Option Nat) (H0 : Heap) (hC0 : Conf X Γ H0) (h0 : Nat) (g0 : Γ h0 = some 5) (p1 : Int32) {a1 : Int} (e1 : p1.toInt = a1) (p2 : Int32) {a2 : Int} (e2 : p2.toInt = a2) (r0 : 0 ≤ a1) (r1 : a1 ≤ 35) : Ctr l X Γ yX9_meltsAt cX9_meltsAt 5 (some .int) 1 [.ref h0, .int p1, .int p2] H0 (QI X Γ (fun v H1 => Kp X Γ [0, 2, 3, 4, 5, 18, 21, 23, 25, 27] H0 H1 ∧ (True))) := by
  refine q_enterI (own := "SnowForts$Yard") (by decide) rfl (Nat.le_of_ble_eq_true rfl) ?_
  intro p e s m args below meth c ls Qz E hl ret hS0
  have hx := E.1; have hb := E.2.1
  have hKp0 : Kp X Γ [0, 2, 3, 4, 5, 18, 21, 23, 25, 27] H0 H0 := Kp.rf
  have hl : lv_has ls 5 [(0, .ref h0), (1, .int p1), (2, .int p2)] := hl
  refine lv_iload_n hx hb dX9_meltsAt_0 rfl (lv_at hl 2 rfl) ?_
  refine lv_aload_n hx hb dX9_meltsAt_1 rfl (lv_at hl 0 rfl) ?_
  refine q_getR E hC0 g0 fa_RX9_34 dX9_meltsAt_2 (fun q21 eq21 gq21 => ?_)
  refine lv_iload_n hx hb dX9_meltsAt_5 rfl (lv_at hl 1 rfl) ?_
  refine q_iald E hC0 gq21 rfl rfl (fun _ h => h) (i_in (a := a1) e1 (by omega) (by omega)) dX9_meltsAt_6 (fun v22 ev22 _ _ => ?_)
  refine q_mmin E hl.1 w_908 mathw_min (a := a2) (b := v22.toInt) e2 rfl (by decide) (Nat.zero_le _) dX9_meltsAt_7 (fun v23 mv23a mv23b mv23c => ?_)
  refine lv_istore_n hx hb dX9_meltsAt_10 rfl hl (by decide) rfl (fun ls hl => ?_)
  replace hl : lv_has ls 5 [(3, .int v23), (0, .ref h0), (1, .int p1), (2, .int p2)] := hl
  refine lv_aload_n hx hb dX9_meltsAt_11 rfl (lv_at hl 1 rfl) ?_
  refine q_getR E hC0 g0 fa_RX9_46 dX9_meltsAt_12 (fun q24 eq24 gq24 => ?_)
  refine lv_iload_n hx hb dX9_meltsAt_15 rfl (lv_at hl 2 rfl) ?_
  refine q_iald E hC0 gq24 rfl rfl (fun _ h => h) (i_in (a := a1) e1 (by omega) (by omega)) dX9_meltsAt_16 (fun v25 ev25 _ _ => ?_)
  refine lv_iconst (v := 1) hx hb dX9_meltsAt_17 rfl ?_
  refine q_icmp_ne hx hb (a := v25.toInt) (b := 1) rfl (by decide) (tgt := 25) dX9_meltsAt_18 rfl (fun c26 => ?_) (fun c26 => ?_)
  · refine lv_iload_n hx hb dX9_meltsAt_25 rfl (lv_at hl 3 rfl) ?_
    refine lv_iload_n hx hb dX9_meltsAt_26 rfl (lv_at hl 0 rfl) ?_
    refine lv_isub hx hb dX9_meltsAt_27 (lv_topi (fun v27 ev27 => ?_))
    refine lv_aload_n hx hb dX9_meltsAt_28 rfl (lv_at hl 1 rfl) ?_
    refine q_getR E hC0 g0 fa_RX9_37 dX9_meltsAt_29 (fun q28 eq28 gq28 => ?_)
    refine lv_iload_n hx hb dX9_meltsAt_32 rfl (lv_at hl 2 rfl) ?_
    refine q_iald E hC0 gq28 rfl rfl (fun _ h => h) (i_in (a := a1) e1 (by omega) (by omega)) dX9_meltsAt_33 (fun v29 ev29 _ _ => ?_)
    refine q_mmin E hl.1 w_908 mathw_min (a := v27.toInt) (b := v29.toInt) rfl rfl (by decide) (Nat.zero_le _) dX9_meltsAt_34 (fun v30 mv30a mv30b mv30c => ?_)
    refine lv_istore hx hb dX9_meltsAt_37 hl (by decide) rfl (fun ls hl => ?_)
    replace hl : lv_has ls 5 [(4, .int v30), (3, .int v23), (0, .ref h0), (1, .int p1), (2, .int p2)] := hl
    refine lv_aload_n hx hb dX9_meltsAt_39 rfl (lv_at hl 2 rfl) ?_
    refine q_getR E hC0 g0 fa_RX9_34 dX9_meltsAt_40 (fun q31 eq31 gq31 => ?_)
    refine lv_iload_n hx hb dX9_meltsAt_43 rfl (lv_at hl 3 rfl) ?_
    refine lv_dup2_11 hx hb dX9_meltsAt_44 rfl rfl ?_
    refine q_iald E hC0 gq31 rfl rfl (fun _ h => h) (i_in (a := a1) e1 (by omega) (by omega)) dX9_meltsAt_45 (fun v32 ev32 _ _ => ?_)
    refine lv_iload_n hx hb dX9_meltsAt_46 rfl (lv_at hl 1 rfl) ?_
    refine lv_isub hx hb dX9_meltsAt_47 (lv_topi (fun v33 ev33 => ?_))
    refine q_iast E hC0 hS0 gq31 (by decide) rfl rfl (i_in (a := a1) e1 (by omega) (by omega)) tv_F dX9_meltsAt_48 (fun H34 locs34 hC34 hS34 U34 => ?_)
    have hKp34 := Kp.upA gq31 rfl (by decide) rfl U34 hKp0
    refine lv_aload_n hx hb dX9_meltsAt_49 rfl (lv_at hl 2 rfl) ?_
    refine q_getR E hC34 g0 fa_RX9_37 dX9_meltsAt_50 (fun q35 eq35 gq35 => ?_)
    refine lv_iload_n hx hb dX9_meltsAt_53 rfl (lv_at hl 3 rfl) ?_
    refine lv_dup2_11 hx hb dX9_meltsAt_54 rfl rfl ?_
    refine q_iald E hC34 gq35 rfl rfl (fun _ h => h) (i_in (a := a1) e1 (by omega) (by omega)) dX9_meltsAt_55 (fun v36 ev36 _ _ => ?_)
    refine lv_iload hx hb dX9_meltsAt_56 (lv_at hl 0 rfl) ?_
    refine lv_isub hx hb dX9_meltsAt_58 (lv_topi (fun v37 ev37 => ?_))
    refine q_iast E hC34 hS34 gq35 (by decide) rfl rfl (i_in (a := a1) e1 (by omega) (by omega)) tv_F dX9_meltsAt_59 (fun H38 locs38 hC38 hS38 U38 => ?_)
    have hKp38 := Kp.upA gq35 rfl (by decide) rfl U38 hKp34
    refine lv_aload_n hx hb dX9_meltsAt_60 rfl (lv_at hl 2 rfl) ?_
    refine q_getR E hC38 g0 fa_RX9_46 dX9_meltsAt_61 (fun q39 eq39 gq39 => ?_)
    refine lv_iload_n hx hb dX9_meltsAt_64 rfl (lv_at hl 3 rfl) ?_
    refine lv_iconst (v := 0) hx hb dX9_meltsAt_65 rfl ?_
    refine q_iast E hC38 hS38 gq39 (by decide) rfl rfl (i_in (a := a1) e1 (by omega) (by omega)) tv_F dX9_meltsAt_66 (fun H40 locs40 hC40 hS40 U40 => ?_)
    have hKp40 := Kp.upA gq39 rfl (by decide) rfl U40 hKp38
    refine lv_aload_n hx hb dX9_meltsAt_67 rfl (lv_at hl 2 rfl) ?_
    refine q_getR E hC40 g0 fa_RX9_49 dX9_meltsAt_68 (fun q41 eq41 gq41 => ?_)
    refine lv_iload_n hx hb dX9_meltsAt_71 rfl (lv_at hl 3 rfl) ?_
    refine lv_iconst (v := 0) hx hb dX9_meltsAt_72 rfl ?_
    refine q_iast E hC40 hS40 gq41 (by decide) rfl rfl (i_in (a := a1) e1 (by omega) (by omega)) tv_F dX9_meltsAt_73 (fun H42 locs42 hC42 hS42 U42 => ?_)
    have hKp42 := Kp.upA gq41 rfl (by decide) rfl U42 hKp40
    refine lv_iload_n hx hb dX9_meltsAt_74 rfl (lv_at hl 1 rfl) ?_
    refine lv_iload hx hb dX9_meltsAt_75 (lv_at hl 0 rfl) ?_
    refine lv_iadd hx hb dX9_meltsAt_77 (lv_topi (fun v43 ev43 => ?_))
    exact ret v43 H42 locs42 _ _ dX9_meltsAt_78 ⟨hKp42, trivial⟩ hC42 hS42
  · refine lv_iconst (v := 0) hx hb dX9_meltsAt_21 rfl ?_
    refine lv_goto (tgt := 37) hx hb dX9_meltsAt_22 rfl ?_
    refine lv_istore hx hb dX9_meltsAt_37 hl (by decide) rfl (fun ls hl => ?_)
    replace hl : lv_has ls 5 [(4, .int 0), (3, .int v23), (0, .ref h0), (1, .int p1), (2, .int p2)] := hl
    refine lv_aload_n hx hb dX9_meltsAt_39 rfl (lv_at hl 2 rfl) ?_
    refine q_getR E hC0 g0 fa_RX9_34 dX9_meltsAt_40 (fun q44 eq44 gq44 => ?_)
    refine lv_iload_n hx hb dX9_meltsAt_43 rfl (lv_at hl 3 rfl) ?_
    refine lv_dup2_11 hx hb dX9_meltsAt_44 rfl rfl ?_
    refine q_iald E hC0 gq44 rfl rfl (fun _ h => h) (i_in (a := a1) e1 (by omega) (by omega)) dX9_meltsAt_45 (fun v45 ev45 _ _ => ?_)
    refine lv_iload_n hx hb dX9_meltsAt_46 rfl (lv_at hl 1 rfl) ?_
    refine lv_isub hx hb dX9_meltsAt_47 (lv_topi (fun v46 ev46 => ?_))
    refine q_iast E hC0 hS0 gq44 (by decide) rfl rfl (i_in (a := a1) e1 (by omega) (by omega)) tv_F dX9_meltsAt_48 (fun H47 locs47 hC47 hS47 U47 => ?_)
    have hKp47 := Kp.upA gq44 rfl (by decide) rfl U47 hKp0
    refine lv_aload_n hx hb dX9_meltsAt_49 rfl (lv_at hl 2 rfl) ?_
    refine q_getR E hC47 g0 fa_RX9_37 dX9_meltsAt_50 (fun q48 eq48 gq48 => ?_)
    refine lv_iload_n hx hb dX9_meltsAt_53 rfl (lv_at hl 3 rfl) ?_
    refine lv_dup2_11 hx hb dX9_meltsAt_54 rfl rfl ?_
    refine q_iald E hC47 gq48 rfl rfl (fun _ h => h) (i_in (a := a1) e1 (by omega) (by omega)) dX9_meltsAt_55 (fun v49 ev49 _ _ => ?_)
    refine lv_iload hx hb dX9_meltsAt_56 (lv_at hl 0 rfl) ?_
    refine lv_isub hx hb dX9_meltsAt_58 (lv_topi (fun v50 ev50 => ?_))
    have c51 := i_rng v49; rw [show v49.toInt = v49.toInt from rfl] at c51
    have ev50i : v50.toInt = (v49.toInt - 0) := i_sub ev50 rfl (by decide) (by omega) (by omega)
    refine q_iast E hC47 hS47 gq48 (by decide) rfl rfl (i_in (a := a1) e1 (by omega) (by omega)) tv_F dX9_meltsAt_59 (fun H52 locs52 hC52 hS52 U52 => ?_)
    have hKp52 := Kp.upA gq48 rfl (by decide) rfl U52 hKp47
    refine lv_aload_n hx hb dX9_meltsAt_60 rfl (lv_at hl 2 rfl) ?_
    refine q_getR E hC52 g0 fa_RX9_46 dX9_meltsAt_61 (fun q53 eq53 gq53 => ?_)
    refine lv_iload_n hx hb dX9_meltsAt_64 rfl (lv_at hl 3 rfl) ?_
    refine lv_iconst (v := 0) hx hb dX9_meltsAt_65 rfl ?_
    refine q_iast E hC52 hS52 gq53 (by decide) rfl rfl (i_in (a := a1) e1 (by omega) (by omega)) tv_F dX9_meltsAt_66 (fun H54 locs54 hC54 hS54 U54 => ?_)
    have hKp54 := Kp.upA gq53 rfl (by decide) rfl U54 hKp52
    refine lv_aload_n hx hb dX9_meltsAt_67 rfl (lv_at hl 2 rfl) ?_
    refine q_getR E hC54 g0 fa_RX9_49 dX9_meltsAt_68 (fun q55 eq55 gq55 => ?_)
    refine lv_iload_n hx hb dX9_meltsAt_71 rfl (lv_at hl 3 rfl) ?_
    refine lv_iconst (v := 0) hx hb dX9_meltsAt_72 rfl ?_
    refine q_iast E hC54 hS54 gq55 (by decide) rfl rfl (i_in (a := a1) e1 (by omega) (by omega)) tv_F dX9_meltsAt_73 (fun H56 locs56 hC56 hS56 U56 => ?_)
    have hKp56 := Kp.upA gq55 rfl (by decide) rfl U56 hKp54
    refine lv_iload_n hx hb dX9_meltsAt_74 rfl (lv_at hl 1 rfl) ?_
    refine lv_iload hx hb dX9_meltsAt_75 (lv_at hl 0 rfl) ?_
    refine lv_iadd hx hb dX9_meltsAt_77 (lv_topi (fun v57 ev57 => ?_))
    have c58 := i_rng v23; rw [show v23.toInt = v23.toInt from rfl] at c58
    have ev57i : v57.toInt = (v23.toInt + 0) := i_add ev57 rfl (by decide) (by omega) (by omega)
    exact ret v57 H56 locs56 _ _ dX9_meltsAt_78 ⟨hKp56, trivial⟩ hC56 hS56
set_option maxRecDepth 100000 in
set_option maxHeartbeats 4000000 in
theorem m_X9_melts (l : Launch) (X : xW) (Γ : Nat → Option Nat) (H0 : Heap) (hC0 : Conf X Γ H0) (h0 : Nat) (g0 : Γ h0 = some 5) (p1 : Int32) {a1 : Int} (e1 : p1.toInt = a1) : Ctr l X Γ yX9_melts cX9_melts 4 (some .int) 2 [.ref h0, .int p1] H0 (QI X Γ (fun v H1 => Kp X Γ [0, 2, 3, 4, 5, 18, 21, 23, 25, 27] H0 H1 ∧ (True))) := by
  refine q_enterI (own := "SnowForts$Yard") (by decide) rfl (Nat.le_of_ble_eq_true rfl) ?_
  intro p e s m args below meth c ls Qz E hl ret hS0
  have hx := E.1; have hb := E.2.1
  have hKp0 : Kp X Γ [0, 2, 3, 4, 5, 18, 21, 23, 25, 27] H0 H0 := Kp.rf
  have hl : lv_has ls 4 [(0, .ref h0), (1, .int p1)] := hl
  refine lv_iconst (v := 0) hx hb dX9_melts_0 rfl ?_
  refine lv_istore_n hx hb dX9_melts_1 rfl hl (by decide) rfl (fun ls hl => ?_)
  replace hl : lv_has ls 4 [(2, .int 0), (0, .ref h0), (1, .int p1)] := hl
  refine lv_iconst (v := 0) hx hb dX9_melts_2 rfl ?_
  refine lv_istore_n hx hb dX9_melts_3 rfl hl (by decide) rfl (fun ls hl => ?_)
  replace hl : lv_has ls 4 [(3, .int 0), (2, .int 0), (0, .ref h0), (1, .int p1)] := hl
  have L4 : ∀ (n23 : Nat) (H23 : Heap) (locs23 : List Loc) (v21 : Int32) (z21 : Int) (v22 : Int32) (z22 : Int) (ls : Array Slot), (36 - z21).toNat < n23 → v21.toInt = z21 → v22.toInt = z22 → z21 ≤ 36 → 0 ≤ z21 → Conf X Γ H23 → va_S (AΓ Γ) H0 H23 locs23 → Kp X Γ [0, 2, 3, 4, 5, 18, 21, 23, 25, 27] H0 H23 → lv_has ls 4 [(3, .int v21), (2, .int v22), (0, .ref h0), (1, .int p1)] → W p l e (rmL 2) s m args below meth c H23 locs23 0 0 Qz (F0 m 4 ls []) := by
    intro n23
    induction n23 with
    | zero => intro H23 locs23 v21 z21 v22 z22 ls hm23 ev21 ev22 iv23_0 iv23_1 hC23 hS23 hKp23 hl; exact absurd hm23 (Nat.not_lt_zero _)
    | succ n23 ih23 =>
      intro H23 locs23 v21 z21 v22 z22 ls hm23 ev21 ev22 iv23_0 iv23_1 hC23 hS23 hKp23 hl
      refine lv_iload_n hx hb dX9_melts_4 rfl (lv_at hl 0 rfl) ?_
      refine lv_bipush (v := 36) hx hb dX9_melts_5 rfl ?_
      refine q_icmp_ge hx hb (a := z21) (b := 36) ev21 (by decide) (tgt := 40) dX9_melts_7 rfl (fun c24 => ?_) (fun c24 => ?_)
      · refine lv_aload_n hx hb dX9_melts_40 rfl (lv_at hl 2 rfl) ?_
        refine lv_dup hx hb dX9_melts_41 rfl ?_
        refine q_getI E hC23 g0 fa_RX9_58 dX9_melts_42 (fun v25 ev25 _ _ => ?_)
        refine lv_iload_n hx hb dX9_melts_45 rfl (lv_at hl 1 rfl) ?_
        refine lv_iadd hx hb dX9_melts_46 (lv_topi (fun v26 ev26 => ?_))
        refine q_put E hC23 hS23 g0 fp_RX9_58 tv_F rfl rfl dX9_melts_47 (fun H27 locs27 hC27 hS27 U27 => ?_)
        have hKp27 := Kp.upO E g0 fp_RX9_58 rfl U27 hKp23
        have e28 := up_I U27
        refine lv_iload_n hx hb dX9_melts_50 rfl (lv_at hl 1 rfl) ?_
        exact ret v22 H27 locs27 _ _ dX9_melts_51 ⟨hKp27, trivial⟩ hC27 hS27
      · refine lv_aload_n hx hb dX9_melts_10 rfl (lv_at hl 2 rfl) ?_
        refine lv_iload_n hx hb dX9_melts_11 rfl (lv_at hl 0 rfl) ?_
        refine q_goIp (q_runV (As := [.int v21]) (rest := []) E hC23 hS23 (m_X9_holds l X Γ H23 hC23 h0 g0 v21 (a1 := z21) ev21) cw_X9_holds cl_RX9_99 g0 ⟨rfl, rfl⟩ rfl hl.1 rfl (Nat.zero_le _) (by decide) dX9_melts_12) hS23 (fun v29 locs29 hr29 hS29 => ?_)
        rcases hr29 with ⟨rfl, f29a0, f29a1⟩ | ⟨rfl, -⟩
        · refine q_if_eq hx hb (a := 1) (by decide) (tgt := 34) dX9_melts_15 rfl (fun c30 => absurd c30 (by omega)) (fun c30 => ?_)
          refine lv_iload_n hx hb dX9_melts_18 rfl (lv_at hl 1 rfl) ?_
          refine lv_aload_n hx hb dX9_melts_19 rfl (lv_at hl 2 rfl) ?_
          refine lv_iload_n hx hb dX9_melts_20 rfl (lv_at hl 0 rfl) ?_
          refine lv_iload_n hx hb dX9_melts_21 rfl (lv_at hl 3 rfl) ?_
          refine lv_aload_n hx hb dX9_melts_22 rfl (lv_at hl 2 rfl) ?_
          refine q_getR E hC23 g0 fa_RX9_40 dX9_melts_23 (fun q31 eq31 gq31 => ?_)
          refine lv_iload_n hx hb dX9_melts_26 rfl (lv_at hl 0 rfl) ?_
          refine q_iald E hC23 gq31 rfl rfl (fun _ h => h) (i_in (a := z21) ev21 (by omega) (by omega)) dX9_melts_27 (fun v32 ev32 _ _ => ?_)
          refine lv_iadd hx hb dX9_melts_28 (lv_topi (fun v33 ev33 => ?_))
          refine q_goI (q_runV (As := [.int v21, .int v33]) (rest := [.int v22]) E hC23 hS29 (m_X9_meltsAt l X Γ H23 hC23 h0 g0 v21 (a1 := z21) ev21 v33 (a2 := v33.toInt) rfl (by omega) (by omega)) cw_X9_meltsAt cl_RX9_123 g0 ⟨rfl, rfl⟩ rfl hl.1 rfl (show _ ≤ _ from by simp [Value.category]) (by decide) dX9_melts_29) hS29 (fun v34 H34 locs34 hr34 hC34 hS34 => ?_)
          obtain ⟨hp34, hr34⟩ := hr34
          have hKp34 := hKp23.tr (hp34.mono rfl)
          refine lv_iadd hx hb dX9_melts_32 (lv_topi (fun v35 ev35 => ?_))
          refine lv_istore_n hx hb dX9_melts_33 rfl hl (by decide) rfl (fun ls hl => ?_)
          replace hl : lv_has ls 4 [(2, .int v35), (3, .int v21), (0, .ref h0), (1, .int p1)] := hl
          obtain ⟨v36, ev36⟩ : ∃ z, z = v21 + Int32.ofInt 1 := ⟨_, rfl⟩
          have ev36i : v36.toInt = (z21 + 1) := i_add ev36 ev21 (by decide) (by omega) (by omega)
          refine lv_iinc hx hb dX9_melts_34 hl (k := 1) rfl ev36.symm (by decide) rfl (fun ls hl => ?_)
          replace hl : lv_has ls 4 [(3, .int v36), (2, .int v35), (0, .ref h0), (1, .int p1)] := hl
          refine lv_goto (tgt := 4) hx hb dX9_melts_37 rfl ?_
          exact ih23 H34 locs34 v36 ((z21 + 1)) v35 (v35.toInt) ls (by omega) ev36i rfl (by omega) (by omega) hC34 hS34 hKp34 hl
        · refine q_if_eq hx hb (a := 0) (by decide) (tgt := 34) dX9_melts_15 rfl (fun c37 => ?_) (fun c37 => absurd c37 (by omega))
          obtain ⟨v38, ev38⟩ : ∃ z, z = v21 + Int32.ofInt 1 := ⟨_, rfl⟩
          have ev38i : v38.toInt = (z21 + 1) := i_add ev38 ev21 (by decide) (by omega) (by omega)
          refine lv_iinc hx hb dX9_melts_34 hl (k := 0) rfl ev38.symm (by decide) rfl (fun ls hl => ?_)
          replace hl : lv_has ls 4 [(3, .int v38), (2, .int v22), (0, .ref h0), (1, .int p1)] := hl
          refine lv_goto (tgt := 4) hx hb dX9_melts_37 rfl ?_
          exact ih23 H23 locs29 v38 ((z21 + 1)) v22 (z22) ls (by omega) ev38i ev22 (by omega) (by omega) hC23 hS29 hKp23 hl
  exact L4 _ H0 [] 0 0 0 0 ls (Nat.lt_succ_self _) (by decide) (by decide) (by omega) (by omega) hC0 hS0 hKp0 hl
set_option maxRecDepth 100000 in
set_option maxHeartbeats 4000000 in
theorem m_X11_thaw (l : Launch) (X : xW) (Γ : Nat → Option Nat) (H0 : Heap) (hC0 : Conf X Γ H0) (h0 : Nat) (g0 : Γ h0 = some 0) (p1 : Int32) {a1 : Int} (e1 : p1.toInt = a1) : Ctr l X Γ yX11_thaw cX11_thaw 2 (some .int) 3 [.ref h0, .int p1] H0 (QI X Γ (fun v H1 => Kp X Γ [0, 2, 3, 4, 5, 18, 21, 23, 25, 27] H0 H1 ∧ (True))) := by
  refine q_enterI (own := "SnowForts") (by decide) rfl (Nat.le_of_ble_eq_true rfl) ?_
  intro p e s m args below meth c ls Qz E hl ret hS0
  have hx := E.1; have hb := E.2.1
  have hKp0 : Kp X Γ [0, 2, 3, 4, 5, 18, 21, 23, 25, 27] H0 H0 := Kp.rf
  have hl : lv_has ls 2 [(0, .ref h0), (1, .int p1)] := hl
  refine lv_iload_n hx hb dX11_thaw_0 rfl (lv_at hl 1 rfl) ?_
  refine lv_i2l (v := p1.toInt64) hx hb dX11_thaw_1 rfl (lv_topl (fun v21 ev21 => ?_))
  have ev21i : v21.toInt = a1 := l_ofi ev21.symm e1
  refine lv_iconst (v := 0) hx hb dX11_thaw_2 rfl ?_
  refine lv_bipush (v := 40) hx hb dX11_thaw_3 rfl ?_
  refine q_goIp (q_runS (As := [.long v21, .int 0, .int 40]) (rest := []) E hS0 (m_X11_isWithin l X Γ H0 hC0 v21 (a0 := a1) ev21i 0 (a1 := 0) (by decide) 40 (a2 := 40) (by decide)) cw_X11_isWithin cl_RX11_113 rfl hl.1 rfl (Nat.zero_le _) (by decide) dX11_thaw_5) hS0 (fun v22 locs22 hr22 hS22 => ?_)
  rcases hr22 with ⟨rfl, f22a0, f22a1⟩ | ⟨rfl, f22b⟩
  · refine q_if_eq hx hb (a := 1) (by decide) (tgt := 26) dX11_thaw_8 rfl (fun c23 => absurd c23 (by omega)) (fun c23 => ?_)
    refine lv_aload_n hx hb dX11_thaw_11 rfl (lv_at hl 0 rfl) ?_
    refine lv_aload_n hx hb dX11_thaw_12 rfl (lv_at hl 0 rfl) ?_
    refine q_getR E hC0 g0 fa_RX11_42 dX11_thaw_13 (fun q24 eq24 gq24 => ?_)
    refine lv_iload_n hx hb dX11_thaw_16 rfl (lv_at hl 1 rfl) ?_
    refine q_goI (q_runV (As := [.int p1]) (rest := [.ref h0]) E hC0 hS22 (m_X9_melts l X Γ H0 hC0 q24 gq24 p1 (a1 := a1) e1) cw_X9_melts cl_RX11_235 gq24 ⟨rfl, rfl⟩ rfl hl.1 rfl (show _ ≤ _ from by simp [Value.category]) (by decide) dX11_thaw_17) hS22 (fun v25 H25 locs25 hr25 hC25 hS25 => ?_)
    obtain ⟨hp25, hr25⟩ := hr25
    have hKp25 := hKp0.tr (hp25.mono rfl)
    refine q_goI (q_runV (As := [.int v25]) (rest := []) E hC25 hS25 (m_X11_answer l X Γ H25 hC25 h0 g0 v25 (a1 := v25.toInt) rfl) cw_X11_answer cl_RX11_191 g0 ⟨rfl, rfl⟩ rfl hl.1 rfl (Nat.zero_le _) (by decide) dX11_thaw_20) hS25 (fun v26 H26 locs26 hr26 hC26 hS26 => ?_)
    obtain ⟨hp26, hr26⟩ := hr26
    have hKp26 := hKp25.tr (hp26.mono rfl)
    have f26_0 := hr26
    refine lv_goto (tgt := 31) hx hb dX11_thaw_23 rfl ?_
    exact ret v26 H26 locs26 _ _ dX11_thaw_31 ⟨hKp26, trivial⟩ hC26 hS26
  · refine q_if_eq hx hb (a := 0) (by decide) (tgt := 26) dX11_thaw_8 rfl (fun c27 => ?_) (fun c27 => absurd c27 (by omega))
    refine lv_aload_n hx hb dX11_thaw_26 rfl (lv_at hl 0 rfl) ?_
    refine lv_iconst (v := 5) hx hb dX11_thaw_27 rfl ?_
    refine q_goI (q_runV (As := [.int 5]) (rest := []) E hC0 hS22 (m_X11_refuse l X Γ H0 hC0 h0 g0 5 (a1 := 5) (by decide)) cw_X11_refuse cl_RX11_146 g0 ⟨rfl, rfl⟩ rfl hl.1 rfl (Nat.zero_le _) (by decide) dX11_thaw_28) hS22 (fun v28 H28 locs28 hr28 hC28 hS28 => ?_)
    obtain ⟨hp28, hr28⟩ := hr28
    have hKp28 := hKp0.tr (hp28.mono rfl)
    have f28_0 := hr28
    exact ret v28 H28 locs28 _ _ dX11_thaw_31 ⟨hKp28, trivial⟩ hC28 hS28
set_option maxRecDepth 100000 in
set_option maxHeartbeats 4000000 in
theorem m_X9_isOwned (l : Launch) (X : xW) (Γ : Nat → Option Nat) (H0 : Heap) (hC0 : Conf X Γ H0) (h0 : Nat) (g0 : Γ h0 = some 5) (p1 : Int32) {a1 : Int} (e1 : p1.toInt = a1) (p2 : Int32) {a2 : Int} (e2 : p2.toInt = a2) : Ctr l X Γ yX9_isOwned cX9_isOwned 3 (some .boolean) 1 [.ref h0, .int p1, .int p2] H0 (QI X Γ (fun v H1 => H1 = H0 ∧ (v = 0 ∨ v = 1))) := by
  refine q_enterZ (own := "SnowForts$Yard") (by decide) rfl (Nat.le_of_ble_eq_true rfl) ?_
  intro p e s m args below meth c ls Qz E hl ret hS0
  have hx := E.1; have hb := E.2.1
  have hl : lv_has ls 3 [(0, .ref h0), (1, .int p1), (2, .int p2)] := hl
  refine lv_aload_n hx hb dX9_isOwned_0 rfl (lv_at hl 0 rfl) ?_
  refine lv_iload_n hx hb dX9_isOwned_1 rfl (lv_at hl 1 rfl) ?_
  refine lv_iload_n hx hb dX9_isOwned_2 rfl (lv_at hl 2 rfl) ?_
  refine q_goIp (q_runV (As := [.int p1, .int p2]) (rest := []) E hC0 hS0 (m_X9_isCell l X Γ H0 hC0 h0 g0 p1 (a1 := a1) e1 p2 (a2 := a2) e2) cw_X9_isCell cl_RX9_79 g0 ⟨rfl, rfl⟩ rfl hl.1 rfl (Nat.zero_le _) (by decide) dX9_isOwned_3) hS0 (fun v21 locs21 hr21 hS21 => ?_)
  rcases hr21 with ⟨rfl, f21a0, f21a1, f21a2, f21a3⟩ | ⟨rfl, -⟩
  · refine q_if_eq hx hb (a := 1) (by decide) (tgt := 25) dX9_isOwned_6 rfl (fun c22 => absurd c22 (by omega)) (fun c22 => ?_)
    refine lv_aload_n hx hb dX9_isOwned_9 rfl (lv_at hl 0 rfl) ?_
    refine lv_aload_n hx hb dX9_isOwned_10 rfl (lv_at hl 0 rfl) ?_
    refine lv_iload_n hx hb dX9_isOwned_11 rfl (lv_at hl 1 rfl) ?_
    refine q_goIp (q_runV (As := [.int p1]) (rest := [.ref h0]) E hC0 hS21 (m_X9_halfOfColumn l X Γ H0 hC0 h0 g0 p1 (a1 := a1) e1) cw_X9_halfOfColumn cl_RX9_83 g0 ⟨rfl, rfl⟩ rfl hl.1 rfl (show _ ≤ _ from by simp [Value.category]) (by decide) dX9_isOwned_12) hS21 (fun v23 locs23 hr23 hS23 => ?_)
    obtain ⟨f23_0, f23_1⟩ := hr23
    refine q_goIp (q_runV (As := [.int v23]) (rest := []) E hC0 hS23 (m_X9_isSchool l X Γ H0 hC0 h0 g0 v23 (a1 := v23.toInt) rfl) cw_X9_isSchool cl_RX9_87 g0 ⟨rfl, rfl⟩ rfl hl.1 rfl (Nat.zero_le _) (by decide) dX9_isOwned_15) hS23 (fun v24 locs24 hr24 hS24 => ?_)
    rcases hr24 with ⟨rfl, f24a0, f24a1⟩ | ⟨rfl, -⟩
    · refine q_if_eq hx hb (a := 1) (by decide) (tgt := 25) dX9_isOwned_18 rfl (fun c25 => absurd c25 (by omega)) (fun c25 => ?_)
      refine lv_iconst (v := 1) hx hb dX9_isOwned_21 rfl ?_
      refine lv_goto (tgt := 26) hx hb dX9_isOwned_22 rfl ?_
      exact ret 1 H0 locs24 _ _ dX9_isOwned_26 (Or.inr rfl) ⟨rfl, Or.inr rfl⟩ hC0 hS24
    · refine q_if_eq hx hb (a := 0) (by decide) (tgt := 25) dX9_isOwned_18 rfl (fun c26 => ?_) (fun c26 => absurd c26 (by omega))
      refine lv_iconst (v := 0) hx hb dX9_isOwned_25 rfl ?_
      exact ret 0 H0 locs24 _ _ dX9_isOwned_26 (Or.inl rfl) ⟨rfl, Or.inl rfl⟩ hC0 hS24
  · refine q_if_eq hx hb (a := 0) (by decide) (tgt := 25) dX9_isOwned_6 rfl (fun c27 => ?_) (fun c27 => absurd c27 (by omega))
    refine lv_iconst (v := 0) hx hb dX9_isOwned_25 rfl ?_
    exact ret 0 H0 locs21 _ _ dX9_isOwned_26 (Or.inl rfl) ⟨rfl, Or.inl rfl⟩ hC0 hS21
set_option maxRecDepth 100000 in
set_option maxHeartbeats 4000000 in
theorem m_X9_handsLeft (l : Launch) (X : xW) (Γ : Nat → Option Nat) (H0 : Heap) (hC0 : Conf X Γ H0) (h0 : Nat) (g0 : Γ h0 = some 5) (p1 : Int32) {a1 : Int} (e1 : p1.toInt = a1) (r0 : 0 ≤ a1) (r1 : a1 ≤ 1) : Ctr l X Γ yX9_handsLeft cX9_handsLeft 2 (some .int) 1 [.ref h0, .int p1] H0 (QI X Γ (fun v H1 => H1 = H0 ∧ (True))) := by
  refine q_enterI (own := "SnowForts$Yard") (by decide) rfl (Nat.le_of_ble_eq_true rfl) ?_
  intro p e s m args below meth c ls Qz E hl ret hS0
  have hx := E.1; have hb := E.2.1
  have hl : lv_has ls 2 [(0, .ref h0), (1, .int p1)] := hl
  refine lv_iconst (v := 0) hx hb dX9_handsLeft_0 rfl ?_
  refine lv_aload_n hx hb dX9_handsLeft_1 rfl (lv_at hl 0 rfl) ?_
  refine q_getR E hC0 g0 fa_RX9_18 dX9_handsLeft_2 (fun q21 eq21 gq21 => ?_)
  refine lv_iload_n hx hb dX9_handsLeft_5 rfl (lv_at hl 1 rfl) ?_
  refine q_iald E hC0 gq21 rfl rfl (fun _ h => h) (i_in (a := a1) e1 (by omega) (by omega)) dX9_handsLeft_6 (fun v22 ev22 _ _ => ?_)
  refine lv_aload_n hx hb dX9_handsLeft_7 rfl (lv_at hl 0 rfl) ?_
  refine q_getR E hC0 g0 fa_RX9_22 dX9_handsLeft_8 (fun q23 eq23 gq23 => ?_)
  refine lv_iload_n hx hb dX9_handsLeft_11 rfl (lv_at hl 1 rfl) ?_
  refine q_iald E hC0 gq23 rfl rfl (fun _ h => h) (i_in (a := a1) e1 (by omega) (by omega)) dX9_handsLeft_12 (fun v24 ev24 _ _ => ?_)
  refine lv_isub hx hb dX9_handsLeft_13 (lv_topi (fun v25 ev25 => ?_))
  refine q_mmax E hl.1 w_893 mathw_max (a := 0) (b := v25.toInt) (show (0 : Int32).toInt = 0 from by decide) rfl (by decide) (Nat.zero_le _) dX9_handsLeft_14 (fun v26 mv26a mv26b mv26c => ?_)
  exact ret v26 H0 [] _ _ dX9_handsLeft_17 ⟨rfl, trivial⟩ hC0 hS0
set_option maxRecDepth 100000 in
set_option maxHeartbeats 4000000 in
theorem m_X9_across (l : Launch) (X : xW) (Γ : Nat → Option Nat) (H0 : Heap) (hC0 : Conf X Γ H0) (h0 : Nat) (g0 : Γ h0 = some 5) (p1 : Int32) {a1 : Int} (e1 : p1.toInt = a1) : Ctr l X Γ yX9_across cX9_across 3 (some .int) 0 [.ref h0, .int p1] H0 (QI X Γ (fun v H1 => H1 = H0 ∧ ((0 ≤ v.toInt) ∧ (v.toInt ≤ 35)))) := by
  refine q_enterI (own := "SnowForts$Yard") (by decide) rfl (Nat.le_of_ble_eq_true rfl) ?_
  intro p e s m args below meth c ls Qz E hl ret hS0
  have hx := E.1; have hb := E.2.1
  have hl : lv_has ls 3 [(0, .ref h0), (1, .int p1)] := hl
  refine lv_iload_n hx hb dX9_across_0 rfl (lv_at hl 1 rfl) ?_
  refine lv_iload_n hx hb dX9_across_1 rfl (lv_at hl 1 rfl) ?_
  refine lv_bipush (v := 6) hx hb dX9_across_2 rfl ?_
  refine lv_irem hx hb dX9_across_4 (by decide) (lv_topi (fun v21 ev21 => ?_))
  have ev21b := i_remB ev21 e1 (show (6 : Int32).toInt = 6 from by decide) (by decide)
  refine lv_isub hx hb dX9_across_5 (lv_topi (fun v22 ev22 => ?_))
  refine lv_aload_n hx hb dX9_across_6 rfl (lv_at hl 0 rfl) ?_
  refine q_getI E hC0 g0 fa_RX9_9 dX9_across_7 (fun v23 ev23 _ _ => ?_)
  refine lv_iadd hx hb dX9_across_10 (lv_topi (fun v24 ev24 => ?_))
  refine lv_iconst (v := 1) hx hb dX9_across_11 rfl ?_
  refine lv_isub hx hb dX9_across_12 (lv_topi (fun v25 ev25 => ?_))
  refine lv_iload_n hx hb dX9_across_13 rfl (lv_at hl 1 rfl) ?_
  refine lv_bipush (v := 6) hx hb dX9_across_14 rfl ?_
  refine lv_irem hx hb dX9_across_16 (by decide) (lv_topi (fun v26 ev26 => ?_))
  have ev26b := i_remB ev26 e1 (show (6 : Int32).toInt = 6 from by decide) (by decide)
  refine lv_isub hx hb dX9_across_17 (lv_topi (fun v27 ev27 => ?_))
  refine lv_istore_n hx hb dX9_across_18 rfl hl (by decide) rfl (fun ls hl => ?_)
  replace hl : lv_has ls 3 [(2, .int v27), (0, .ref h0), (1, .int p1)] := hl
  refine lv_iload_n hx hb dX9_across_19 rfl (lv_at hl 0 rfl) ?_
  refine q_if_lt hx hb (a := v27.toInt) rfl (tgt := 33) dX9_across_20 rfl (fun c28 => ?_) (fun c28 => ?_)
  · refine lv_iconst (v := 0) hx hb dX9_across_33 rfl ?_
    have c29 : (0 : Int32).toInt = 0 := (by decide)
    exact ret 0 H0 [] _ _ dX9_across_34 ⟨rfl, ⟨by omega, by omega⟩⟩ hC0 hS0
  · refine lv_iload_n hx hb dX9_across_23 rfl (lv_at hl 0 rfl) ?_
    refine lv_bipush (v := 36) hx hb dX9_across_24 rfl ?_
    refine q_icmp_ge hx hb (a := v27.toInt) (b := 36) rfl (by decide) (tgt := 33) dX9_across_26 rfl (fun c30 => ?_) (fun c30 => ?_)
    · refine lv_iconst (v := 0) hx hb dX9_across_33 rfl ?_
      have c31 : (0 : Int32).toInt = 0 := (by decide)
      exact ret 0 H0 [] _ _ dX9_across_34 ⟨rfl, ⟨by omega, by omega⟩⟩ hC0 hS0
    · refine lv_iload_n hx hb dX9_across_29 rfl (lv_at hl 0 rfl) ?_
      refine lv_goto (tgt := 34) hx hb dX9_across_30 rfl ?_
      have c32 : v27.toInt = v27.toInt := rfl
      exact ret v27 H0 [] _ _ dX9_across_34 ⟨rfl, ⟨by omega, by omega⟩⟩ hC0 hS0
set_option maxRecDepth 100000 in
set_option maxHeartbeats 4000000 in
theorem m_X9_wallLimit (l : Launch) (X : xW) (Γ : Nat → Option Nat) (H0 : Heap) (hC0 : Conf X Γ H0) (h0 : Nat) (g0 : Γ h0 = some 5) (p1 : Int32) {a1 : Int} (e1 : p1.toInt = a1) : Ctr l X Γ yX9_wallLimit cX9_wallLimit 3 (some .int) 1 [.ref h0, .int p1] H0 (QI X Γ (fun v H1 => H1 = H0 ∧ (True))) := by
  refine q_enterI (own := "SnowForts$Yard") (by decide) rfl (Nat.le_of_ble_eq_true rfl) ?_
  intro p e s m args below meth c ls Qz E hl ret hS0
  have hx := E.1; have hb := E.2.1
  have hl : lv_has ls 3 [(0, .ref h0), (1, .int p1)] := hl
  refine lv_aload_n hx hb dX9_wallLimit_0 rfl (lv_at hl 0 rfl) ?_
  refine q_getR E hC0 g0 fa_RX9_28 dX9_wallLimit_1 (fun q21 eq21 gq21 => ?_)
  refine lv_iconst (v := 0) hx hb dX9_wallLimit_4 rfl ?_
  refine q_iald E hC0 gq21 rfl rfl (fun _ h => h) (i_in (a := 0) (show (0 : Int32).toInt = 0 from by decide) (by omega) (by omega)) dX9_wallLimit_5 (fun v22 ev22 _ _ => ?_)
  refine lv_istore_n hx hb dX9_wallLimit_6 rfl hl (by decide) rfl (fun ls hl => ?_)
  replace hl : lv_has ls 3 [(2, .int v22), (0, .ref h0), (1, .int p1)] := hl
  refine lv_iload_n hx hb dX9_wallLimit_7 rfl (lv_at hl 0 rfl) ?_
  refine lv_iconst (v := (-1)) hx hb dX9_wallLimit_8 rfl ?_
  refine q_icmp_ne hx hb (a := v22.toInt) (b := (-1)) rfl (by decide) (tgt := 17) dX9_wallLimit_9 rfl (fun c23 => ?_) (fun c23 => ?_)
  · refine lv_aload_n hx hb dX9_wallLimit_17 rfl (lv_at hl 1 rfl) ?_
    refine q_getR E hC0 g0 fa_RX9_43 dX9_wallLimit_18 (fun q24 eq24 gq24 => ?_)
    refine lv_aload_n hx hb dX9_wallLimit_21 rfl (lv_at hl 1 rfl) ?_
    refine lv_iload_n hx hb dX9_wallLimit_22 rfl (lv_at hl 2 rfl) ?_
    refine q_goIp (q_runV (As := [.int p1]) (rest := [.ref q24]) E hC0 hS0 (m_X9_across l X Γ H0 hC0 h0 g0 p1 (a1 := a1) e1) cw_X9_across cl_RX9_146 g0 ⟨rfl, rfl⟩ rfl hl.1 rfl (show _ ≤ _ from by simp [Value.category]) (by decide) dX9_wallLimit_23) hS0 (fun v25 locs25 hr25 hS25 => ?_)
    obtain ⟨f25_0, f25_1⟩ := hr25
    refine q_iald E hC0 gq24 rfl rfl (fun _ h => h) (i_in (a := v25.toInt) rfl (by omega) (by omega)) dX9_wallLimit_26 (fun v26 ev26 _ _ => ?_)
    refine lv_iload_n hx hb dX9_wallLimit_27 rfl (lv_at hl 0 rfl) ?_
    refine lv_iadd hx hb dX9_wallLimit_28 (lv_topi (fun v27 ev27 => ?_))
    exact ret v27 H0 locs25 _ _ dX9_wallLimit_29 ⟨rfl, trivial⟩ hC0 hS25
  · refine lv_ldc (v := 1000000) hx hb E.2.2.2.1 (E.2.2.2.2.1 _ w_930) dX9_wallLimit_12 ?_
    refine lv_goto (tgt := 29) hx hb dX9_wallLimit_14 rfl ?_
    exact ret 1000000 H0 [] _ _ dX9_wallLimit_29 ⟨rfl, trivial⟩ hC0 hS0
set_option maxRecDepth 100000 in
set_option maxHeartbeats 4000000 in
theorem m_X9_breaks (l : Launch) (X : xW) (Γ : Nat → Option Nat) (H0 : Heap) (hC0 : Conf X Γ H0) (h0 : Nat) (g0 : Γ h0 = some 5) (p1 : Int32) {a1 : Int} (e1 : p1.toInt = a1) (p2 : Int32) {a2 : Int} (e2 : p2.toInt = a2) (p3 : Int32) {a3 : Int} (e3 : p3.toInt = a3) (r0 : 0 ≤ a1) (r1 : a1 ≤ 1) : Ctr l X Γ yX9_breaks cX9_breaks 4 none 0 [.ref h0, .int p1, .int p2, .int p3] H0 (QV X Γ (fun H1 => Kp X Γ [0, 2, 3, 4, 5, 18, 21, 23, 25, 27] H0 H1)) := by
  refine q_enterV (own := "SnowForts$Yard") (by decide) rfl (Nat.le_of_ble_eq_true rfl) ?_
  intro p e s m args below meth c ls Qz E hl ret hS0
  have hx := E.1; have hb := E.2.1
  have hKp0 : Kp X Γ [0, 2, 3, 4, 5, 18, 21, 23, 25, 27] H0 H0 := Kp.rf
  have hl : lv_has ls 4 [(0, .ref h0), (1, .int p1), (2, .int p2), (3, .int p3)] := hl
  refine lv_aload_n hx hb dX9_breaks_0 rfl (lv_at hl 0 rfl) ?_
  refine q_getR E hC0 g0 fa_RX9_25 dX9_breaks_1 (fun q21 eq21 gq21 => ?_)
  refine lv_iconst (v := 0) hx hb dX9_breaks_4 rfl ?_
  refine q_iald E hC0 gq21 rfl rfl (fun _ h => h) (i_in (a := 0) (show (0 : Int32).toInt = 0 from by decide) (by omega) (by omega)) dX9_breaks_5 (fun v22 ev22 _ _ => ?_)
  refine lv_aload_n hx hb dX9_breaks_6 rfl (lv_at hl 0 rfl) ?_
  refine q_getR E hC0 g0 fa_RX9_25 dX9_breaks_7 (fun q23 eq23 gq23 => ?_)
  refine lv_iconst (v := 1) hx hb dX9_breaks_10 rfl ?_
  refine q_iald E hC0 gq23 rfl rfl (fun _ h => h) (i_in (a := 1) (show (1 : Int32).toInt = 1 from by decide) (by omega) (by omega)) dX9_breaks_11 (fun v24 ev24 _ _ => ?_)
  refine lv_iadd hx hb dX9_breaks_12 (lv_topi (fun v25 ev25 => ?_))
  refine q_if_ne hx hb (a := v25.toInt) rfl (tgt := 60) dX9_breaks_13 rfl (fun c26 => ?_) (fun c26 => ?_)
  · refine lv_aload_n hx hb dX9_breaks_60 rfl (lv_at hl 0 rfl) ?_
    refine q_getR E hC0 g0 fa_RX9_25 dX9_breaks_61 (fun q27 eq27 gq27 => ?_)
    refine lv_iload_n hx hb dX9_breaks_64 rfl (lv_at hl 1 rfl) ?_
    refine lv_dup2_11 hx hb dX9_breaks_65 rfl rfl ?_
    refine q_iald E hC0 gq27 rfl rfl (fun _ h => h) (i_in (a := a1) e1 (by omega) (by omega)) dX9_breaks_66 (fun v28 ev28 _ _ => ?_)
    refine lv_iconst (v := 1) hx hb dX9_breaks_67 rfl ?_
    refine lv_iadd hx hb dX9_breaks_68 (lv_topi (fun v29 ev29 => ?_))
    refine q_iast E hC0 hS0 gq27 (by decide) rfl rfl (i_in (a := a1) e1 (by omega) (by omega)) tv_F dX9_breaks_69 (fun H30 locs30 hC30 hS30 U30 => ?_)
    have hKp30 := Kp.upA gq27 rfl (by decide) rfl U30 hKp0
    exact ret H30 locs30 _ _ dX9_breaks_70 hKp30 hC30 hS30
  · refine lv_aload_n hx hb dX9_breaks_16 rfl (lv_at hl 0 rfl) ?_
    refine q_getR E hC0 g0 fa_RX9_31 dX9_breaks_17 (fun q31 eq31 gq31 => ?_)
    refine lv_iconst (v := 0) hx hb dX9_breaks_20 rfl ?_
    refine lv_iload_n hx hb dX9_breaks_21 rfl (lv_at hl 1 rfl) ?_
    refine q_iast E hC0 hS0 gq31 (by decide) rfl rfl (i_in (a := 0) (show (0 : Int32).toInt = 0 from by decide) (by omega) (by omega)) tv_F dX9_breaks_22 (fun H32 locs32 hC32 hS32 U32 => ?_)
    have hKp32 := Kp.upA gq31 rfl (by decide) rfl U32 hKp0
    refine lv_aload_n hx hb dX9_breaks_23 rfl (lv_at hl 0 rfl) ?_
    refine q_getR E hC32 g0 fa_RX9_31 dX9_breaks_24 (fun q33 eq33 gq33 => ?_)
    refine lv_iconst (v := 1) hx hb dX9_breaks_27 rfl ?_
    refine lv_iload_n hx hb dX9_breaks_28 rfl (lv_at hl 2 rfl) ?_
    refine q_iast E hC32 hS32 gq33 (by decide) rfl rfl (i_in (a := 1) (show (1 : Int32).toInt = 1 from by decide) (by omega) (by omega)) tv_F dX9_breaks_29 (fun H34 locs34 hC34 hS34 U34 => ?_)
    have hKp34 := Kp.upA gq33 rfl (by decide) rfl U34 hKp32
    refine lv_aload_n hx hb dX9_breaks_30 rfl (lv_at hl 0 rfl) ?_
    refine q_getR E hC34 g0 fa_RX9_31 dX9_breaks_31 (fun q35 eq35 gq35 => ?_)
    refine lv_iconst (v := 2) hx hb dX9_breaks_34 rfl ?_
    refine lv_aload_n hx hb dX9_breaks_35 rfl (lv_at hl 0 rfl) ?_
    refine q_getI E hC34 g0 fa_RX9_55 dX9_breaks_36 (fun v36 ev36 _ _ => ?_)
    refine q_iast E hC34 hS34 gq35 (by decide) rfl rfl (i_in (a := 2) (show (2 : Int32).toInt = 2 from by decide) (by omega) (by omega)) tv_F dX9_breaks_39 (fun H37 locs37 hC37 hS37 U37 => ?_)
    have hKp37 := Kp.upA gq35 rfl (by decide) rfl U37 hKp34
    refine lv_aload_n hx hb dX9_breaks_40 rfl (lv_at hl 0 rfl) ?_
    refine q_getR E hC37 g0 fa_RX9_31 dX9_breaks_41 (fun q38 eq38 gq38 => ?_)
    refine lv_iconst (v := 3) hx hb dX9_breaks_44 rfl ?_
    refine lv_iload_n hx hb dX9_breaks_45 rfl (lv_at hl 3 rfl) ?_
    refine lv_bipush (v := 6) hx hb dX9_breaks_46 rfl ?_
    refine lv_irem hx hb dX9_breaks_48 (by decide) (lv_topi (fun v39 ev39 => ?_))
    have ev39b := i_remB ev39 e3 (show (6 : Int32).toInt = 6 from by decide) (by decide)
    refine q_iast E hC37 hS37 gq38 (by decide) rfl rfl (i_in (a := 3) (show (3 : Int32).toInt = 3 from by decide) (by omega) (by omega)) tv_F dX9_breaks_49 (fun H40 locs40 hC40 hS40 U40 => ?_)
    have hKp40 := Kp.upA gq38 rfl (by decide) rfl U40 hKp37
    refine lv_aload_n hx hb dX9_breaks_50 rfl (lv_at hl 0 rfl) ?_
    refine q_getR E hC40 g0 fa_RX9_31 dX9_breaks_51 (fun q41 eq41 gq41 => ?_)
    refine lv_iconst (v := 4) hx hb dX9_breaks_54 rfl ?_
    refine lv_iload_n hx hb dX9_breaks_55 rfl (lv_at hl 3 rfl) ?_
    refine lv_bipush (v := 6) hx hb dX9_breaks_56 rfl ?_
    refine lv_idiv hx hb dX9_breaks_58 (by decide) (lv_topi (fun v42 ev42 => ?_))
    refine q_iast E hC40 hS40 gq41 (by decide) rfl rfl (i_in (a := 4) (show (4 : Int32).toInt = 4 from by decide) (by omega) (by omega)) tv_F dX9_breaks_59 (fun H43 locs43 hC43 hS43 U43 => ?_)
    have hKp43 := Kp.upA gq41 rfl (by decide) rfl U43 hKp40
    refine lv_aload_n hx hb dX9_breaks_60 rfl (lv_at hl 0 rfl) ?_
    refine q_getR E hC43 g0 fa_RX9_25 dX9_breaks_61 (fun q44 eq44 gq44 => ?_)
    refine lv_iload_n hx hb dX9_breaks_64 rfl (lv_at hl 1 rfl) ?_
    refine lv_dup2_11 hx hb dX9_breaks_65 rfl rfl ?_
    refine q_iald E hC43 gq44 rfl rfl (fun _ h => h) (i_in (a := a1) e1 (by omega) (by omega)) dX9_breaks_66 (fun v45 ev45 _ _ => ?_)
    refine lv_iconst (v := 1) hx hb dX9_breaks_67 rfl ?_
    refine lv_iadd hx hb dX9_breaks_68 (lv_topi (fun v46 ev46 => ?_))
    refine q_iast E hC43 hS43 gq44 (by decide) rfl rfl (i_in (a := a1) e1 (by omega) (by omega)) tv_F dX9_breaks_69 (fun H47 locs47 hC47 hS47 U47 => ?_)
    have hKp47 := Kp.upA gq44 rfl (by decide) rfl U47 hKp43
    exact ret H47 locs47 _ _ dX9_breaks_70 hKp47 hC47 hS47
set_option maxRecDepth 100000 in
set_option maxHeartbeats 4000000 in
theorem m_X9_lawfulHands (l : Launch) (X : xW) (Γ : Nat → Option Nat) (H0 : Heap) (hC0 : Conf X Γ H0) (h0 : Nat) (g0 : Γ h0 = some 5) (p1 : Int32) {a1 : Int} (e1 : p1.toInt = a1) (r0 : 0 ≤ a1) (r1 : a1 ≤ 1) : Ctr l X Γ yX9_lawfulHands cX9_lawfulHands 3 (some .int) 1 [.ref h0, .int p1] H0 (QI X Γ (fun v H1 => H1 = H0 ∧ (True))) := by
  refine q_enterI (own := "SnowForts$Yard") (by decide) rfl (Nat.le_of_ble_eq_true rfl) ?_
  intro p e s m args below meth c ls Qz E hl ret hS0
  have hx := E.1; have hb := E.2.1
  have hl : lv_has ls 3 [(0, .ref h0), (1, .int p1)] := hl
  refine lv_aload_n hx hb dX9_lawfulHands_0 rfl (lv_at hl 0 rfl) ?_
  refine q_getR E hC0 g0 fa_RX9_28 dX9_lawfulHands_1 (fun q21 eq21 gq21 => ?_)
  refine lv_iconst (v := 1) hx hb dX9_lawfulHands_4 rfl ?_
  refine q_iald E hC0 gq21 rfl rfl (fun _ h => h) (i_in (a := 1) (show (1 : Int32).toInt = 1 from by decide) (by omega) (by omega)) dX9_lawfulHands_5 (fun v22 ev22 _ _ => ?_)
  refine lv_istore_n hx hb dX9_lawfulHands_6 rfl hl (by decide) rfl (fun ls hl => ?_)
  replace hl : lv_has ls 3 [(2, .int v22), (0, .ref h0), (1, .int p1)] := hl
  refine lv_iload_n hx hb dX9_lawfulHands_7 rfl (lv_at hl 0 rfl) ?_
  refine lv_iconst (v := (-1)) hx hb dX9_lawfulHands_8 rfl ?_
  refine q_icmp_ne hx hb (a := v22.toInt) (b := (-1)) rfl (by decide) (tgt := 17) dX9_lawfulHands_9 rfl (fun c23 => ?_) (fun c23 => ?_)
  · refine lv_iconst (v := 0) hx hb dX9_lawfulHands_17 rfl ?_
    refine lv_iload_n hx hb dX9_lawfulHands_18 rfl (lv_at hl 0 rfl) ?_
    refine lv_aload_n hx hb dX9_lawfulHands_19 rfl (lv_at hl 1 rfl) ?_
    refine q_getR E hC0 g0 fa_RX9_22 dX9_lawfulHands_20 (fun q24 eq24 gq24 => ?_)
    refine lv_iload_n hx hb dX9_lawfulHands_23 rfl (lv_at hl 2 rfl) ?_
    refine q_iald E hC0 gq24 rfl rfl (fun _ h => h) (i_in (a := a1) e1 (by omega) (by omega)) dX9_lawfulHands_24 (fun v25 ev25 _ _ => ?_)
    refine lv_isub hx hb dX9_lawfulHands_25 (lv_topi (fun v26 ev26 => ?_))
    refine q_mmax E hl.1 w_893 mathw_max (a := 0) (b := v26.toInt) (show (0 : Int32).toInt = 0 from by decide) rfl (by decide) (Nat.zero_le _) dX9_lawfulHands_26 (fun v27 mv27a mv27b mv27c => ?_)
    exact ret v27 H0 [] _ _ dX9_lawfulHands_29 ⟨rfl, trivial⟩ hC0 hS0
  · refine lv_ldc (v := 1000000) hx hb E.2.2.2.1 (E.2.2.2.2.1 _ w_930) dX9_lawfulHands_12 ?_
    refine lv_goto (tgt := 29) hx hb dX9_lawfulHands_14 rfl ?_
    exact ret 1000000 H0 [] _ _ dX9_lawfulHands_29 ⟨rfl, trivial⟩ hC0 hS0
set_option maxRecDepth 100000 in
set_option maxHeartbeats 4000000 in
theorem m_X9_raisesOne (l : Launch) (X : xW) (Γ : Nat → Option Nat) (H0 : Heap) (hC0 : Conf X Γ H0) (h0 : Nat) (g0 : Γ h0 = some 5) (p1 : Int32) {a1 : Int} (e1 : p1.toInt = a1) (p2 : Int32) {a2 : Int} (e2 : p2.toInt = a2) (p3 : Int32) {a3 : Int} (e3 : p3.toInt = a3) (r0 : 0 ≤ a1) (r1 : a1 ≤ 35) (r2 : 0 ≤ a2) (r3 : a2 ≤ 1) : Ctr l X Γ yX9_raisesOne cX9_raisesOne 4 none 2 [.ref h0, .int p1, .int p2, .int p3] H0 (QV X Γ (fun H1 => Kp X Γ [0, 2, 3, 4, 5, 18, 21, 23, 25, 27] H0 H1)) := by
  refine q_enterV (own := "SnowForts$Yard") (by decide) rfl (Nat.le_of_ble_eq_true rfl) ?_
  intro p e s m args below meth c ls Qz E hl ret hS0
  have hx := E.1; have hb := E.2.1
  have hKp0 : Kp X Γ [0, 2, 3, 4, 5, 18, 21, 23, 25, 27] H0 H0 := Kp.rf
  have hl : lv_has ls 4 [(0, .ref h0), (1, .int p1), (2, .int p2), (3, .int p3)] := hl
  refine lv_aload_n hx hb dX9_raisesOne_0 rfl (lv_at hl 0 rfl) ?_
  refine q_getR E hC0 g0 fa_RX9_37 dX9_raisesOne_1 (fun q21 eq21 gq21 => ?_)
  refine lv_iload_n hx hb dX9_raisesOne_4 rfl (lv_at hl 1 rfl) ?_
  refine q_iald E hC0 gq21 rfl rfl (fun _ h => h) (i_in (a := a1) e1 (by omega) (by omega)) dX9_raisesOne_5 (fun v22 ev22 _ _ => ?_)
  refine lv_iload_n hx hb dX9_raisesOne_6 rfl (lv_at hl 3 rfl) ?_
  have c23 := i_rng v22; rw [show v22.toInt = v22.toInt from rfl] at c23
  have c24 := i_rng p3; rw [show p3.toInt = a3 from e3] at c24
  refine q_icmp_lt hx hb (a := v22.toInt) (b := a3) rfl e3 (tgt := 17) dX9_raisesOne_7 rfl (fun c25 => ?_) (fun c25 => ?_)
  · refine lv_aload_n hx hb dX9_raisesOne_17 rfl (lv_at hl 0 rfl) ?_
    refine lv_iload_n hx hb dX9_raisesOne_18 rfl (lv_at hl 2 rfl) ?_
    refine q_goIp (q_runV (As := [.int p2]) (rest := []) E hC0 hS0 (m_X9_lawfulHands l X Γ H0 hC0 h0 g0 p2 (a1 := a2) e2 (by omega) (by omega)) cw_X9_lawfulHands cl_RX9_142 g0 ⟨rfl, rfl⟩ rfl hl.1 rfl (Nat.zero_le _) (by decide) dX9_raisesOne_19) hS0 (fun v26 locs26 hr26 hS26 => ?_)
    refine q_if_ne hx hb (a := v26.toInt) rfl (tgt := 32) dX9_raisesOne_22 rfl (fun c27 => ?_) (fun c27 => ?_)
    · refine lv_aload_n hx hb dX9_raisesOne_32 rfl (lv_at hl 0 rfl) ?_
      refine q_getR E hC0 g0 fa_RX9_34 dX9_raisesOne_33 (fun q28 eq28 gq28 => ?_)
      refine lv_iload_n hx hb dX9_raisesOne_36 rfl (lv_at hl 1 rfl) ?_
      refine lv_dup2_11 hx hb dX9_raisesOne_37 rfl rfl ?_
      refine q_iald E hC0 gq28 rfl rfl (fun _ h => h) (i_in (a := a1) e1 (by omega) (by omega)) dX9_raisesOne_38 (fun v29 ev29 _ _ => ?_)
      refine lv_iconst (v := 1) hx hb dX9_raisesOne_39 rfl ?_
      refine lv_isub hx hb dX9_raisesOne_40 (lv_topi (fun v30 ev30 => ?_))
      refine q_iast E hC0 hS26 gq28 (by decide) rfl rfl (i_in (a := a1) e1 (by omega) (by omega)) tv_F dX9_raisesOne_41 (fun H31 locs31 hC31 hS31 U31 => ?_)
      have hKp31 := Kp.upA gq28 rfl (by decide) rfl U31 hKp0
      refine lv_aload_n hx hb dX9_raisesOne_42 rfl (lv_at hl 0 rfl) ?_
      refine q_getR E hC31 g0 fa_RX9_37 dX9_raisesOne_43 (fun q32 eq32 gq32 => ?_)
      refine lv_iload_n hx hb dX9_raisesOne_46 rfl (lv_at hl 1 rfl) ?_
      refine lv_dup2_11 hx hb dX9_raisesOne_47 rfl rfl ?_
      refine q_iald E hC31 gq32 rfl rfl (fun _ h => h) (i_in (a := a1) e1 (by omega) (by omega)) dX9_raisesOne_48 (fun v33 ev33 _ _ => ?_)
      refine lv_iconst (v := 1) hx hb dX9_raisesOne_49 rfl ?_
      refine lv_iadd hx hb dX9_raisesOne_50 (lv_topi (fun v34 ev34 => ?_))
      refine q_iast E hC31 hS31 gq32 (by decide) rfl rfl (i_in (a := a1) e1 (by omega) (by omega)) tv_F dX9_raisesOne_51 (fun H35 locs35 hC35 hS35 U35 => ?_)
      have hKp35 := Kp.upA gq32 rfl (by decide) rfl U35 hKp31
      refine lv_aload_n hx hb dX9_raisesOne_52 rfl (lv_at hl 0 rfl) ?_
      refine q_getR E hC35 g0 fa_RX9_22 dX9_raisesOne_53 (fun q36 eq36 gq36 => ?_)
      refine lv_iload_n hx hb dX9_raisesOne_56 rfl (lv_at hl 2 rfl) ?_
      refine lv_dup2_11 hx hb dX9_raisesOne_57 rfl rfl ?_
      refine q_iald E hC35 gq36 rfl rfl (fun _ h => h) (i_in (a := a2) e2 (by omega) (by omega)) dX9_raisesOne_58 (fun v37 ev37 _ _ => ?_)
      refine lv_iconst (v := 1) hx hb dX9_raisesOne_59 rfl ?_
      refine lv_iadd hx hb dX9_raisesOne_60 (lv_topi (fun v38 ev38 => ?_))
      refine q_iast E hC35 hS35 gq36 (by decide) rfl rfl (i_in (a := a2) e2 (by omega) (by omega)) tv_F dX9_raisesOne_61 (fun H39 locs39 hC39 hS39 U39 => ?_)
      have hKp39 := Kp.upA gq36 rfl (by decide) rfl U39 hKp35
      exact ret H39 locs39 _ _ dX9_raisesOne_62 hKp39 hC39 hS39
    · refine lv_aload_n hx hb dX9_raisesOne_25 rfl (lv_at hl 0 rfl) ?_
      refine lv_iload_n hx hb dX9_raisesOne_26 rfl (lv_at hl 2 rfl) ?_
      refine lv_iconst (v := 1) hx hb dX9_raisesOne_27 rfl ?_
      refine lv_iload_n hx hb dX9_raisesOne_28 rfl (lv_at hl 1 rfl) ?_
      refine q_goV (q_runV (As := [.int p2, .int 1, .int p1]) (rest := []) E hC0 hS26 (m_X9_breaks l X Γ H0 hC0 h0 g0 p2 (a1 := a2) e2 1 (a2 := 1) (by decide) p1 (a3 := a1) e1 (by omega) (by omega)) cw_X9_breaks cl_RX9_139 g0 ⟨rfl, rfl⟩ rfl hl.1 rfl (Nat.zero_le _) (by decide) dX9_raisesOne_29) hS26 (fun H40 locs40 hr40 hC40 hS40 => ?_)
      have hKp40 := hKp0.tr (hr40.mono rfl)
      refine lv_aload_n hx hb dX9_raisesOne_32 rfl (lv_at hl 0 rfl) ?_
      refine q_getR E hC40 g0 fa_RX9_34 dX9_raisesOne_33 (fun q41 eq41 gq41 => ?_)
      refine lv_iload_n hx hb dX9_raisesOne_36 rfl (lv_at hl 1 rfl) ?_
      refine lv_dup2_11 hx hb dX9_raisesOne_37 rfl rfl ?_
      refine q_iald E hC40 gq41 rfl rfl (fun _ h => h) (i_in (a := a1) e1 (by omega) (by omega)) dX9_raisesOne_38 (fun v42 ev42 _ _ => ?_)
      refine lv_iconst (v := 1) hx hb dX9_raisesOne_39 rfl ?_
      refine lv_isub hx hb dX9_raisesOne_40 (lv_topi (fun v43 ev43 => ?_))
      refine q_iast E hC40 hS40 gq41 (by decide) rfl rfl (i_in (a := a1) e1 (by omega) (by omega)) tv_F dX9_raisesOne_41 (fun H44 locs44 hC44 hS44 U44 => ?_)
      have hKp44 := Kp.upA gq41 rfl (by decide) rfl U44 hKp40
      refine lv_aload_n hx hb dX9_raisesOne_42 rfl (lv_at hl 0 rfl) ?_
      refine q_getR E hC44 g0 fa_RX9_37 dX9_raisesOne_43 (fun q45 eq45 gq45 => ?_)
      refine lv_iload_n hx hb dX9_raisesOne_46 rfl (lv_at hl 1 rfl) ?_
      refine lv_dup2_11 hx hb dX9_raisesOne_47 rfl rfl ?_
      refine q_iald E hC44 gq45 rfl rfl (fun _ h => h) (i_in (a := a1) e1 (by omega) (by omega)) dX9_raisesOne_48 (fun v46 ev46 _ _ => ?_)
      refine lv_iconst (v := 1) hx hb dX9_raisesOne_49 rfl ?_
      refine lv_iadd hx hb dX9_raisesOne_50 (lv_topi (fun v47 ev47 => ?_))
      refine q_iast E hC44 hS44 gq45 (by decide) rfl rfl (i_in (a := a1) e1 (by omega) (by omega)) tv_F dX9_raisesOne_51 (fun H48 locs48 hC48 hS48 U48 => ?_)
      have hKp48 := Kp.upA gq45 rfl (by decide) rfl U48 hKp44
      refine lv_aload_n hx hb dX9_raisesOne_52 rfl (lv_at hl 0 rfl) ?_
      refine q_getR E hC48 g0 fa_RX9_22 dX9_raisesOne_53 (fun q49 eq49 gq49 => ?_)
      refine lv_iload_n hx hb dX9_raisesOne_56 rfl (lv_at hl 2 rfl) ?_
      refine lv_dup2_11 hx hb dX9_raisesOne_57 rfl rfl ?_
      refine q_iald E hC48 gq49 rfl rfl (fun _ h => h) (i_in (a := a2) e2 (by omega) (by omega)) dX9_raisesOne_58 (fun v50 ev50 _ _ => ?_)
      refine lv_iconst (v := 1) hx hb dX9_raisesOne_59 rfl ?_
      refine lv_iadd hx hb dX9_raisesOne_60 (lv_topi (fun v51 ev51 => ?_))
      refine q_iast E hC48 hS48 gq49 (by decide) rfl rfl (i_in (a := a2) e2 (by omega) (by omega)) tv_F dX9_raisesOne_61 (fun H52 locs52 hC52 hS52 U52 => ?_)
      have hKp52 := Kp.upA gq49 rfl (by decide) rfl U52 hKp48
      exact ret H52 locs52 _ _ dX9_raisesOne_62 hKp52 hC52 hS52
  · refine lv_aload_n hx hb dX9_raisesOne_10 rfl (lv_at hl 0 rfl) ?_
    refine lv_iload_n hx hb dX9_raisesOne_11 rfl (lv_at hl 2 rfl) ?_
    refine lv_iconst (v := 0) hx hb dX9_raisesOne_12 rfl ?_
    refine lv_iload_n hx hb dX9_raisesOne_13 rfl (lv_at hl 1 rfl) ?_
    refine q_goV (q_runV (As := [.int p2, .int 0, .int p1]) (rest := []) E hC0 hS0 (m_X9_breaks l X Γ H0 hC0 h0 g0 p2 (a1 := a2) e2 0 (a2 := 0) (by decide) p1 (a3 := a1) e1 (by omega) (by omega)) cw_X9_breaks cl_RX9_139 g0 ⟨rfl, rfl⟩ rfl hl.1 rfl (Nat.zero_le _) (by decide) dX9_raisesOne_14) hS0 (fun H53 locs53 hr53 hC53 hS53 => ?_)
    have hKp53 := hKp0.tr (hr53.mono rfl)
    refine lv_aload_n hx hb dX9_raisesOne_17 rfl (lv_at hl 0 rfl) ?_
    refine lv_iload_n hx hb dX9_raisesOne_18 rfl (lv_at hl 2 rfl) ?_
    refine q_goIp (q_runV (As := [.int p2]) (rest := []) E hC53 hS53 (m_X9_lawfulHands l X Γ H53 hC53 h0 g0 p2 (a1 := a2) e2 (by omega) (by omega)) cw_X9_lawfulHands cl_RX9_142 g0 ⟨rfl, rfl⟩ rfl hl.1 rfl (Nat.zero_le _) (by decide) dX9_raisesOne_19) hS53 (fun v54 locs54 hr54 hS54 => ?_)
    refine q_if_ne hx hb (a := v54.toInt) rfl (tgt := 32) dX9_raisesOne_22 rfl (fun c55 => ?_) (fun c55 => ?_)
    · refine lv_aload_n hx hb dX9_raisesOne_32 rfl (lv_at hl 0 rfl) ?_
      refine q_getR E hC53 g0 fa_RX9_34 dX9_raisesOne_33 (fun q56 eq56 gq56 => ?_)
      refine lv_iload_n hx hb dX9_raisesOne_36 rfl (lv_at hl 1 rfl) ?_
      refine lv_dup2_11 hx hb dX9_raisesOne_37 rfl rfl ?_
      refine q_iald E hC53 gq56 rfl rfl (fun _ h => h) (i_in (a := a1) e1 (by omega) (by omega)) dX9_raisesOne_38 (fun v57 ev57 _ _ => ?_)
      refine lv_iconst (v := 1) hx hb dX9_raisesOne_39 rfl ?_
      refine lv_isub hx hb dX9_raisesOne_40 (lv_topi (fun v58 ev58 => ?_))
      refine q_iast E hC53 hS54 gq56 (by decide) rfl rfl (i_in (a := a1) e1 (by omega) (by omega)) tv_F dX9_raisesOne_41 (fun H59 locs59 hC59 hS59 U59 => ?_)
      have hKp59 := Kp.upA gq56 rfl (by decide) rfl U59 hKp53
      refine lv_aload_n hx hb dX9_raisesOne_42 rfl (lv_at hl 0 rfl) ?_
      refine q_getR E hC59 g0 fa_RX9_37 dX9_raisesOne_43 (fun q60 eq60 gq60 => ?_)
      refine lv_iload_n hx hb dX9_raisesOne_46 rfl (lv_at hl 1 rfl) ?_
      refine lv_dup2_11 hx hb dX9_raisesOne_47 rfl rfl ?_
      refine q_iald E hC59 gq60 rfl rfl (fun _ h => h) (i_in (a := a1) e1 (by omega) (by omega)) dX9_raisesOne_48 (fun v61 ev61 _ _ => ?_)
      refine lv_iconst (v := 1) hx hb dX9_raisesOne_49 rfl ?_
      refine lv_iadd hx hb dX9_raisesOne_50 (lv_topi (fun v62 ev62 => ?_))
      refine q_iast E hC59 hS59 gq60 (by decide) rfl rfl (i_in (a := a1) e1 (by omega) (by omega)) tv_F dX9_raisesOne_51 (fun H63 locs63 hC63 hS63 U63 => ?_)
      have hKp63 := Kp.upA gq60 rfl (by decide) rfl U63 hKp59
      refine lv_aload_n hx hb dX9_raisesOne_52 rfl (lv_at hl 0 rfl) ?_
      refine q_getR E hC63 g0 fa_RX9_22 dX9_raisesOne_53 (fun q64 eq64 gq64 => ?_)
      refine lv_iload_n hx hb dX9_raisesOne_56 rfl (lv_at hl 2 rfl) ?_
      refine lv_dup2_11 hx hb dX9_raisesOne_57 rfl rfl ?_
      refine q_iald E hC63 gq64 rfl rfl (fun _ h => h) (i_in (a := a2) e2 (by omega) (by omega)) dX9_raisesOne_58 (fun v65 ev65 _ _ => ?_)
      refine lv_iconst (v := 1) hx hb dX9_raisesOne_59 rfl ?_
      refine lv_iadd hx hb dX9_raisesOne_60 (lv_topi (fun v66 ev66 => ?_))
      refine q_iast E hC63 hS63 gq64 (by decide) rfl rfl (i_in (a := a2) e2 (by omega) (by omega)) tv_F dX9_raisesOne_61 (fun H67 locs67 hC67 hS67 U67 => ?_)
      have hKp67 := Kp.upA gq64 rfl (by decide) rfl U67 hKp63
      exact ret H67 locs67 _ _ dX9_raisesOne_62 hKp67 hC67 hS67
    · refine lv_aload_n hx hb dX9_raisesOne_25 rfl (lv_at hl 0 rfl) ?_
      refine lv_iload_n hx hb dX9_raisesOne_26 rfl (lv_at hl 2 rfl) ?_
      refine lv_iconst (v := 1) hx hb dX9_raisesOne_27 rfl ?_
      refine lv_iload_n hx hb dX9_raisesOne_28 rfl (lv_at hl 1 rfl) ?_
      refine q_goV (q_runV (As := [.int p2, .int 1, .int p1]) (rest := []) E hC53 hS54 (m_X9_breaks l X Γ H53 hC53 h0 g0 p2 (a1 := a2) e2 1 (a2 := 1) (by decide) p1 (a3 := a1) e1 (by omega) (by omega)) cw_X9_breaks cl_RX9_139 g0 ⟨rfl, rfl⟩ rfl hl.1 rfl (Nat.zero_le _) (by decide) dX9_raisesOne_29) hS54 (fun H68 locs68 hr68 hC68 hS68 => ?_)
      have hKp68 := hKp53.tr (hr68.mono rfl)
      refine lv_aload_n hx hb dX9_raisesOne_32 rfl (lv_at hl 0 rfl) ?_
      refine q_getR E hC68 g0 fa_RX9_34 dX9_raisesOne_33 (fun q69 eq69 gq69 => ?_)
      refine lv_iload_n hx hb dX9_raisesOne_36 rfl (lv_at hl 1 rfl) ?_
      refine lv_dup2_11 hx hb dX9_raisesOne_37 rfl rfl ?_
      refine q_iald E hC68 gq69 rfl rfl (fun _ h => h) (i_in (a := a1) e1 (by omega) (by omega)) dX9_raisesOne_38 (fun v70 ev70 _ _ => ?_)
      refine lv_iconst (v := 1) hx hb dX9_raisesOne_39 rfl ?_
      refine lv_isub hx hb dX9_raisesOne_40 (lv_topi (fun v71 ev71 => ?_))
      refine q_iast E hC68 hS68 gq69 (by decide) rfl rfl (i_in (a := a1) e1 (by omega) (by omega)) tv_F dX9_raisesOne_41 (fun H72 locs72 hC72 hS72 U72 => ?_)
      have hKp72 := Kp.upA gq69 rfl (by decide) rfl U72 hKp68
      refine lv_aload_n hx hb dX9_raisesOne_42 rfl (lv_at hl 0 rfl) ?_
      refine q_getR E hC72 g0 fa_RX9_37 dX9_raisesOne_43 (fun q73 eq73 gq73 => ?_)
      refine lv_iload_n hx hb dX9_raisesOne_46 rfl (lv_at hl 1 rfl) ?_
      refine lv_dup2_11 hx hb dX9_raisesOne_47 rfl rfl ?_
      refine q_iald E hC72 gq73 rfl rfl (fun _ h => h) (i_in (a := a1) e1 (by omega) (by omega)) dX9_raisesOne_48 (fun v74 ev74 _ _ => ?_)
      refine lv_iconst (v := 1) hx hb dX9_raisesOne_49 rfl ?_
      refine lv_iadd hx hb dX9_raisesOne_50 (lv_topi (fun v75 ev75 => ?_))
      refine q_iast E hC72 hS72 gq73 (by decide) rfl rfl (i_in (a := a1) e1 (by omega) (by omega)) tv_F dX9_raisesOne_51 (fun H76 locs76 hC76 hS76 U76 => ?_)
      have hKp76 := Kp.upA gq73 rfl (by decide) rfl U76 hKp72
      refine lv_aload_n hx hb dX9_raisesOne_52 rfl (lv_at hl 0 rfl) ?_
      refine q_getR E hC76 g0 fa_RX9_22 dX9_raisesOne_53 (fun q77 eq77 gq77 => ?_)
      refine lv_iload_n hx hb dX9_raisesOne_56 rfl (lv_at hl 2 rfl) ?_
      refine lv_dup2_11 hx hb dX9_raisesOne_57 rfl rfl ?_
      refine q_iald E hC76 gq77 rfl rfl (fun _ h => h) (i_in (a := a2) e2 (by omega) (by omega)) dX9_raisesOne_58 (fun v78 ev78 _ _ => ?_)
      refine lv_iconst (v := 1) hx hb dX9_raisesOne_59 rfl ?_
      refine lv_iadd hx hb dX9_raisesOne_60 (lv_topi (fun v79 ev79 => ?_))
      refine q_iast E hC76 hS76 gq77 (by decide) rfl rfl (i_in (a := a2) e2 (by omega) (by omega)) tv_F dX9_raisesOne_61 (fun H80 locs80 hC80 hS80 U80 => ?_)
      have hKp80 := Kp.upA gq77 rfl (by decide) rfl U80 hKp76
      exact ret H80 locs80 _ _ dX9_raisesOne_62 hKp80 hC80 hS80
set_option maxRecDepth 100000 in
set_option maxHeartbeats 4000000 in
theorem m_X9_raises (l : Launch) (X : xW) (Γ : Nat → Option Nat) (H0 : Heap) (hC0 : Conf X Γ H0) (h0 : Nat) (g0 : Γ h0 = some 5) (p1 : Int32) {a1 : Int} (e1 : p1.toInt = a1) (p2 : Int32) {a2 : Int} (e2 : p2.toInt = a2) : Ctr l X Γ yX9_raises cX9_raises 7 (some .int) 3 [.ref h0, .int p1, .int p2] H0 (QI X Γ (fun v H1 => Kp X Γ [0, 2, 3, 4, 5, 18, 21, 23, 25, 27] H0 H1 ∧ (True))) := by
  refine q_enterI (own := "SnowForts$Yard") (by decide) rfl (Nat.le_of_ble_eq_true rfl) ?_
  intro p e s m args below meth c ls Qz E hl ret hS0
  have hx := E.1; have hb := E.2.1
  have hKp0 : Kp X Γ [0, 2, 3, 4, 5, 18, 21, 23, 25, 27] H0 H0 := Kp.rf
  have hl : lv_has ls 7 [(0, .ref h0), (1, .int p1), (2, .int p2)] := hl
  refine lv_aload_n hx hb dX9_raises_0 rfl (lv_at hl 0 rfl) ?_
  refine lv_iload_n hx hb dX9_raises_1 rfl (lv_at hl 1 rfl) ?_
  refine q_goIp (q_runV (As := [.int p1]) (rest := []) E hC0 hS0 (m_X9_holds l X Γ H0 hC0 h0 g0 p1 (a1 := a1) e1) cw_X9_holds cl_RX9_99 g0 ⟨rfl, rfl⟩ rfl hl.1 rfl (Nat.zero_le _) (by decide) dX9_raises_2) hS0 (fun v21 locs21 hr21 hS21 => ?_)
  rcases hr21 with ⟨rfl, f21a0, f21a1⟩ | ⟨rfl, -⟩
  · refine q_if_ne hx hb (a := 1) (by decide) (tgt := 10) dX9_raises_5 rfl (fun c22 => ?_) (fun c22 => absurd c22 (by omega))
    refine lv_aload_n hx hb dX9_raises_10 rfl (lv_at hl 0 rfl) ?_
    refine lv_iload_n hx hb dX9_raises_11 rfl (lv_at hl 1 rfl) ?_
    refine q_goIp (q_runV (As := [.int p1]) (rest := []) E hC0 hS21 (m_X9_halfOf l X Γ H0 hC0 h0 g0 p1 (a1 := a1) e1) cw_X9_halfOf cl_RX9_102 g0 ⟨rfl, rfl⟩ rfl hl.1 rfl (Nat.zero_le _) (by decide) dX9_raises_12) hS21 (fun v23 locs23 hr23 hS23 => ?_)
    obtain ⟨f23_0, f23_1⟩ := hr23
    refine lv_istore_n hx hb dX9_raises_15 rfl hl (by decide) rfl (fun ls hl => ?_)
    replace hl : lv_has ls 7 [(3, .int v23), (0, .ref h0), (1, .int p1), (2, .int p2)] := hl
    refine lv_iload_n hx hb dX9_raises_16 rfl (lv_at hl 3 rfl) ?_
    refine lv_aload_n hx hb dX9_raises_17 rfl (lv_at hl 1 rfl) ?_
    refine lv_iload_n hx hb dX9_raises_18 rfl (lv_at hl 0 rfl) ?_
    refine q_goIp (q_runV (As := [.int v23]) (rest := [.int p2]) E hC0 hS23 (m_X9_handsLeft l X Γ H0 hC0 h0 g0 v23 (a1 := v23.toInt) rfl (by omega) (by omega)) cw_X9_handsLeft cl_RX9_129 g0 ⟨rfl, rfl⟩ rfl hl.1 rfl (show _ ≤ _ from by simp [Value.category]) (by decide) dX9_raises_19) hS23 (fun v24 locs24 hr24 hS24 => ?_)
    refine q_mmin E hl.1 w_908 mathw_min (a := a2) (b := v24.toInt) e2 rfl (by decide) (Nat.zero_le _) dX9_raises_22 (fun v25 mv25a mv25b mv25c => ?_)
    refine lv_aload_n hx hb dX9_raises_25 rfl (lv_at hl 1 rfl) ?_
    refine q_getR E hC0 g0 fa_RX9_34 dX9_raises_26 (fun q26 eq26 gq26 => ?_)
    refine lv_iload_n hx hb dX9_raises_29 rfl (lv_at hl 2 rfl) ?_
    refine q_iald E hC0 gq26 rfl rfl (fun _ h => h) (i_in (a := a1) e1 (by omega) (by omega)) dX9_raises_30 (fun v27 ev27 _ _ => ?_)
    refine lv_bipush (v := 99) hx hb dX9_raises_31 rfl ?_
    refine lv_aload_n hx hb dX9_raises_33 rfl (lv_at hl 1 rfl) ?_
    refine q_getR E hC0 g0 fa_RX9_37 dX9_raises_34 (fun q28 eq28 gq28 => ?_)
    refine lv_iload_n hx hb dX9_raises_37 rfl (lv_at hl 2 rfl) ?_
    refine q_iald E hC0 gq28 rfl rfl (fun _ h => h) (i_in (a := a1) e1 (by omega) (by omega)) dX9_raises_38 (fun v29 ev29 _ _ => ?_)
    refine lv_isub hx hb dX9_raises_39 (lv_topi (fun v30 ev30 => ?_))
    refine q_mmin E hl.1 w_908 mathw_min (a := v27.toInt) (b := v30.toInt) rfl rfl (by decide) (show _ ≤ _ from by simp [Value.category]) dX9_raises_40 (fun v31 mv31a mv31b mv31c => ?_)
    refine q_mmin E hl.1 w_908 mathw_min (a := v25.toInt) (b := v31.toInt) rfl rfl (by decide) (Nat.zero_le _) dX9_raises_43 (fun v32 mv32a mv32b mv32c => ?_)
    refine lv_istore hx hb dX9_raises_46 hl (by decide) rfl (fun ls hl => ?_)
    replace hl : lv_has ls 7 [(4, .int v32), (3, .int v23), (0, .ref h0), (1, .int p1), (2, .int p2)] := hl
    refine lv_aload_n hx hb dX9_raises_48 rfl (lv_at hl 2 rfl) ?_
    refine lv_iload_n hx hb dX9_raises_49 rfl (lv_at hl 3 rfl) ?_
    refine q_goIp (q_runV (As := [.int p1]) (rest := []) E hC0 hS24 (m_X9_wallLimit l X Γ H0 hC0 h0 g0 p1 (a1 := a1) e1) cw_X9_wallLimit cl_RX9_132 g0 ⟨rfl, rfl⟩ rfl hl.1 rfl (Nat.zero_le _) (by decide) dX9_raises_50) hS24 (fun v33 locs33 hr33 hS33 => ?_)
    refine lv_istore hx hb dX9_raises_53 hl (by decide) rfl (fun ls hl => ?_)
    replace hl : lv_has ls 7 [(5, .int v33), (4, .int v32), (3, .int v23), (0, .ref h0), (1, .int p1), (2, .int p2)] := hl
    refine lv_iconst (v := 0) hx hb dX9_raises_55 rfl ?_
    refine lv_istore hx hb dX9_raises_56 hl (by decide) rfl (fun ls hl => ?_)
    replace hl : lv_has ls 7 [(6, .int 0), (5, .int v33), (4, .int v32), (3, .int v23), (0, .ref h0), (1, .int p1), (2, .int p2)] := hl
    have L58 : ∀ (n35 : Nat) (H35 : Heap) (locs35 : List Loc) (v34 : Int32) (z34 : Int) (ls : Array Slot), (v32.toInt - z34).toNat < n35 → v34.toInt = z34 → 0 ≤ z34 → Conf X Γ H35 → va_S (AΓ Γ) H0 H35 locs35 → Kp X Γ [0, 2, 3, 4, 5, 18, 21, 23, 25, 27] H0 H35 → lv_has ls 7 [(6, .int v34), (5, .int v33), (4, .int v32), (3, .int v23), (0, .ref h0), (1, .int p1), (2, .int p2)] → W p l e (rmL 3) s m args below meth c H35 locs35 0 0 Qz (F0 m 58 ls []) := by
      intro n35
      induction n35 with
      | zero => intro H35 locs35 v34 z34 ls hm35 ev34 iv35_0 hC35 hS35 hKp35 hl; exact absurd hm35 (Nat.not_lt_zero _)
      | succ n35 ih35 =>
        intro H35 locs35 v34 z34 ls hm35 ev34 iv35_0 hC35 hS35 hKp35 hl
        refine lv_iload hx hb dX9_raises_58 (lv_at hl 0 rfl) ?_
        refine lv_iload hx hb dX9_raises_60 (lv_at hl 2 rfl) ?_
        have c36 := i_rng v32; rw [show v32.toInt = v32.toInt from rfl] at c36
        refine q_icmp_ge hx hb (a := z34) (b := v32.toInt) ev34 rfl (tgt := 79) dX9_raises_62 rfl (fun c37 => ?_) (fun c37 => ?_)
        · refine lv_iload hx hb dX9_raises_79 (lv_at hl 2 rfl) ?_
          refine q_if_le hx hb (a := v32.toInt) rfl (tgt := 91) dX9_raises_81 rfl (fun c38 => ?_) (fun c38 => ?_)
          · refine lv_iload hx hb dX9_raises_91 (lv_at hl 2 rfl) ?_
            exact ret v32 H35 locs35 _ _ dX9_raises_93 ⟨hKp35, trivial⟩ hC35 hS35
          · refine lv_aload_n hx hb dX9_raises_84 rfl (lv_at hl 4 rfl) ?_
            refine q_getR E hC35 g0 fa_RX9_49 dX9_raises_85 (fun q39 eq39 gq39 => ?_)
            refine lv_iload_n hx hb dX9_raises_88 rfl (lv_at hl 5 rfl) ?_
            refine lv_iconst (v := 0) hx hb dX9_raises_89 rfl ?_
            refine q_iast E hC35 hS35 gq39 (by decide) rfl rfl (i_in (a := a1) e1 (by omega) (by omega)) tv_F dX9_raises_90 (fun H40 locs40 hC40 hS40 U40 => ?_)
            have hKp40 := Kp.upA gq39 rfl (by decide) rfl U40 hKp35
            refine lv_iload hx hb dX9_raises_91 (lv_at hl 2 rfl) ?_
            exact ret v32 H40 locs40 _ _ dX9_raises_93 ⟨hKp40, trivial⟩ hC40 hS40
        · refine lv_aload_n hx hb dX9_raises_65 rfl (lv_at hl 4 rfl) ?_
          refine lv_iload_n hx hb dX9_raises_66 rfl (lv_at hl 5 rfl) ?_
          refine lv_iload_n hx hb dX9_raises_67 rfl (lv_at hl 3 rfl) ?_
          refine lv_iload hx hb dX9_raises_68 (lv_at hl 1 rfl) ?_
          refine q_goV (q_runV (As := [.int p1, .int v23, .int v33]) (rest := []) E hC35 hS35 (m_X9_raisesOne l X Γ H35 hC35 h0 g0 p1 (a1 := a1) e1 v23 (a2 := v23.toInt) rfl v33 (a3 := v33.toInt) rfl (by omega) (by omega) (by omega) (by omega)) cw_X9_raisesOne cl_RX9_135 g0 ⟨rfl, rfl⟩ rfl hl.1 rfl (Nat.zero_le _) (by decide) dX9_raises_70) hS35 (fun H41 locs41 hr41 hC41 hS41 => ?_)
          have hKp41 := hKp35.tr (hr41.mono rfl)
          obtain ⟨v42, ev42⟩ : ∃ z, z = v34 + Int32.ofInt 1 := ⟨_, rfl⟩
          have ev42i : v42.toInt = (z34 + 1) := i_add ev42 ev34 (by decide) (by omega) (by omega)
          refine lv_iinc hx hb dX9_raises_73 hl (k := 0) rfl ev42.symm (by decide) rfl (fun ls hl => ?_)
          replace hl : lv_has ls 7 [(6, .int v42), (5, .int v33), (4, .int v32), (3, .int v23), (0, .ref h0), (1, .int p1), (2, .int p2)] := hl
          refine lv_goto (tgt := 58) hx hb dX9_raises_76 rfl ?_
          exact ih35 H41 locs41 v42 ((z34 + 1)) ls (by omega) ev42i (by omega) hC41 hS41 hKp41 hl
    exact L58 _ H0 locs33 0 0 ls (Nat.lt_succ_self _) (by decide) (by omega) hC0 hS33 hKp0 hl
  · refine q_if_ne hx hb (a := 0) (by decide) (tgt := 10) dX9_raises_5 rfl (fun c43 => absurd c43 (by omega)) (fun c43 => ?_)
    refine lv_iconst (v := 0) hx hb dX9_raises_8 rfl ?_
    exact ret 0 H0 locs21 _ _ dX9_raises_9 ⟨hKp0, trivial⟩ hC0 hS21
set_option maxRecDepth 100000 in
set_option maxHeartbeats 4000000 in
theorem m_X11_build (l : Launch) (X : xW) (Γ : Nat → Option Nat) (H0 : Heap) (hC0 : Conf X Γ H0) (h0 : Nat) (g0 : Γ h0 = some 0) (p1 : Int32) {a1 : Int} (e1 : p1.toInt = a1) (p2 : Int32) {a2 : Int} (e2 : p2.toInt = a2) (p3 : Int32) {a3 : Int} (e3 : p3.toInt = a3) : Ctr l X Γ yX11_build cX11_build 5 (some .int) 4 [.ref h0, .int p1, .int p2, .int p3] H0 (QI X Γ (fun v H1 => Kp X Γ [0, 2, 3, 4, 5, 18, 21, 23, 25, 27] H0 H1 ∧ (True))) := by
  refine q_enterI (own := "SnowForts") (by decide) rfl (Nat.le_of_ble_eq_true rfl) ?_
  intro p e s m args below meth c ls Qz E hl ret hS0
  have hx := E.1; have hb := E.2.1
  have hKp0 : Kp X Γ [0, 2, 3, 4, 5, 18, 21, 23, 25, 27] H0 H0 := Kp.rf
  have hl : lv_has ls 5 [(0, .ref h0), (1, .int p1), (2, .int p2), (3, .int p3)] := hl
  refine lv_aload_n hx hb dX11_build_0 rfl (lv_at hl 0 rfl) ?_
  refine q_getR E hC0 g0 fa_RX11_42 dX11_build_1 (fun q21 eq21 gq21 => ?_)
  refine lv_iload_n hx hb dX11_build_4 rfl (lv_at hl 1 rfl) ?_
  refine lv_iload_n hx hb dX11_build_5 rfl (lv_at hl 2 rfl) ?_
  refine q_goIp (q_runV (As := [.int p1, .int p2]) (rest := []) E hC0 hS0 (m_X9_isOwned l X Γ H0 hC0 q21 gq21 p1 (a1 := a1) e1 p2 (a2 := a2) e2) cw_X9_isOwned cl_RX11_238 gq21 ⟨rfl, rfl⟩ rfl hl.1 rfl (Nat.zero_le _) (by decide) dX11_build_6) hS0 (fun v22 locs22 hr22 hS22 => ?_)
  rcases hr22 with rfl | rfl
  · refine q_if_ne hx hb (a := 0) (by decide) (tgt := 18) dX11_build_9 rfl (fun c23 => absurd c23 (by omega)) (fun c23 => ?_)
    refine lv_aload_n hx hb dX11_build_12 rfl (lv_at hl 0 rfl) ?_
    refine lv_iconst (v := 2) hx hb dX11_build_13 rfl ?_
    refine q_goI (q_runV (As := [.int 2]) (rest := []) E hC0 hS22 (m_X11_refuse l X Γ H0 hC0 h0 g0 2 (a1 := 2) (by decide)) cw_X11_refuse cl_RX11_146 g0 ⟨rfl, rfl⟩ rfl hl.1 rfl (Nat.zero_le _) (by decide) dX11_build_14) hS22 (fun v24 H24 locs24 hr24 hC24 hS24 => ?_)
    obtain ⟨hp24, hr24⟩ := hr24
    have hKp24 := hKp0.tr (hp24.mono rfl)
    have f24_0 := hr24
    exact ret v24 H24 locs24 _ _ dX11_build_17 ⟨hKp24, trivial⟩ hC24 hS24
  · refine q_if_ne hx hb (a := 1) (by decide) (tgt := 18) dX11_build_9 rfl (fun c25 => ?_) (fun c25 => absurd c25 (by omega))
    refine lv_iload_n hx hb dX11_build_18 rfl (lv_at hl 3 rfl) ?_
    refine lv_i2l (v := p3.toInt64) hx hb dX11_build_19 rfl (lv_topl (fun v26 ev26 => ?_))
    have ev26i : v26.toInt = a3 := l_ofi ev26.symm e3
    refine lv_iconst (v := 1) hx hb dX11_build_20 rfl ?_
    refine lv_bipush (v := 40) hx hb dX11_build_21 rfl ?_
    refine q_goIp (q_runS (As := [.long v26, .int 1, .int 40]) (rest := []) E hS22 (m_X11_isWithin l X Γ H0 hC0 v26 (a0 := a3) ev26i 1 (a1 := 1) (by decide) 40 (a2 := 40) (by decide)) cw_X11_isWithin cl_RX11_113 rfl hl.1 rfl (Nat.zero_le _) (by decide) dX11_build_23) hS22 (fun v27 locs27 hr27 hS27 => ?_)
    rcases hr27 with ⟨rfl, f27a0, f27a1⟩ | ⟨rfl, f27b⟩
    · refine q_if_ne hx hb (a := 1) (by decide) (tgt := 35) dX11_build_26 rfl (fun c28 => ?_) (fun c28 => absurd c28 (by omega))
      refine lv_aload_n hx hb dX11_build_35 rfl (lv_at hl 0 rfl) ?_
      refine q_getR E hC0 g0 fa_RX11_42 dX11_build_36 (fun q29 eq29 gq29 => ?_)
      refine lv_iload_n hx hb dX11_build_39 rfl (lv_at hl 2 rfl) ?_
      refine lv_bipush (v := 6) hx hb dX11_build_40 rfl ?_
      refine lv_imul hx hb dX11_build_42 (lv_topi (fun v30 ev30 => ?_))
      refine lv_iload_n hx hb dX11_build_43 rfl (lv_at hl 1 rfl) ?_
      refine lv_iadd hx hb dX11_build_44 (lv_topi (fun v31 ev31 => ?_))
      refine lv_iload_n hx hb dX11_build_45 rfl (lv_at hl 3 rfl) ?_
      refine q_goI (q_runV (As := [.int v31, .int p3]) (rest := []) E hC0 hS27 (m_X9_raises l X Γ H0 hC0 q29 gq29 v31 (a1 := v31.toInt) rfl p3 (a2 := a3) e3) cw_X9_raises cl_RX11_241 gq29 ⟨rfl, rfl⟩ rfl hl.1 rfl (Nat.zero_le _) (by decide) dX11_build_46) hS27 (fun v32 H32 locs32 hr32 hC32 hS32 => ?_)
      obtain ⟨hp32, hr32⟩ := hr32
      have hKp32 := hKp0.tr (hp32.mono rfl)
      refine lv_istore hx hb dX11_build_49 hl (by decide) rfl (fun ls hl => ?_)
      replace hl : lv_has ls 5 [(4, .int v32), (0, .ref h0), (1, .int p1), (2, .int p2), (3, .int p3)] := hl
      refine lv_iload hx hb dX11_build_51 (lv_at hl 0 rfl) ?_
      refine q_if_ne hx hb (a := v32.toInt) rfl (tgt := 65) dX11_build_53 rfl (fun c33 => ?_) (fun c33 => ?_)
      · refine lv_aload_n hx hb dX11_build_65 rfl (lv_at hl 1 rfl) ?_
        refine lv_iload hx hb dX11_build_66 (lv_at hl 0 rfl) ?_
        refine q_goI (q_runV (As := [.int v32]) (rest := []) E hC32 hS32 (m_X11_answer l X Γ H32 hC32 h0 g0 v32 (a1 := v32.toInt) rfl) cw_X11_answer cl_RX11_191 g0 ⟨rfl, rfl⟩ rfl hl.1 rfl (Nat.zero_le _) (by decide) dX11_build_68) hS32 (fun v34 H34 locs34 hr34 hC34 hS34 => ?_)
        obtain ⟨hp34, hr34⟩ := hr34
        have hKp34 := hKp32.tr (hp34.mono rfl)
        have f34_0 := hr34
        exact ret v34 H34 locs34 _ _ dX11_build_71 ⟨hKp34, trivial⟩ hC34 hS34
      · refine lv_aload_n hx hb dX11_build_56 rfl (lv_at hl 1 rfl) ?_
        refine lv_bipush (v := 9) hx hb dX11_build_57 rfl ?_
        refine q_goI (q_runV (As := [.int 9]) (rest := []) E hC32 hS32 (m_X11_refuse l X Γ H32 hC32 h0 g0 9 (a1 := 9) (by decide)) cw_X11_refuse cl_RX11_146 g0 ⟨rfl, rfl⟩ rfl hl.1 rfl (Nat.zero_le _) (by decide) dX11_build_59) hS32 (fun v35 H35 locs35 hr35 hC35 hS35 => ?_)
        obtain ⟨hp35, hr35⟩ := hr35
        have hKp35 := hKp32.tr (hp35.mono rfl)
        have f35_0 := hr35
        refine lv_goto (tgt := 71) hx hb dX11_build_62 rfl ?_
        exact ret v35 H35 locs35 _ _ dX11_build_71 ⟨hKp35, trivial⟩ hC35 hS35
    · refine q_if_ne hx hb (a := 0) (by decide) (tgt := 35) dX11_build_26 rfl (fun c36 => absurd c36 (by omega)) (fun c36 => ?_)
      refine lv_aload_n hx hb dX11_build_29 rfl (lv_at hl 0 rfl) ?_
      refine lv_iconst (v := 5) hx hb dX11_build_30 rfl ?_
      refine q_goI (q_runV (As := [.int 5]) (rest := []) E hC0 hS27 (m_X11_refuse l X Γ H0 hC0 h0 g0 5 (a1 := 5) (by decide)) cw_X11_refuse cl_RX11_146 g0 ⟨rfl, rfl⟩ rfl hl.1 rfl (Nat.zero_le _) (by decide) dX11_build_31) hS27 (fun v37 H37 locs37 hr37 hC37 hS37 => ?_)
      obtain ⟨hp37, hr37⟩ := hr37
      have hKp37 := hKp0.tr (hp37.mono rfl)
      have f37_0 := hr37
      exact ret v37 H37 locs37 _ _ dX11_build_34 ⟨hKp37, trivial⟩ hC37 hS37
set_option maxRecDepth 100000 in
set_option maxHeartbeats 4000000 in
theorem m_X9_freezes (l : Launch) (X : xW) (Γ : Nat → Option Nat) (H0 : Heap) (hC0 : Conf X Γ H0) (h0 : Nat) (g0 : Γ h0 = some 5) (p1 : Int32) {a1 : Int} (e1 : p1.toInt = a1) : Ctr l X Γ yX9_freezes cX9_freezes 4 (some .boolean) 2 [.ref h0, .int p1] H0 (QI X Γ (fun v H1 => Kp X Γ [0, 2, 3, 4, 5, 18, 21, 23, 25, 27] H0 H1 ∧ (v = 0 ∨ v = 1))) := by
  refine q_enterZ (own := "SnowForts$Yard") (by decide) rfl (Nat.le_of_ble_eq_true rfl) ?_
  intro p e s m args below meth c ls Qz E hl ret hS0
  have hx := E.1; have hb := E.2.1
  have hKp0 : Kp X Γ [0, 2, 3, 4, 5, 18, 21, 23, 25, 27] H0 H0 := Kp.rf
  have hl : lv_has ls 4 [(0, .ref h0), (1, .int p1)] := hl
  refine lv_aload_n hx hb dX9_freezes_0 rfl (lv_at hl 0 rfl) ?_
  refine lv_iload_n hx hb dX9_freezes_1 rfl (lv_at hl 1 rfl) ?_
  refine q_goIp (q_runV (As := [.int p1]) (rest := []) E hC0 hS0 (m_X9_holds l X Γ H0 hC0 h0 g0 p1 (a1 := a1) e1) cw_X9_holds cl_RX9_99 g0 ⟨rfl, rfl⟩ rfl hl.1 rfl (Nat.zero_le _) (by decide) dX9_freezes_2) hS0 (fun v21 locs21 hr21 hS21 => ?_)
  rcases hr21 with ⟨rfl, f21a0, f21a1⟩ | ⟨rfl, -⟩
  · refine q_if_ne hx hb (a := 1) (by decide) (tgt := 10) dX9_freezes_5 rfl (fun c22 => ?_) (fun c22 => absurd c22 (by omega))
    refine lv_aload_n hx hb dX9_freezes_10 rfl (lv_at hl 0 rfl) ?_
    refine lv_iload_n hx hb dX9_freezes_11 rfl (lv_at hl 1 rfl) ?_
    refine q_goIp (q_runV (As := [.int p1]) (rest := []) E hC0 hS21 (m_X9_halfOf l X Γ H0 hC0 h0 g0 p1 (a1 := a1) e1) cw_X9_halfOf cl_RX9_102 g0 ⟨rfl, rfl⟩ rfl hl.1 rfl (Nat.zero_le _) (by decide) dX9_freezes_12) hS21 (fun v23 locs23 hr23 hS23 => ?_)
    obtain ⟨f23_0, f23_1⟩ := hr23
    refine lv_istore_n hx hb dX9_freezes_15 rfl hl (by decide) rfl (fun ls hl => ?_)
    replace hl : lv_has ls 4 [(2, .int v23), (0, .ref h0), (1, .int p1)] := hl
    refine lv_aload_n hx hb dX9_freezes_16 rfl (lv_at hl 1 rfl) ?_
    refine q_getR E hC0 g0 fa_RX9_37 dX9_freezes_17 (fun q24 eq24 gq24 => ?_)
    refine lv_iload_n hx hb dX9_freezes_20 rfl (lv_at hl 2 rfl) ?_
    refine q_iald E hC0 gq24 rfl rfl (fun _ h => h) (i_in (a := a1) e1 (by omega) (by omega)) dX9_freezes_21 (fun v25 ev25 _ _ => ?_)
    refine lv_iconst (v := 1) hx hb dX9_freezes_22 rfl ?_
    refine q_icmp_lt hx hb (a := v25.toInt) (b := 1) rfl (by decide) (tgt := 45) dX9_freezes_23 rfl (fun c26 => ?_) (fun c26 => ?_)
    · refine lv_iconst (v := 0) hx hb dX9_freezes_45 rfl ?_
      exact ret 0 H0 locs23 _ _ dX9_freezes_46 (Or.inl rfl) ⟨hKp0, Or.inl rfl⟩ hC0 hS23
    · refine lv_aload_n hx hb dX9_freezes_26 rfl (lv_at hl 1 rfl) ?_
      refine q_getR E hC0 g0 fa_RX9_46 dX9_freezes_27 (fun q27 eq27 gq27 => ?_)
      refine lv_iload_n hx hb dX9_freezes_30 rfl (lv_at hl 2 rfl) ?_
      refine q_iald E hC0 gq27 rfl rfl (fun _ h => h) (i_in (a := a1) e1 (by omega) (by omega)) dX9_freezes_31 (fun v28 ev28 _ _ => ?_)
      refine lv_iconst (v := 1) hx hb dX9_freezes_32 rfl ?_
      refine q_icmp_eq hx hb (a := v28.toInt) (b := 1) rfl (by decide) (tgt := 45) dX9_freezes_33 rfl (fun c29 => ?_) (fun c29 => ?_)
      · refine lv_iconst (v := 0) hx hb dX9_freezes_45 rfl ?_
        exact ret 0 H0 locs23 _ _ dX9_freezes_46 (Or.inl rfl) ⟨hKp0, Or.inl rfl⟩ hC0 hS23
      · refine lv_aload_n hx hb dX9_freezes_36 rfl (lv_at hl 1 rfl) ?_
        refine lv_iload_n hx hb dX9_freezes_37 rfl (lv_at hl 0 rfl) ?_
        refine q_goIp (q_runV (As := [.int v23]) (rest := []) E hC0 hS23 (m_X9_handsLeft l X Γ H0 hC0 h0 g0 v23 (a1 := v23.toInt) rfl (by omega) (by omega)) cw_X9_handsLeft cl_RX9_129 g0 ⟨rfl, rfl⟩ rfl hl.1 rfl (Nat.zero_le _) (by decide) dX9_freezes_38) hS23 (fun v30 locs30 hr30 hS30 => ?_)
        refine lv_iconst (v := 2) hx hb dX9_freezes_41 rfl ?_
        refine q_icmp_ge hx hb (a := v30.toInt) (b := 2) rfl (by decide) (tgt := 47) dX9_freezes_42 rfl (fun c31 => ?_) (fun c31 => ?_)
        · refine lv_aload_n hx hb dX9_freezes_47 rfl (lv_at hl 1 rfl) ?_
          refine q_getR E hC0 g0 fa_RX9_46 dX9_freezes_48 (fun q32 eq32 gq32 => ?_)
          refine lv_iload_n hx hb dX9_freezes_51 rfl (lv_at hl 2 rfl) ?_
          refine lv_iconst (v := 1) hx hb dX9_freezes_52 rfl ?_
          refine q_iast E hC0 hS30 gq32 (by decide) rfl rfl (i_in (a := a1) e1 (by omega) (by omega)) tv_F dX9_freezes_53 (fun H33 locs33 hC33 hS33 U33 => ?_)
          have hKp33 := Kp.upA gq32 rfl (by decide) rfl U33 hKp0
          refine lv_aload_n hx hb dX9_freezes_54 rfl (lv_at hl 1 rfl) ?_
          refine q_getR E hC33 g0 fa_RX9_49 dX9_freezes_55 (fun q34 eq34 gq34 => ?_)
          refine lv_iload_n hx hb dX9_freezes_58 rfl (lv_at hl 2 rfl) ?_
          refine lv_iconst (v := 0) hx hb dX9_freezes_59 rfl ?_
          refine q_iast E hC33 hS33 gq34 (by decide) rfl rfl (i_in (a := a1) e1 (by omega) (by omega)) tv_F dX9_freezes_60 (fun H35 locs35 hC35 hS35 U35 => ?_)
          have hKp35 := Kp.upA gq34 rfl (by decide) rfl U35 hKp33
          refine lv_aload_n hx hb dX9_freezes_61 rfl (lv_at hl 1 rfl) ?_
          refine q_getR E hC35 g0 fa_RX9_22 dX9_freezes_62 (fun q36 eq36 gq36 => ?_)
          refine lv_iload_n hx hb dX9_freezes_65 rfl (lv_at hl 0 rfl) ?_
          refine lv_dup2_11 hx hb dX9_freezes_66 rfl rfl ?_
          refine q_iald E hC35 gq36 rfl rfl (fun _ h => h) (i_in (a := v23.toInt) rfl (by omega) (by omega)) dX9_freezes_67 (fun v37 ev37 _ _ => ?_)
          refine lv_iconst (v := 2) hx hb dX9_freezes_68 rfl ?_
          refine lv_iadd hx hb dX9_freezes_69 (lv_topi (fun v38 ev38 => ?_))
          refine q_iast E hC35 hS35 gq36 (by decide) rfl rfl (i_in (a := v23.toInt) rfl (by omega) (by omega)) tv_F dX9_freezes_70 (fun H39 locs39 hC39 hS39 U39 => ?_)
          have hKp39 := Kp.upA gq36 rfl (by decide) rfl U39 hKp35
          refine lv_aload_n hx hb dX9_freezes_71 rfl (lv_at hl 1 rfl) ?_
          refine q_getR E hC39 g0 fa_RX9_28 dX9_freezes_72 (fun q40 eq40 gq40 => ?_)
          refine lv_iconst (v := 3) hx hb dX9_freezes_75 rfl ?_
          refine q_iald E hC39 gq40 rfl rfl (fun _ h => h) (i_in (a := 3) (show (3 : Int32).toInt = 3 from by decide) (by omega) (by omega)) dX9_freezes_76 (fun v41 ev41 _ _ => ?_)
          refine lv_istore_n hx hb dX9_freezes_77 rfl hl (by decide) rfl (fun ls hl => ?_)
          replace hl : lv_has ls 4 [(3, .int v41), (2, .int v23), (0, .ref h0), (1, .int p1)] := hl
          refine lv_iload_n hx hb dX9_freezes_78 rfl (lv_at hl 0 rfl) ?_
          refine lv_iconst (v := (-1)) hx hb dX9_freezes_79 rfl ?_
          refine q_icmp_eq hx hb (a := v41.toInt) (b := (-1)) rfl (by decide) (tgt := 99) dX9_freezes_80 rfl (fun c42 => ?_) (fun c42 => ?_)
          · refine lv_iconst (v := 1) hx hb dX9_freezes_99 rfl ?_
            exact ret 1 H39 locs39 _ _ dX9_freezes_100 (Or.inr rfl) ⟨hKp39, Or.inr rfl⟩ hC39 hS39
          · refine lv_aload_n hx hb dX9_freezes_83 rfl (lv_at hl 2 rfl) ?_
            refine lv_iload_n hx hb dX9_freezes_84 rfl (lv_at hl 1 rfl) ?_
            refine q_goIp (q_runV (As := [.int v23]) (rest := []) E hC39 hS39 (m_X9_icedCells l X Γ H39 hC39 h0 g0 v23 (a1 := v23.toInt) rfl) cw_X9_icedCells cl_RX9_105 g0 ⟨rfl, rfl⟩ rfl hl.1 rfl (Nat.zero_le _) (by decide) dX9_freezes_85) hS39 (fun v43 locs43 hr43 hS43 => ?_)
            refine lv_iload_n hx hb dX9_freezes_88 rfl (lv_at hl 0 rfl) ?_
            have c44 := i_rng v43; rw [show v43.toInt = v43.toInt from rfl] at c44
            have c45 := i_rng v41; rw [show v41.toInt = v41.toInt from rfl] at c45
            refine q_icmp_le hx hb (a := v43.toInt) (b := v41.toInt) rfl rfl (tgt := 99) dX9_freezes_89 rfl (fun c46 => ?_) (fun c46 => ?_)
            · refine lv_iconst (v := 1) hx hb dX9_freezes_99 rfl ?_
              exact ret 1 H39 locs43 _ _ dX9_freezes_100 (Or.inr rfl) ⟨hKp39, Or.inr rfl⟩ hC39 hS43
            · refine lv_aload_n hx hb dX9_freezes_92 rfl (lv_at hl 2 rfl) ?_
              refine lv_iload_n hx hb dX9_freezes_93 rfl (lv_at hl 1 rfl) ?_
              refine lv_iconst (v := 3) hx hb dX9_freezes_94 rfl ?_
              refine lv_iload_n hx hb dX9_freezes_95 rfl (lv_at hl 3 rfl) ?_
              refine q_goV (q_runV (As := [.int v23, .int 3, .int p1]) (rest := []) E hC39 hS43 (m_X9_breaks l X Γ H39 hC39 h0 g0 v23 (a1 := v23.toInt) rfl 3 (a2 := 3) (by decide) p1 (a3 := a1) e1 (by omega) (by omega)) cw_X9_breaks cl_RX9_139 g0 ⟨rfl, rfl⟩ rfl hl.1 rfl (Nat.zero_le _) (by decide) dX9_freezes_96) hS43 (fun H47 locs47 hr47 hC47 hS47 => ?_)
              have hKp47 := hKp39.tr (hr47.mono rfl)
              refine lv_iconst (v := 1) hx hb dX9_freezes_99 rfl ?_
              exact ret 1 H47 locs47 _ _ dX9_freezes_100 (Or.inr rfl) ⟨hKp47, Or.inr rfl⟩ hC47 hS47
        · refine lv_iconst (v := 0) hx hb dX9_freezes_45 rfl ?_
          exact ret 0 H0 locs30 _ _ dX9_freezes_46 (Or.inl rfl) ⟨hKp0, Or.inl rfl⟩ hC0 hS30
  · refine q_if_ne hx hb (a := 0) (by decide) (tgt := 10) dX9_freezes_5 rfl (fun c48 => absurd c48 (by omega)) (fun c48 => ?_)
    refine lv_iconst (v := 0) hx hb dX9_freezes_8 rfl ?_
    exact ret 0 H0 locs21 _ _ dX9_freezes_9 (Or.inl rfl) ⟨hKp0, Or.inl rfl⟩ hC0 hS21
set_option maxRecDepth 100000 in
set_option maxHeartbeats 4000000 in
theorem m_X11_ice (l : Launch) (X : xW) (Γ : Nat → Option Nat) (H0 : Heap) (hC0 : Conf X Γ H0) (h0 : Nat) (g0 : Γ h0 = some 0) (p1 : Int32) {a1 : Int} (e1 : p1.toInt = a1) (p2 : Int32) {a2 : Int} (e2 : p2.toInt = a2) : Ctr l X Γ yX11_ice cX11_ice 3 (some .boolean) 3 [.ref h0, .int p1, .int p2] H0 (QI X Γ (fun v H1 => Kp X Γ [0, 2, 3, 4, 5, 18, 21, 23, 25, 27] H0 H1 ∧ (v = 0 ∨ v = 1))) := by
  refine q_enterZ (own := "SnowForts") (by decide) rfl (Nat.le_of_ble_eq_true rfl) ?_
  intro p e s m args below meth c ls Qz E hl ret hS0
  have hx := E.1; have hb := E.2.1
  have hKp0 : Kp X Γ [0, 2, 3, 4, 5, 18, 21, 23, 25, 27] H0 H0 := Kp.rf
  have hl : lv_has ls 3 [(0, .ref h0), (1, .int p1), (2, .int p2)] := hl
  refine lv_aload_n hx hb dX11_ice_0 rfl (lv_at hl 0 rfl) ?_
  refine q_getR E hC0 g0 fa_RX11_42 dX11_ice_1 (fun q21 eq21 gq21 => ?_)
  refine lv_iload_n hx hb dX11_ice_4 rfl (lv_at hl 1 rfl) ?_
  refine lv_iload_n hx hb dX11_ice_5 rfl (lv_at hl 2 rfl) ?_
  refine q_goIp (q_runV (As := [.int p1, .int p2]) (rest := []) E hC0 hS0 (m_X9_isOwned l X Γ H0 hC0 q21 gq21 p1 (a1 := a1) e1 p2 (a2 := a2) e2) cw_X9_isOwned cl_RX11_238 gq21 ⟨rfl, rfl⟩ rfl hl.1 rfl (Nat.zero_le _) (by decide) dX11_ice_6) hS0 (fun v22 locs22 hr22 hS22 => ?_)
  rcases hr22 with rfl | rfl
  · refine q_if_ne hx hb (a := 0) (by decide) (tgt := 18) dX11_ice_9 rfl (fun c23 => absurd c23 (by omega)) (fun c23 => ?_)
    refine lv_aload_n hx hb dX11_ice_12 rfl (lv_at hl 0 rfl) ?_
    refine lv_iconst (v := 2) hx hb dX11_ice_13 rfl ?_
    refine q_goI (q_runV (As := [.int 2]) (rest := []) E hC0 hS22 (m_X11_deny l X Γ H0 hC0 h0 g0 2 (a1 := 2) (by decide)) cw_X11_deny cl_RX11_128 g0 ⟨rfl, rfl⟩ rfl hl.1 rfl (Nat.zero_le _) (by decide) dX11_ice_14) hS22 (fun v24 H24 locs24 hr24 hC24 hS24 => ?_)
    obtain ⟨hp24, hr24⟩ := hr24
    have hKp24 := hKp0.tr (hp24.mono rfl)
    rcases hr24 with ⟨rfl, f24a⟩ | ⟨rfl, -⟩
    · exact absurd f24a (by decide)
    · exact ret 0 H24 locs24 _ _ dX11_ice_17 (Or.inl rfl) ⟨hKp24, Or.inl rfl⟩ hC24 hS24
  · refine q_if_ne hx hb (a := 1) (by decide) (tgt := 18) dX11_ice_9 rfl (fun c25 => ?_) (fun c25 => absurd c25 (by omega))
    refine lv_aload_n hx hb dX11_ice_18 rfl (lv_at hl 0 rfl) ?_
    refine q_getR E hC0 g0 fa_RX11_42 dX11_ice_19 (fun q26 eq26 gq26 => ?_)
    refine lv_iload_n hx hb dX11_ice_22 rfl (lv_at hl 2 rfl) ?_
    refine lv_bipush (v := 6) hx hb dX11_ice_23 rfl ?_
    refine lv_imul hx hb dX11_ice_25 (lv_topi (fun v27 ev27 => ?_))
    refine lv_iload_n hx hb dX11_ice_26 rfl (lv_at hl 1 rfl) ?_
    refine lv_iadd hx hb dX11_ice_27 (lv_topi (fun v28 ev28 => ?_))
    refine q_goI (q_runV (As := [.int v28]) (rest := []) E hC0 hS22 (m_X9_freezes l X Γ H0 hC0 q26 gq26 v28 (a1 := v28.toInt) rfl) cw_X9_freezes cl_RX11_244 gq26 ⟨rfl, rfl⟩ rfl hl.1 rfl (Nat.zero_le _) (by decide) dX11_ice_28) hS22 (fun v29 H29 locs29 hr29 hC29 hS29 => ?_)
    obtain ⟨hp29, hr29⟩ := hr29
    have hKp29 := hKp0.tr (hp29.mono rfl)
    rcases hr29 with rfl | rfl
    · refine q_if_eq hx hb (a := 0) (by decide) (tgt := 41) dX11_ice_31 rfl (fun c30 => ?_) (fun c30 => absurd c30 (by omega))
      refine lv_aload_n hx hb dX11_ice_41 rfl (lv_at hl 0 rfl) ?_
      refine lv_bipush (v := 9) hx hb dX11_ice_42 rfl ?_
      refine q_goI (q_runV (As := [.int 9]) (rest := []) E hC29 hS29 (m_X11_deny l X Γ H29 hC29 h0 g0 9 (a1 := 9) (by decide)) cw_X11_deny cl_RX11_128 g0 ⟨rfl, rfl⟩ rfl hl.1 rfl (Nat.zero_le _) (by decide) dX11_ice_44) hS29 (fun v31 H31 locs31 hr31 hC31 hS31 => ?_)
      obtain ⟨hp31, hr31⟩ := hr31
      have hKp31 := hKp29.tr (hp31.mono rfl)
      rcases hr31 with ⟨rfl, f31a⟩ | ⟨rfl, -⟩
      · exact absurd f31a (by decide)
      · exact ret 0 H31 locs31 _ _ dX11_ice_47 (Or.inl rfl) ⟨hKp31, Or.inl rfl⟩ hC31 hS31
    · refine q_if_eq hx hb (a := 1) (by decide) (tgt := 41) dX11_ice_31 rfl (fun c32 => absurd c32 (by omega)) (fun c32 => ?_)
      refine lv_aload_n hx hb dX11_ice_34 rfl (lv_at hl 0 rfl) ?_
      refine q_goI (q_runV (As := []) (rest := []) E hC29 hS29 (m_X11_grant l X Γ H29 hC29 h0 g0) cw_X11_grant cl_RX11_135 g0 ⟨rfl, rfl⟩ rfl hl.1 rfl (Nat.zero_le _) (by decide) dX11_ice_35) hS29 (fun v33 H33 locs33 hr33 hC33 hS33 => ?_)
      obtain ⟨hp33, hr33⟩ := hr33
      have hKp33 := hKp29.tr (hp33.mono rfl)
      rcases hr33 with ⟨rfl, -⟩ | ⟨rfl, f33b⟩
      · refine lv_goto (tgt := 47) hx hb dX11_ice_38 rfl ?_
        exact ret 1 H33 locs33 _ _ dX11_ice_47 (Or.inr rfl) ⟨hKp33, Or.inr rfl⟩ hC33 hS33
      · exact absurd f33b (by decide)
set_option maxRecDepth 100000 in
set_option maxHeartbeats 4000000 in
theorem m_X9_takes (l : Launch) (X : xW) (Γ : Nat → Option Nat) (H0 : Heap) (hC0 : Conf X Γ H0) (h0 : Nat) (g0 : Γ h0 = some 5) (p1 : Int32) {a1 : Int} (e1 : p1.toInt = a1) (p2 : Int32) {a2 : Int} (e2 : p2.toInt = a2) (p3 : Int32) {a3 : Int} (e3 : p3.toInt = a3) : Ctr l X Γ yX9_takes cX9_takes 8 (some .int) 2 [.ref h0, .int p1, .int p2, .int p3] H0 (QI X Γ (fun v H1 => Kp X Γ [0, 2, 3, 4, 5, 18, 21, 23, 25, 27] H0 H1 ∧ (True))) := by
  refine q_enterI (own := "SnowForts$Yard") (by decide) rfl (Nat.le_of_ble_eq_true rfl) ?_
  intro p e s m args below meth c ls Qz E hl ret hS0
  have hx := E.1; have hb := E.2.1
  have hKp0 : Kp X Γ [0, 2, 3, 4, 5, 18, 21, 23, 25, 27] H0 H0 := Kp.rf
  have hl : lv_has ls 8 [(0, .ref h0), (1, .int p1), (2, .int p2), (3, .int p3)] := hl
  refine lv_aload_n hx hb dX9_takes_0 rfl (lv_at hl 0 rfl) ?_
  refine lv_iload_n hx hb dX9_takes_1 rfl (lv_at hl 1 rfl) ?_
  refine q_goIp (q_runV (As := [.int p1]) (rest := []) E hC0 hS0 (m_X9_holds l X Γ H0 hC0 h0 g0 p1 (a1 := a1) e1) cw_X9_holds cl_RX9_99 g0 ⟨rfl, rfl⟩ rfl hl.1 rfl (Nat.zero_le _) (by decide) dX9_takes_2) hS0 (fun v21 locs21 hr21 hS21 => ?_)
  rcases hr21 with ⟨rfl, f21a0, f21a1⟩ | ⟨rfl, -⟩
  · refine q_if_eq hx hb (a := 1) (by decide) (tgt := 29) dX9_takes_5 rfl (fun c22 => absurd c22 (by omega)) (fun c22 => ?_)
    refine lv_aload_n hx hb dX9_takes_8 rfl (lv_at hl 0 rfl) ?_
    refine lv_iload_n hx hb dX9_takes_9 rfl (lv_at hl 2 rfl) ?_
    refine q_goIp (q_runV (As := [.int p2]) (rest := []) E hC0 hS21 (m_X9_holds l X Γ H0 hC0 h0 g0 p2 (a1 := a2) e2) cw_X9_holds cl_RX9_99 g0 ⟨rfl, rfl⟩ rfl hl.1 rfl (Nat.zero_le _) (by decide) dX9_takes_10) hS21 (fun v23 locs23 hr23 hS23 => ?_)
    rcases hr23 with ⟨rfl, f23a0, f23a1⟩ | ⟨rfl, -⟩
    · refine q_if_eq hx hb (a := 1) (by decide) (tgt := 29) dX9_takes_13 rfl (fun c24 => absurd c24 (by omega)) (fun c24 => ?_)
      refine lv_aload_n hx hb dX9_takes_16 rfl (lv_at hl 0 rfl) ?_
      refine lv_iload_n hx hb dX9_takes_17 rfl (lv_at hl 1 rfl) ?_
      refine q_goIp (q_runV (As := [.int p1]) (rest := []) E hC0 hS23 (m_X9_halfOf l X Γ H0 hC0 h0 g0 p1 (a1 := a1) e1) cw_X9_halfOf cl_RX9_102 g0 ⟨rfl, rfl⟩ rfl hl.1 rfl (Nat.zero_le _) (by decide) dX9_takes_18) hS23 (fun v25 locs25 hr25 hS25 => ?_)
      obtain ⟨f25_0, f25_1⟩ := hr25
      refine lv_aload_n hx hb dX9_takes_21 rfl (lv_at hl 0 rfl) ?_
      refine lv_iload_n hx hb dX9_takes_22 rfl (lv_at hl 2 rfl) ?_
      refine q_goIp (q_runV (As := [.int p2]) (rest := [.int v25]) E hC0 hS25 (m_X9_halfOf l X Γ H0 hC0 h0 g0 p2 (a1 := a2) e2) cw_X9_halfOf cl_RX9_102 g0 ⟨rfl, rfl⟩ rfl hl.1 rfl (show _ ≤ _ from by simp [Value.category]) (by decide) dX9_takes_23) hS25 (fun v26 locs26 hr26 hS26 => ?_)
      obtain ⟨f26_0, f26_1⟩ := hr26
      refine q_icmp_ne hx hb (a := v25.toInt) (b := v26.toInt) rfl rfl (tgt := 31) dX9_takes_26 rfl (fun c27 => ?_) (fun c27 => ?_)
      · refine lv_aload_n hx hb dX9_takes_31 rfl (lv_at hl 0 rfl) ?_
        refine lv_iload_n hx hb dX9_takes_32 rfl (lv_at hl 1 rfl) ?_
        refine q_goIp (q_runV (As := [.int p1]) (rest := []) E hC0 hS26 (m_X9_halfOf l X Γ H0 hC0 h0 g0 p1 (a1 := a1) e1) cw_X9_halfOf cl_RX9_102 g0 ⟨rfl, rfl⟩ rfl hl.1 rfl (Nat.zero_le _) (by decide) dX9_takes_33) hS26 (fun v28 locs28 hr28 hS28 => ?_)
        obtain ⟨f28_0, f28_1⟩ := hr28
        refine lv_istore hx hb dX9_takes_36 hl (by decide) rfl (fun ls hl => ?_)
        replace hl : lv_has ls 8 [(4, .int v28), (0, .ref h0), (1, .int p1), (2, .int p2), (3, .int p3)] := hl
        refine lv_iload_n hx hb dX9_takes_38 rfl (lv_at hl 4 rfl) ?_
        refine lv_iconst (v := 2) hx hb dX9_takes_39 rfl ?_
        refine lv_aload_n hx hb dX9_takes_40 rfl (lv_at hl 1 rfl) ?_
        refine lv_iload hx hb dX9_takes_41 (lv_at hl 0 rfl) ?_
        refine q_goIp (q_runV (As := [.int v28]) (rest := [.int 2, .int p3]) E hC0 hS28 (m_X9_handsLeft l X Γ H0 hC0 h0 g0 v28 (a1 := v28.toInt) rfl (by omega) (by omega)) cw_X9_handsLeft cl_RX9_129 g0 ⟨rfl, rfl⟩ rfl hl.1 rfl (show _ ≤ _ from by simp [Value.category]) (by decide) dX9_takes_43) hS28 (fun v29 locs29 hr29 hS29 => ?_)
        refine lv_imul hx hb dX9_takes_46 (lv_topi (fun v30 ev30 => ?_))
        refine q_mmin E hl.1 w_908 mathw_min (a := a3) (b := v30.toInt) e3 rfl (by decide) (Nat.zero_le _) dX9_takes_47 (fun v31 mv31a mv31b mv31c => ?_)
        refine lv_aload_n hx hb dX9_takes_50 rfl (lv_at hl 1 rfl) ?_
        refine q_getR E hC0 g0 fa_RX9_34 dX9_takes_51 (fun q32 eq32 gq32 => ?_)
        refine lv_iload_n hx hb dX9_takes_54 rfl (lv_at hl 3 rfl) ?_
        refine q_iald E hC0 gq32 rfl rfl (fun _ h => h) (i_in (a := a2) e2 (by omega) (by omega)) dX9_takes_55 (fun v33 ev33 _ _ => ?_)
        refine q_mmin E hl.1 w_908 mathw_min (a := v31.toInt) (b := v33.toInt) rfl rfl (by decide) (Nat.zero_le _) dX9_takes_56 (fun v34 mv34a mv34b mv34c => ?_)
        refine lv_istore hx hb dX9_takes_59 hl (by decide) rfl (fun ls hl => ?_)
        replace hl : lv_has ls 8 [(5, .int v34), (4, .int v28), (0, .ref h0), (1, .int p1), (2, .int p2), (3, .int p3)] := hl
        refine lv_iload hx hb dX9_takes_61 (lv_at hl 0 rfl) ?_
        refine q_if_gt hx hb (a := v34.toInt) rfl (tgt := 68) dX9_takes_63 rfl (fun c35 => ?_) (fun c35 => ?_)
        · refine lv_iload hx hb dX9_takes_68 (lv_at hl 0 rfl) ?_
          refine lv_iconst (v := 1) hx hb dX9_takes_70 rfl ?_
          refine lv_iadd hx hb dX9_takes_71 (lv_topi (fun v36 ev36 => ?_))
          refine lv_iconst (v := 2) hx hb dX9_takes_72 rfl ?_
          refine lv_idiv hx hb dX9_takes_73 (by decide) (lv_topi (fun v37 ev37 => ?_))
          refine lv_istore hx hb dX9_takes_74 hl (by decide) rfl (fun ls hl => ?_)
          replace hl : lv_has ls 8 [(6, .int v37), (5, .int v34), (4, .int v28), (0, .ref h0), (1, .int p1), (2, .int p2), (3, .int p3)] := hl
          refine lv_iconst (v := 0) hx hb dX9_takes_76 rfl ?_
          refine lv_istore hx hb dX9_takes_77 hl (by decide) rfl (fun ls hl => ?_)
          replace hl : lv_has ls 8 [(7, .int 0), (6, .int v37), (5, .int v34), (4, .int v28), (0, .ref h0), (1, .int p1), (2, .int p2), (3, .int p3)] := hl
          have L79 : ∀ (n39 : Nat) (H39 : Heap) (locs39 : List Loc) (v38 : Int32) (z38 : Int) (ls : Array Slot), (v37.toInt - z38).toNat < n39 → v38.toInt = z38 → 0 ≤ z38 → Conf X Γ H39 → va_S (AΓ Γ) H0 H39 locs39 → Kp X Γ [0, 2, 3, 4, 5, 18, 21, 23, 25, 27] H0 H39 → lv_has ls 8 [(7, .int v38), (6, .int v37), (5, .int v34), (4, .int v28), (0, .ref h0), (1, .int p1), (2, .int p2), (3, .int p3)] → W p l e (rmL 2) s m args below meth c H39 locs39 0 0 Qz (F0 m 79 ls []) := by
            intro n39
            induction n39 with
            | zero => intro H39 locs39 v38 z38 ls hm39 ev38 iv39_0 hC39 hS39 hKp39 hl; exact absurd hm39 (Nat.not_lt_zero _)
            | succ n39 ih39 =>
              intro H39 locs39 v38 z38 ls hm39 ev38 iv39_0 hC39 hS39 hKp39 hl
              refine lv_iload hx hb dX9_takes_79 (lv_at hl 0 rfl) ?_
              refine lv_iload hx hb dX9_takes_81 (lv_at hl 1 rfl) ?_
              have c40 := i_rng v37; rw [show v37.toInt = v37.toInt from rfl] at c40
              refine q_icmp_ge hx hb (a := z38) (b := v37.toInt) ev38 rfl (tgt := 110) dX9_takes_83 rfl (fun c41 => ?_) (fun c41 => ?_)
              · refine lv_aload_n hx hb dX9_takes_110 rfl (lv_at hl 4 rfl) ?_
                refine q_getR E hC39 g0 fa_RX9_22 dX9_takes_111 (fun q42 eq42 gq42 => ?_)
                refine lv_iload hx hb dX9_takes_114 (lv_at hl 3 rfl) ?_
                refine lv_dup2_11 hx hb dX9_takes_116 rfl rfl ?_
                refine q_iald E hC39 gq42 rfl rfl (fun _ h => h) (i_in (a := v28.toInt) rfl (by omega) (by omega)) dX9_takes_117 (fun v43 ev43 _ _ => ?_)
                refine lv_iload hx hb dX9_takes_118 (lv_at hl 1 rfl) ?_
                refine lv_iadd hx hb dX9_takes_120 (lv_topi (fun v44 ev44 => ?_))
                refine q_iast E hC39 hS39 gq42 (by decide) rfl rfl (i_in (a := v28.toInt) rfl (by omega) (by omega)) tv_F dX9_takes_121 (fun H45 locs45 hC45 hS45 U45 => ?_)
                have hKp45 := Kp.upA gq42 rfl (by decide) rfl U45 hKp39
                refine lv_aload_n hx hb dX9_takes_122 rfl (lv_at hl 4 rfl) ?_
                refine q_getR E hC45 g0 fa_RX9_34 dX9_takes_123 (fun q46 eq46 gq46 => ?_)
                refine lv_iload_n hx hb dX9_takes_126 rfl (lv_at hl 6 rfl) ?_
                refine lv_dup2_11 hx hb dX9_takes_127 rfl rfl ?_
                refine q_iald E hC45 gq46 rfl rfl (fun _ h => h) (i_in (a := a2) e2 (by omega) (by omega)) dX9_takes_128 (fun v47 ev47 _ _ => ?_)
                refine lv_iload hx hb dX9_takes_129 (lv_at hl 2 rfl) ?_
                refine lv_isub hx hb dX9_takes_131 (lv_topi (fun v48 ev48 => ?_))
                refine q_iast E hC45 hS45 gq46 (by decide) rfl rfl (i_in (a := a2) e2 (by omega) (by omega)) tv_F dX9_takes_132 (fun H49 locs49 hC49 hS49 U49 => ?_)
                have hKp49 := Kp.upA gq46 rfl (by decide) rfl U49 hKp45
                refine lv_aload_n hx hb dX9_takes_133 rfl (lv_at hl 4 rfl) ?_
                refine lv_iload_n hx hb dX9_takes_134 rfl (lv_at hl 5 rfl) ?_
                refine lv_iload hx hb dX9_takes_135 (lv_at hl 2 rfl) ?_
                refine q_goI (q_runV (As := [.int p1, .int v34]) (rest := []) E hC49 hS49 (m_X9_heaps l X Γ H49 hC49 h0 g0 p1 (a1 := a1) e1 v34 (a2 := v34.toInt) rfl (by omega) (by omega)) cw_X9_heaps cl_RX9_114 g0 ⟨rfl, rfl⟩ rfl hl.1 rfl (Nat.zero_le _) (by decide) dX9_takes_137) hS49 (fun v50 H50 locs50 hr50 hC50 hS50 => ?_)
                obtain ⟨hp50, hr50⟩ := hr50
                have hKp50 := hKp49.tr (hp50.mono rfl)
                refine lv_pop hx hb dX9_takes_140 rfl ?_
                refine lv_aload_n hx hb dX9_takes_141 rfl (lv_at hl 4 rfl) ?_
                refine q_getR E hC50 g0 fa_RX9_49 dX9_takes_142 (fun q51 eq51 gq51 => ?_)
                refine lv_iload_n hx hb dX9_takes_145 rfl (lv_at hl 5 rfl) ?_
                refine lv_iconst (v := 0) hx hb dX9_takes_146 rfl ?_
                refine q_iast E hC50 hS50 gq51 (by decide) rfl rfl (i_in (a := a1) e1 (by omega) (by omega)) tv_F dX9_takes_147 (fun H52 locs52 hC52 hS52 U52 => ?_)
                have hKp52 := Kp.upA gq51 rfl (by decide) rfl U52 hKp50
                refine lv_aload_n hx hb dX9_takes_148 rfl (lv_at hl 4 rfl) ?_
                refine q_getR E hC52 g0 fa_RX9_49 dX9_takes_149 (fun q53 eq53 gq53 => ?_)
                refine lv_iload_n hx hb dX9_takes_152 rfl (lv_at hl 6 rfl) ?_
                refine lv_iconst (v := 0) hx hb dX9_takes_153 rfl ?_
                refine q_iast E hC52 hS52 gq53 (by decide) rfl rfl (i_in (a := a2) e2 (by omega) (by omega)) tv_F dX9_takes_154 (fun H54 locs54 hC54 hS54 U54 => ?_)
                have hKp54 := Kp.upA gq53 rfl (by decide) rfl U54 hKp52
                refine lv_iload hx hb dX9_takes_155 (lv_at hl 2 rfl) ?_
                exact ret v34 H54 locs54 _ _ dX9_takes_157 ⟨hKp54, trivial⟩ hC54 hS54
              · refine lv_aload_n hx hb dX9_takes_86 rfl (lv_at hl 4 rfl) ?_
                refine q_getR E hC39 g0 fa_RX9_28 dX9_takes_87 (fun q55 eq55 gq55 => ?_)
                refine lv_iconst (v := 2) hx hb dX9_takes_90 rfl ?_
                refine q_iald E hC39 gq55 rfl rfl (fun _ h => h) (i_in (a := 2) (show (2 : Int32).toInt = 2 from by decide) (by omega) (by omega)) dX9_takes_91 (fun v56 ev56 _ _ => ?_)
                refine lv_iconst (v := (-1)) hx hb dX9_takes_92 rfl ?_
                refine q_icmp_eq hx hb (a := v56.toInt) (b := (-1)) rfl (by decide) (tgt := 110) dX9_takes_93 rfl (fun c57 => ?_) (fun c57 => ?_)
                · refine lv_aload_n hx hb dX9_takes_110 rfl (lv_at hl 4 rfl) ?_
                  refine q_getR E hC39 g0 fa_RX9_22 dX9_takes_111 (fun q58 eq58 gq58 => ?_)
                  refine lv_iload hx hb dX9_takes_114 (lv_at hl 3 rfl) ?_
                  refine lv_dup2_11 hx hb dX9_takes_116 rfl rfl ?_
                  refine q_iald E hC39 gq58 rfl rfl (fun _ h => h) (i_in (a := v28.toInt) rfl (by omega) (by omega)) dX9_takes_117 (fun v59 ev59 _ _ => ?_)
                  refine lv_iload hx hb dX9_takes_118 (lv_at hl 1 rfl) ?_
                  refine lv_iadd hx hb dX9_takes_120 (lv_topi (fun v60 ev60 => ?_))
                  refine q_iast E hC39 hS39 gq58 (by decide) rfl rfl (i_in (a := v28.toInt) rfl (by omega) (by omega)) tv_F dX9_takes_121 (fun H61 locs61 hC61 hS61 U61 => ?_)
                  have hKp61 := Kp.upA gq58 rfl (by decide) rfl U61 hKp39
                  refine lv_aload_n hx hb dX9_takes_122 rfl (lv_at hl 4 rfl) ?_
                  refine q_getR E hC61 g0 fa_RX9_34 dX9_takes_123 (fun q62 eq62 gq62 => ?_)
                  refine lv_iload_n hx hb dX9_takes_126 rfl (lv_at hl 6 rfl) ?_
                  refine lv_dup2_11 hx hb dX9_takes_127 rfl rfl ?_
                  refine q_iald E hC61 gq62 rfl rfl (fun _ h => h) (i_in (a := a2) e2 (by omega) (by omega)) dX9_takes_128 (fun v63 ev63 _ _ => ?_)
                  refine lv_iload hx hb dX9_takes_129 (lv_at hl 2 rfl) ?_
                  refine lv_isub hx hb dX9_takes_131 (lv_topi (fun v64 ev64 => ?_))
                  refine q_iast E hC61 hS61 gq62 (by decide) rfl rfl (i_in (a := a2) e2 (by omega) (by omega)) tv_F dX9_takes_132 (fun H65 locs65 hC65 hS65 U65 => ?_)
                  have hKp65 := Kp.upA gq62 rfl (by decide) rfl U65 hKp61
                  refine lv_aload_n hx hb dX9_takes_133 rfl (lv_at hl 4 rfl) ?_
                  refine lv_iload_n hx hb dX9_takes_134 rfl (lv_at hl 5 rfl) ?_
                  refine lv_iload hx hb dX9_takes_135 (lv_at hl 2 rfl) ?_
                  refine q_goI (q_runV (As := [.int p1, .int v34]) (rest := []) E hC65 hS65 (m_X9_heaps l X Γ H65 hC65 h0 g0 p1 (a1 := a1) e1 v34 (a2 := v34.toInt) rfl (by omega) (by omega)) cw_X9_heaps cl_RX9_114 g0 ⟨rfl, rfl⟩ rfl hl.1 rfl (Nat.zero_le _) (by decide) dX9_takes_137) hS65 (fun v66 H66 locs66 hr66 hC66 hS66 => ?_)
                  obtain ⟨hp66, hr66⟩ := hr66
                  have hKp66 := hKp65.tr (hp66.mono rfl)
                  refine lv_pop hx hb dX9_takes_140 rfl ?_
                  refine lv_aload_n hx hb dX9_takes_141 rfl (lv_at hl 4 rfl) ?_
                  refine q_getR E hC66 g0 fa_RX9_49 dX9_takes_142 (fun q67 eq67 gq67 => ?_)
                  refine lv_iload_n hx hb dX9_takes_145 rfl (lv_at hl 5 rfl) ?_
                  refine lv_iconst (v := 0) hx hb dX9_takes_146 rfl ?_
                  refine q_iast E hC66 hS66 gq67 (by decide) rfl rfl (i_in (a := a1) e1 (by omega) (by omega)) tv_F dX9_takes_147 (fun H68 locs68 hC68 hS68 U68 => ?_)
                  have hKp68 := Kp.upA gq67 rfl (by decide) rfl U68 hKp66
                  refine lv_aload_n hx hb dX9_takes_148 rfl (lv_at hl 4 rfl) ?_
                  refine q_getR E hC68 g0 fa_RX9_49 dX9_takes_149 (fun q69 eq69 gq69 => ?_)
                  refine lv_iload_n hx hb dX9_takes_152 rfl (lv_at hl 6 rfl) ?_
                  refine lv_iconst (v := 0) hx hb dX9_takes_153 rfl ?_
                  refine q_iast E hC68 hS68 gq69 (by decide) rfl rfl (i_in (a := a2) e2 (by omega) (by omega)) tv_F dX9_takes_154 (fun H70 locs70 hC70 hS70 U70 => ?_)
                  have hKp70 := Kp.upA gq69 rfl (by decide) rfl U70 hKp68
                  refine lv_iload hx hb dX9_takes_155 (lv_at hl 2 rfl) ?_
                  exact ret v34 H70 locs70 _ _ dX9_takes_157 ⟨hKp70, trivial⟩ hC70 hS70
                · refine lv_aload_n hx hb dX9_takes_96 rfl (lv_at hl 4 rfl) ?_
                  refine lv_iload hx hb dX9_takes_97 (lv_at hl 3 rfl) ?_
                  refine lv_iconst (v := 2) hx hb dX9_takes_99 rfl ?_
                  refine lv_iload_n hx hb dX9_takes_100 rfl (lv_at hl 6 rfl) ?_
                  refine q_goV (q_runV (As := [.int v28, .int 2, .int p2]) (rest := []) E hC39 hS39 (m_X9_breaks l X Γ H39 hC39 h0 g0 v28 (a1 := v28.toInt) rfl 2 (a2 := 2) (by decide) p2 (a3 := a2) e2 (by omega) (by omega)) cw_X9_breaks cl_RX9_139 g0 ⟨rfl, rfl⟩ rfl hl.1 rfl (Nat.zero_le _) (by decide) dX9_takes_101) hS39 (fun H71 locs71 hr71 hC71 hS71 => ?_)
                  have hKp71 := hKp39.tr (hr71.mono rfl)
                  obtain ⟨v72, ev72⟩ : ∃ z, z = v38 + Int32.ofInt 1 := ⟨_, rfl⟩
                  have ev72i : v72.toInt = (z38 + 1) := i_add ev72 ev38 (by decide) (by omega) (by omega)
                  refine lv_iinc hx hb dX9_takes_104 hl (k := 0) rfl ev72.symm (by decide) rfl (fun ls hl => ?_)
                  replace hl : lv_has ls 8 [(7, .int v72), (6, .int v37), (5, .int v34), (4, .int v28), (0, .ref h0), (1, .int p1), (2, .int p2), (3, .int p3)] := hl
                  refine lv_goto (tgt := 79) hx hb dX9_takes_107 rfl ?_
                  exact ih39 H71 locs71 v72 ((z38 + 1)) ls (by omega) ev72i (by omega) hC71 hS71 hKp71 hl
          exact L79 _ H0 locs29 0 0 ls (Nat.lt_succ_self _) (by decide) (by omega) hC0 hS29 hKp0 hl
        · refine lv_iconst (v := 0) hx hb dX9_takes_66 rfl ?_
          exact ret 0 H0 locs29 _ _ dX9_takes_67 ⟨hKp0, trivial⟩ hC0 hS29
      · refine lv_iconst (v := 0) hx hb dX9_takes_29 rfl ?_
        exact ret 0 H0 locs26 _ _ dX9_takes_30 ⟨hKp0, trivial⟩ hC0 hS26
    · refine q_if_eq hx hb (a := 0) (by decide) (tgt := 29) dX9_takes_13 rfl (fun c73 => ?_) (fun c73 => absurd c73 (by omega))
      refine lv_iconst (v := 0) hx hb dX9_takes_29 rfl ?_
      exact ret 0 H0 locs23 _ _ dX9_takes_30 ⟨hKp0, trivial⟩ hC0 hS23
  · refine q_if_eq hx hb (a := 0) (by decide) (tgt := 29) dX9_takes_5 rfl (fun c74 => ?_) (fun c74 => absurd c74 (by omega))
    refine lv_iconst (v := 0) hx hb dX9_takes_29 rfl ?_
    exact ret 0 H0 locs21 _ _ dX9_takes_30 ⟨hKp0, trivial⟩ hC0 hS21
set_option maxRecDepth 100000 in
set_option maxHeartbeats 4000000 in
theorem m_X11_steal (l : Launch) (X : xW) (Γ : Nat → Option Nat) (H0 : Heap) (hC0 : Conf X Γ H0) (h0 : Nat) (g0 : Γ h0 = some 0) (p1 : Int32) {a1 : Int} (e1 : p1.toInt = a1) (p2 : Int32) {a2 : Int} (e2 : p2.toInt = a2) (p3 : Int32) {a3 : Int} (e3 : p3.toInt = a3) (p4 : Int32) {a4 : Int} (e4 : p4.toInt = a4) (p5 : Int32) {a5 : Int} (e5 : p5.toInt = a5) : Ctr l X Γ yX11_steal cX11_steal 7 (some .int) 3 [.ref h0, .int p1, .int p2, .int p3, .int p4, .int p5] H0 (QI X Γ (fun v H1 => Kp X Γ [0, 2, 3, 4, 5, 18, 21, 23, 25, 27] H0 H1 ∧ (True))) := by
  refine q_enterI (own := "SnowForts") (by decide) rfl (Nat.le_of_ble_eq_true rfl) ?_
  intro p e s m args below meth c ls Qz E hl ret hS0
  have hx := E.1; have hb := E.2.1
  have hKp0 : Kp X Γ [0, 2, 3, 4, 5, 18, 21, 23, 25, 27] H0 H0 := Kp.rf
  have hl : lv_has ls 7 [(0, .ref h0), (1, .int p1), (2, .int p2), (3, .int p3), (4, .int p4), (5, .int p5)] := hl
  refine lv_aload_n hx hb dX11_steal_0 rfl (lv_at hl 0 rfl) ?_
  refine q_getR E hC0 g0 fa_RX11_42 dX11_steal_1 (fun q21 eq21 gq21 => ?_)
  refine lv_iload_n hx hb dX11_steal_4 rfl (lv_at hl 1 rfl) ?_
  refine lv_iload_n hx hb dX11_steal_5 rfl (lv_at hl 2 rfl) ?_
  refine q_goIp (q_runV (As := [.int p1, .int p2]) (rest := []) E hC0 hS0 (m_X9_isOwned l X Γ H0 hC0 q21 gq21 p1 (a1 := a1) e1 p2 (a2 := a2) e2) cw_X9_isOwned cl_RX11_238 gq21 ⟨rfl, rfl⟩ rfl hl.1 rfl (Nat.zero_le _) (by decide) dX11_steal_6) hS0 (fun v22 locs22 hr22 hS22 => ?_)
  rcases hr22 with rfl | rfl
  · refine q_if_eq hx hb (a := 0) (by decide) (tgt := 25) dX11_steal_9 rfl (fun c23 => ?_) (fun c23 => absurd c23 (by omega))
    refine lv_aload_n hx hb dX11_steal_25 rfl (lv_at hl 0 rfl) ?_
    refine lv_iconst (v := 2) hx hb dX11_steal_26 rfl ?_
    refine q_goI (q_runV (As := [.int 2]) (rest := []) E hC0 hS22 (m_X11_refuse l X Γ H0 hC0 h0 g0 2 (a1 := 2) (by decide)) cw_X11_refuse cl_RX11_146 g0 ⟨rfl, rfl⟩ rfl hl.1 rfl (Nat.zero_le _) (by decide) dX11_steal_27) hS22 (fun v24 H24 locs24 hr24 hC24 hS24 => ?_)
    obtain ⟨hp24, hr24⟩ := hr24
    have hKp24 := hKp0.tr (hp24.mono rfl)
    have f24_0 := hr24
    exact ret v24 H24 locs24 _ _ dX11_steal_30 ⟨hKp24, trivial⟩ hC24 hS24
  · refine q_if_eq hx hb (a := 1) (by decide) (tgt := 25) dX11_steal_9 rfl (fun c25 => absurd c25 (by omega)) (fun c25 => ?_)
    refine lv_aload_n hx hb dX11_steal_12 rfl (lv_at hl 0 rfl) ?_
    refine q_getR E hC0 g0 fa_RX11_42 dX11_steal_13 (fun q26 eq26 gq26 => ?_)
    refine lv_iload_n hx hb dX11_steal_16 rfl (lv_at hl 3 rfl) ?_
    refine lv_iload hx hb dX11_steal_17 (lv_at hl 4 rfl) ?_
    refine q_goIp (q_runV (As := [.int p3, .int p4]) (rest := []) E hC0 hS22 (m_X9_isCell l X Γ H0 hC0 q26 gq26 p3 (a1 := a3) e3 p4 (a2 := a4) e4) cw_X9_isCell cl_RX11_209 gq26 ⟨rfl, rfl⟩ rfl hl.1 rfl (Nat.zero_le _) (by decide) dX11_steal_19) hS22 (fun v27 locs27 hr27 hS27 => ?_)
    rcases hr27 with ⟨rfl, f27a0, f27a1, f27a2, f27a3⟩ | ⟨rfl, -⟩
    · refine q_if_ne hx hb (a := 1) (by decide) (tgt := 31) dX11_steal_22 rfl (fun c28 => ?_) (fun c28 => absurd c28 (by omega))
      refine lv_iload hx hb dX11_steal_31 (lv_at hl 5 rfl) ?_
      refine lv_i2l (v := p5.toInt64) hx hb dX11_steal_33 rfl (lv_topl (fun v29 ev29 => ?_))
      have ev29i : v29.toInt = a5 := l_ofi ev29.symm e5
      refine lv_iconst (v := 1) hx hb dX11_steal_34 rfl ?_
      refine lv_bipush (v := 40) hx hb dX11_steal_35 rfl ?_
      refine q_goIp (q_runS (As := [.long v29, .int 1, .int 40]) (rest := []) E hS27 (m_X11_isWithin l X Γ H0 hC0 v29 (a0 := a5) ev29i 1 (a1 := 1) (by decide) 40 (a2 := 40) (by decide)) cw_X11_isWithin cl_RX11_113 rfl hl.1 rfl (Nat.zero_le _) (by decide) dX11_steal_37) hS27 (fun v30 locs30 hr30 hS30 => ?_)
      rcases hr30 with ⟨rfl, f30a0, f30a1⟩ | ⟨rfl, f30b⟩
      · refine q_if_ne hx hb (a := 1) (by decide) (tgt := 49) dX11_steal_40 rfl (fun c31 => ?_) (fun c31 => absurd c31 (by omega))
        refine lv_aload_n hx hb dX11_steal_49 rfl (lv_at hl 0 rfl) ?_
        refine q_getR E hC0 g0 fa_RX11_42 dX11_steal_50 (fun q32 eq32 gq32 => ?_)
        refine lv_iload_n hx hb dX11_steal_53 rfl (lv_at hl 2 rfl) ?_
        refine lv_bipush (v := 6) hx hb dX11_steal_54 rfl ?_
        refine lv_imul hx hb dX11_steal_56 (lv_topi (fun v33 ev33 => ?_))
        refine lv_iload_n hx hb dX11_steal_57 rfl (lv_at hl 1 rfl) ?_
        refine lv_iadd hx hb dX11_steal_58 (lv_topi (fun v34 ev34 => ?_))
        refine lv_iload hx hb dX11_steal_59 (lv_at hl 4 rfl) ?_
        refine lv_bipush (v := 6) hx hb dX11_steal_61 rfl ?_
        refine lv_imul hx hb dX11_steal_63 (lv_topi (fun v35 ev35 => ?_))
        have ev35i : v35.toInt = (a4 * 6) := i_mul ev35 e4 (by decide) (by omega) (by omega)
        refine lv_iload_n hx hb dX11_steal_64 rfl (lv_at hl 3 rfl) ?_
        refine lv_iadd hx hb dX11_steal_65 (lv_topi (fun v36 ev36 => ?_))
        have ev36i : v36.toInt = ((a4 * 6) + a3) := i_add ev36 ev35i e3 (by omega) (by omega)
        refine lv_iload hx hb dX11_steal_66 (lv_at hl 5 rfl) ?_
        refine q_goI (q_runV (As := [.int v34, .int v36, .int p5]) (rest := []) E hC0 hS30 (m_X9_takes l X Γ H0 hC0 q32 gq32 v34 (a1 := v34.toInt) rfl v36 (a2 := ((a4 * 6) + a3)) ev36i p5 (a3 := a5) e5) cw_X9_takes cl_RX11_247 gq32 ⟨rfl, rfl⟩ rfl hl.1 rfl (Nat.zero_le _) (by decide) dX11_steal_68) hS30 (fun v37 H37 locs37 hr37 hC37 hS37 => ?_)
        obtain ⟨hp37, hr37⟩ := hr37
        have hKp37 := hKp0.tr (hp37.mono rfl)
        refine lv_istore hx hb dX11_steal_71 hl (by decide) rfl (fun ls hl => ?_)
        replace hl : lv_has ls 7 [(6, .int v37), (0, .ref h0), (1, .int p1), (2, .int p2), (3, .int p3), (4, .int p4), (5, .int p5)] := hl
        refine lv_iload hx hb dX11_steal_73 (lv_at hl 0 rfl) ?_
        refine q_if_ne hx hb (a := v37.toInt) rfl (tgt := 87) dX11_steal_75 rfl (fun c38 => ?_) (fun c38 => ?_)
        · refine lv_aload_n hx hb dX11_steal_87 rfl (lv_at hl 1 rfl) ?_
          refine lv_iload hx hb dX11_steal_88 (lv_at hl 0 rfl) ?_
          refine q_goI (q_runV (As := [.int v37]) (rest := []) E hC37 hS37 (m_X11_answer l X Γ H37 hC37 h0 g0 v37 (a1 := v37.toInt) rfl) cw_X11_answer cl_RX11_191 g0 ⟨rfl, rfl⟩ rfl hl.1 rfl (Nat.zero_le _) (by decide) dX11_steal_90) hS37 (fun v39 H39 locs39 hr39 hC39 hS39 => ?_)
          obtain ⟨hp39, hr39⟩ := hr39
          have hKp39 := hKp37.tr (hp39.mono rfl)
          have f39_0 := hr39
          exact ret v39 H39 locs39 _ _ dX11_steal_93 ⟨hKp39, trivial⟩ hC39 hS39
        · refine lv_aload_n hx hb dX11_steal_78 rfl (lv_at hl 1 rfl) ?_
          refine lv_bipush (v := 9) hx hb dX11_steal_79 rfl ?_
          refine q_goI (q_runV (As := [.int 9]) (rest := []) E hC37 hS37 (m_X11_refuse l X Γ H37 hC37 h0 g0 9 (a1 := 9) (by decide)) cw_X11_refuse cl_RX11_146 g0 ⟨rfl, rfl⟩ rfl hl.1 rfl (Nat.zero_le _) (by decide) dX11_steal_81) hS37 (fun v40 H40 locs40 hr40 hC40 hS40 => ?_)
          obtain ⟨hp40, hr40⟩ := hr40
          have hKp40 := hKp37.tr (hp40.mono rfl)
          have f40_0 := hr40
          refine lv_goto (tgt := 93) hx hb dX11_steal_84 rfl ?_
          exact ret v40 H40 locs40 _ _ dX11_steal_93 ⟨hKp40, trivial⟩ hC40 hS40
      · refine q_if_ne hx hb (a := 0) (by decide) (tgt := 49) dX11_steal_40 rfl (fun c41 => absurd c41 (by omega)) (fun c41 => ?_)
        refine lv_aload_n hx hb dX11_steal_43 rfl (lv_at hl 0 rfl) ?_
        refine lv_iconst (v := 5) hx hb dX11_steal_44 rfl ?_
        refine q_goI (q_runV (As := [.int 5]) (rest := []) E hC0 hS30 (m_X11_refuse l X Γ H0 hC0 h0 g0 5 (a1 := 5) (by decide)) cw_X11_refuse cl_RX11_146 g0 ⟨rfl, rfl⟩ rfl hl.1 rfl (Nat.zero_le _) (by decide) dX11_steal_45) hS30 (fun v42 H42 locs42 hr42 hC42 hS42 => ?_)
        obtain ⟨hp42, hr42⟩ := hr42
        have hKp42 := hKp0.tr (hp42.mono rfl)
        have f42_0 := hr42
        exact ret v42 H42 locs42 _ _ dX11_steal_48 ⟨hKp42, trivial⟩ hC42 hS42
    · refine q_if_ne hx hb (a := 0) (by decide) (tgt := 31) dX11_steal_22 rfl (fun c43 => absurd c43 (by omega)) (fun c43 => ?_)
      refine lv_aload_n hx hb dX11_steal_25 rfl (lv_at hl 0 rfl) ?_
      refine lv_iconst (v := 2) hx hb dX11_steal_26 rfl ?_
      refine q_goI (q_runV (As := [.int 2]) (rest := []) E hC0 hS27 (m_X11_refuse l X Γ H0 hC0 h0 g0 2 (a1 := 2) (by decide)) cw_X11_refuse cl_RX11_146 g0 ⟨rfl, rfl⟩ rfl hl.1 rfl (Nat.zero_le _) (by decide) dX11_steal_27) hS27 (fun v44 H44 locs44 hr44 hC44 hS44 => ?_)
      obtain ⟨hp44, hr44⟩ := hr44
      have hKp44 := hKp0.tr (hp44.mono rfl)
      have f44_0 := hr44
      exact ret v44 H44 locs44 _ _ dX11_steal_30 ⟨hKp44, trivial⟩ hC44 hS44
set_option maxRecDepth 100000 in
set_option maxHeartbeats 4000000 in
theorem m_X9_sleeps (l : Launch) (X : xW) (Γ : Nat → Option Nat) (H0 : Heap) (hC0 : Conf X Γ H0) (h0 : Nat) (g0 : Γ h0 = some 5) : Ctr l X Γ yX9_sleeps cX9_sleeps 1 (some .boolean) 1 [.ref h0] H0 (QI X Γ (fun v H1 => Kp X Γ [0, 2, 3, 4, 5, 18, 21, 23, 25, 27] H0 H1 ∧ (v = 0 ∨ v = 1))) := by
  refine q_enterZ (own := "SnowForts$Yard") (by decide) rfl (Nat.le_of_ble_eq_true rfl) ?_
  intro p e s m args below meth c ls Qz E hl ret hS0
  have hx := E.1; have hb := E.2.1
  have hKp0 : Kp X Γ [0, 2, 3, 4, 5, 18, 21, 23, 25, 27] H0 H0 := Kp.rf
  have hl : lv_has ls 1 [(0, .ref h0)] := hl
  refine lv_aload_n hx hb dX9_sleeps_0 rfl (lv_at hl 0 rfl) ?_
  refine q_getI E hC0 g0 fa_RX9_55 dX9_sleeps_1 (fun v21 ev21 _ _ => ?_)
  refine lv_sipush (v := 999) hx hb dX9_sleeps_4 rfl ?_
  refine q_icmp_lt hx hb (a := v21.toInt) (b := 999) rfl (by decide) (tgt := 12) dX9_sleeps_7 rfl (fun c22 => ?_) (fun c22 => ?_)
  · refine lv_aload_n hx hb dX9_sleeps_12 rfl (lv_at hl 0 rfl) ?_
    refine lv_dup hx hb dX9_sleeps_13 rfl ?_
    refine q_getI E hC0 g0 fa_RX9_55 dX9_sleeps_14 (fun v23 ev23 _ _ => ?_)
    have qv23 := ev21.symm.trans ev23; subst qv23
    refine lv_iconst (v := 1) hx hb dX9_sleeps_17 rfl ?_
    refine lv_iadd hx hb dX9_sleeps_18 (lv_topi (fun v24 ev24 => ?_))
    have c25 := i_rng v21; rw [show v21.toInt = v21.toInt from rfl] at c25
    have ev24i : v24.toInt = (v21.toInt + 1) := i_add ev24 rfl (by decide) (by omega) (by omega)
    refine q_put E hC0 hS0 g0 fp_RX9_55 tv_F rfl rfl dX9_sleeps_19 (fun H26 locs26 hC26 hS26 U26 => ?_)
    have hKp26 := Kp.upO E g0 fp_RX9_55 rfl U26 hKp0
    have e27 := up_I U26
    refine lv_aload_n hx hb dX9_sleeps_22 rfl (lv_at hl 0 rfl) ?_
    refine q_getR E hC26 g0 fa_RX9_22 dX9_sleeps_23 (fun q28 eq28 gq28 => ?_)
    refine lv_iconst (v := 0) hx hb dX9_sleeps_26 rfl ?_
    refine q_goV (q_runS (As := [.ref q28, .int 0]) (rest := []) E hS26 (m_fillI l X Γ H26 hC26 q28 gq28 (by decide) rfl rfl (fun _ => rfl) (by decide) 0) cw_J7_fill_53178 cl_RX9_67 rfl hl.1 rfl (Nat.zero_le _) (by decide) dX9_sleeps_27) hS26 (fun H29 locs29 U29 hC29 hS29 => ?_)
    obtain ⟨U29, F29⟩ := U29
    have hKp29 := Kp.upC gq28 rfl (by decide) rfl U29 hKp26
    refine lv_aload_n hx hb dX9_sleeps_30 rfl (lv_at hl 0 rfl) ?_
    refine q_getR E hC29 g0 fa_RX9_37 dX9_sleeps_31 (fun q30 eq30 gq30 => ?_)
    refine lv_iconst (v := 0) hx hb dX9_sleeps_34 rfl ?_
    refine lv_aload_n hx hb dX9_sleeps_35 rfl (lv_at hl 0 rfl) ?_
    refine q_getR E hC29 g0 fa_RX9_43 dX9_sleeps_36 (fun q31 eq31 gq31 => ?_)
    refine lv_iconst (v := 0) hx hb dX9_sleeps_39 rfl ?_
    refine lv_bipush (v := 36) hx hb dX9_sleeps_40 rfl ?_
    refine q_copyI E hl.1 w_971 arrw hC29 hS29 gq30 gq31 (by decide) rfl rfl rfl rfl (fun _ => rfl) (fun _ => rfl) (a := 0) (b := 0) (d := 36) (show (0 : Int32).toInt = 0 from by decide) (show (0 : Int32).toInt = 0 from by decide) (show (36 : Int32).toInt = 36 from by decide) (by omega) (by omega) (by omega) (by omega) (by omega) (by decide) (Nat.zero_le _) dX9_sleeps_42 (fun H32 locs32 hC32 hS32 U32 => ?_)
    obtain ⟨U32, C32⟩ := U32
    have hKp32 := Kp.upC gq31 rfl (by decide) rfl U32 hKp29
    refine lv_iconst (v := 1) hx hb dX9_sleeps_45 rfl ?_
    exact ret 1 H32 locs32 _ _ dX9_sleeps_46 (Or.inr rfl) ⟨hKp32, Or.inr rfl⟩ hC32 hS32
  · refine lv_iconst (v := 0) hx hb dX9_sleeps_10 rfl ?_
    exact ret 0 H0 [] _ _ dX9_sleeps_11 (Or.inl rfl) ⟨hKp0, Or.inl rfl⟩ hC0 hS0
set_option maxRecDepth 100000 in
set_option maxHeartbeats 4000000 in
theorem m_X11_night (l : Launch) (X : xW) (Γ : Nat → Option Nat) (H0 : Heap) (hC0 : Conf X Γ H0) (h0 : Nat) (g0 : Γ h0 = some 0) : Ctr l X Γ yX11_night cX11_night 1 (some .int) 2 [.ref h0] H0 (QI X Γ (fun v H1 => Kp X Γ [0, 2, 3, 4, 5, 18, 21, 23, 25, 27] H0 H1 ∧ (True))) := by
  refine q_enterI (own := "SnowForts") (by decide) rfl (Nat.le_of_ble_eq_true rfl) ?_
  intro p e s m args below meth c ls Qz E hl ret hS0
  have hx := E.1; have hb := E.2.1
  have hKp0 : Kp X Γ [0, 2, 3, 4, 5, 18, 21, 23, 25, 27] H0 H0 := Kp.rf
  have hl : lv_has ls 1 [(0, .ref h0)] := hl
  refine lv_aload_n hx hb dX11_night_0 rfl (lv_at hl 0 rfl) ?_
  refine q_getR E hC0 g0 fa_RX11_42 dX11_night_1 (fun q21 eq21 gq21 => ?_)
  refine q_goI (q_runV (As := []) (rest := []) E hC0 hS0 (m_X9_sleeps l X Γ H0 hC0 q21 gq21) cw_X9_sleeps cl_RX11_251 gq21 ⟨rfl, rfl⟩ rfl hl.1 rfl (Nat.zero_le _) (by decide) dX11_night_4) hS0 (fun v22 H22 locs22 hr22 hC22 hS22 => ?_)
  obtain ⟨hp22, hr22⟩ := hr22
  have hKp22 := hKp0.tr (hp22.mono rfl)
  rcases hr22 with rfl | rfl
  · refine q_if_eq hx hb (a := 0) (by decide) (tgt := 24) dX11_night_7 rfl (fun c23 => ?_) (fun c23 => absurd c23 (by omega))
    refine lv_aload_n hx hb dX11_night_24 rfl (lv_at hl 0 rfl) ?_
    refine lv_bipush (v := 7) hx hb dX11_night_25 rfl ?_
    refine q_goI (q_runV (As := [.int 7]) (rest := []) E hC22 hS22 (m_X11_refuse l X Γ H22 hC22 h0 g0 7 (a1 := 7) (by decide)) cw_X11_refuse cl_RX11_146 g0 ⟨rfl, rfl⟩ rfl hl.1 rfl (Nat.zero_le _) (by decide) dX11_night_27) hS22 (fun v24 H24 locs24 hr24 hC24 hS24 => ?_)
    obtain ⟨hp24, hr24⟩ := hr24
    have hKp24 := hKp22.tr (hp24.mono rfl)
    have f24_0 := hr24
    exact ret v24 H24 locs24 _ _ dX11_night_30 ⟨hKp24, trivial⟩ hC24 hS24
  · refine q_if_eq hx hb (a := 1) (by decide) (tgt := 24) dX11_night_7 rfl (fun c25 => absurd c25 (by omega)) (fun c25 => ?_)
    refine lv_aload_n hx hb dX11_night_10 rfl (lv_at hl 0 rfl) ?_
    refine lv_aload_n hx hb dX11_night_11 rfl (lv_at hl 0 rfl) ?_
    refine q_getR E hC22 g0 fa_RX11_42 dX11_night_12 (fun q26 eq26 gq26 => ?_)
    refine q_getI E hC22 gq26 fa_RX11_254 dX11_night_15 (fun v27 ev27 _ _ => ?_)
    refine q_goI (q_runV (As := [.int v27]) (rest := []) E hC22 hS22 (m_X11_answer l X Γ H22 hC22 h0 g0 v27 (a1 := v27.toInt) rfl) cw_X11_answer cl_RX11_191 g0 ⟨rfl, rfl⟩ rfl hl.1 rfl (Nat.zero_le _) (by decide) dX11_night_18) hS22 (fun v28 H28 locs28 hr28 hC28 hS28 => ?_)
    obtain ⟨hp28, hr28⟩ := hr28
    have hKp28 := hKp22.tr (hp28.mono rfl)
    have f28_0 := hr28
    refine lv_goto (tgt := 30) hx hb dX11_night_21 rfl ?_
    exact ret v28 H28 locs28 _ _ dX11_night_30 ⟨hKp28, trivial⟩ hC28 hS28
set_option maxRecDepth 100000 in
set_option maxHeartbeats 4000000 in
theorem m_X9_fitsIn (l : Launch) (X : xW) (Γ : Nat → Option Nat) (H0 : Heap) (hC0 : Conf X Γ H0) (h0 : Nat) (g0 : Γ h0 = some 5) (p1 : Int32) {a1 : Int} (e1 : p1.toInt = a1) (r0 : 0 ≤ a1) (r1 : a1 ≤ 35) : Ctr l X Γ yX9_fitsIn cX9_fitsIn 3 (some .int) 2 [.ref h0, .int p1] H0 (QI X Γ (fun v H1 => H1 = H0 ∧ (True))) := by
  refine q_enterI (own := "SnowForts$Yard") (by decide) rfl (Nat.le_of_ble_eq_true rfl) ?_
  intro p e s m args below meth c ls Qz E hl ret hS0
  have hx := E.1; have hb := E.2.1
  have hl : lv_has ls 3 [(0, .ref h0), (1, .int p1)] := hl
  refine lv_bipush (v := 99) hx hb dX9_fitsIn_0 rfl ?_
  refine lv_aload_n hx hb dX9_fitsIn_2 rfl (lv_at hl 0 rfl) ?_
  refine lv_iload_n hx hb dX9_fitsIn_3 rfl (lv_at hl 1 rfl) ?_
  refine q_goIp (q_runV (As := [.int p1]) (rest := [.int 99]) E hC0 hS0 (m_X9_wallLimit l X Γ H0 hC0 h0 g0 p1 (a1 := a1) e1) cw_X9_wallLimit cl_RX9_132 g0 ⟨rfl, rfl⟩ rfl hl.1 rfl (show _ ≤ _ from by simp [Value.category]) (by decide) dX9_fitsIn_4) hS0 (fun v21 locs21 hr21 hS21 => ?_)
  refine q_mmin E hl.1 w_908 mathw_min (a := 99) (b := v21.toInt) (show (99 : Int32).toInt = 99 from by decide) rfl (by decide) (Nat.zero_le _) dX9_fitsIn_7 (fun v22 mv22a mv22b mv22c => ?_)
  refine lv_istore_n hx hb dX9_fitsIn_10 rfl hl (by decide) rfl (fun ls hl => ?_)
  replace hl : lv_has ls 3 [(2, .int v22), (0, .ref h0), (1, .int p1)] := hl
  refine lv_iconst (v := 0) hx hb dX9_fitsIn_11 rfl ?_
  refine lv_aload_n hx hb dX9_fitsIn_12 rfl (lv_at hl 1 rfl) ?_
  refine q_getR E hC0 g0 fa_RX9_34 dX9_fitsIn_13 (fun q23 eq23 gq23 => ?_)
  refine lv_iload_n hx hb dX9_fitsIn_16 rfl (lv_at hl 2 rfl) ?_
  refine q_iald E hC0 gq23 rfl rfl (fun _ h => h) (i_in (a := a1) e1 (by omega) (by omega)) dX9_fitsIn_17 (fun v24 ev24 _ _ => ?_)
  refine lv_iload_n hx hb dX9_fitsIn_18 rfl (lv_at hl 0 rfl) ?_
  refine lv_aload_n hx hb dX9_fitsIn_19 rfl (lv_at hl 1 rfl) ?_
  refine q_getR E hC0 g0 fa_RX9_37 dX9_fitsIn_20 (fun q25 eq25 gq25 => ?_)
  refine lv_iload_n hx hb dX9_fitsIn_23 rfl (lv_at hl 2 rfl) ?_
  refine q_iald E hC0 gq25 rfl rfl (fun _ h => h) (i_in (a := a1) e1 (by omega) (by omega)) dX9_fitsIn_24 (fun v26 ev26 _ _ => ?_)
  refine lv_isub hx hb dX9_fitsIn_25 (lv_topi (fun v27 ev27 => ?_))
  refine q_mmin E hl.1 w_908 mathw_min (a := v24.toInt) (b := v27.toInt) rfl rfl (by decide) (show _ ≤ _ from by simp [Value.category]) dX9_fitsIn_26 (fun v28 mv28a mv28b mv28c => ?_)
  refine q_mmax E hl.1 w_893 mathw_max (a := 0) (b := v28.toInt) (show (0 : Int32).toInt = 0 from by decide) rfl (by decide) (Nat.zero_le _) dX9_fitsIn_29 (fun v29 mv29a mv29b mv29c => ?_)
  exact ret v29 H0 locs21 _ _ dX9_fitsIn_32 ⟨rfl, trivial⟩ hC0 hS21
set_option maxRecDepth 100000 in
set_option maxHeartbeats 4000000 in
theorem m_X9_roomAt (l : Launch) (X : xW) (Γ : Nat → Option Nat) (H0 : Heap) (hC0 : Conf X Γ H0) (h0 : Nat) (g0 : Γ h0 = some 5) (p1 : Int32) {a1 : Int} (e1 : p1.toInt = a1) : Ctr l X Γ yX9_roomAt cX9_roomAt 2 (some .int) 3 [.ref h0, .int p1] H0 (QI X Γ (fun v H1 => H1 = H0 ∧ (True))) := by
  refine q_enterI (own := "SnowForts$Yard") (by decide) rfl (Nat.le_of_ble_eq_true rfl) ?_
  intro p e s m args below meth c ls Qz E hl ret hS0
  have hx := E.1; have hb := E.2.1
  have hl : lv_has ls 2 [(0, .ref h0), (1, .int p1)] := hl
  refine lv_aload_n hx hb dX9_roomAt_0 rfl (lv_at hl 0 rfl) ?_
  refine lv_iload_n hx hb dX9_roomAt_1 rfl (lv_at hl 1 rfl) ?_
  refine q_goIp (q_runV (As := [.int p1]) (rest := []) E hC0 hS0 (m_X9_holds l X Γ H0 hC0 h0 g0 p1 (a1 := a1) e1) cw_X9_holds cl_RX9_99 g0 ⟨rfl, rfl⟩ rfl hl.1 rfl (Nat.zero_le _) (by decide) dX9_roomAt_2) hS0 (fun v21 locs21 hr21 hS21 => ?_)
  rcases hr21 with ⟨rfl, f21a0, f21a1⟩ | ⟨rfl, -⟩
  · refine q_if_eq hx hb (a := 1) (by decide) (tgt := 28) dX9_roomAt_5 rfl (fun c22 => absurd c22 (by omega)) (fun c22 => ?_)
    refine lv_aload_n hx hb dX9_roomAt_8 rfl (lv_at hl 0 rfl) ?_
    refine lv_iload_n hx hb dX9_roomAt_9 rfl (lv_at hl 1 rfl) ?_
    refine q_goIp (q_runV (As := [.int p1]) (rest := []) E hC0 hS21 (m_X9_fitsIn l X Γ H0 hC0 h0 g0 p1 (a1 := a1) e1 (by omega) (by omega)) cw_X9_fitsIn cl_RX9_149 g0 ⟨rfl, rfl⟩ rfl hl.1 rfl (Nat.zero_le _) (by decide) dX9_roomAt_10) hS21 (fun v23 locs23 hr23 hS23 => ?_)
    refine lv_aload_n hx hb dX9_roomAt_13 rfl (lv_at hl 0 rfl) ?_
    refine lv_aload_n hx hb dX9_roomAt_14 rfl (lv_at hl 0 rfl) ?_
    refine lv_iload_n hx hb dX9_roomAt_15 rfl (lv_at hl 1 rfl) ?_
    refine q_goIp (q_runV (As := [.int p1]) (rest := [.ref h0, .int v23]) E hC0 hS23 (m_X9_halfOf l X Γ H0 hC0 h0 g0 p1 (a1 := a1) e1) cw_X9_halfOf cl_RX9_102 g0 ⟨rfl, rfl⟩ rfl hl.1 rfl (show _ ≤ _ from by simp [Value.category]) (by decide) dX9_roomAt_16) hS23 (fun v24 locs24 hr24 hS24 => ?_)
    obtain ⟨f24_0, f24_1⟩ := hr24
    refine q_goIp (q_runV (As := [.int v24]) (rest := [.int v23]) E hC0 hS24 (m_X9_lawfulHands l X Γ H0 hC0 h0 g0 v24 (a1 := v24.toInt) rfl (by omega) (by omega)) cw_X9_lawfulHands cl_RX9_142 g0 ⟨rfl, rfl⟩ rfl hl.1 rfl (show _ ≤ _ from by simp [Value.category]) (by decide) dX9_roomAt_19) hS24 (fun v25 locs25 hr25 hS25 => ?_)
    refine q_mmin E hl.1 w_908 mathw_min (a := v23.toInt) (b := v25.toInt) rfl rfl (by decide) (Nat.zero_le _) dX9_roomAt_22 (fun v26 mv26a mv26b mv26c => ?_)
    refine lv_goto (tgt := 29) hx hb dX9_roomAt_25 rfl ?_
    exact ret v26 H0 locs25 _ _ dX9_roomAt_29 ⟨rfl, trivial⟩ hC0 hS25
  · refine q_if_eq hx hb (a := 0) (by decide) (tgt := 28) dX9_roomAt_5 rfl (fun c27 => ?_) (fun c27 => absurd c27 (by omega))
    refine lv_iconst (v := 0) hx hb dX9_roomAt_28 rfl ?_
    exact ret 0 H0 locs21 _ _ dX9_roomAt_29 ⟨rfl, trivial⟩ hC0 hS21
set_option maxRecDepth 100000 in
set_option maxHeartbeats 4000000 in
theorem m_X11_room (l : Launch) (X : xW) (Γ : Nat → Option Nat) (H0 : Heap) (hC0 : Conf X Γ H0) (h0 : Nat) (g0 : Γ h0 = some 0) (p1 : Int32) {a1 : Int} (e1 : p1.toInt = a1) (p2 : Int32) {a2 : Int} (e2 : p2.toInt = a2) : Ctr l X Γ yX11_room cX11_room 3 (some .int) 4 [.ref h0, .int p1, .int p2] H0 (QI X Γ (fun v H1 => Kp X Γ [0, 2, 3, 4, 5, 18, 21, 23, 25, 27] H0 H1 ∧ (True))) := by
  refine q_enterI (own := "SnowForts") (by decide) rfl (Nat.le_of_ble_eq_true rfl) ?_
  intro p e s m args below meth c ls Qz E hl ret hS0
  have hx := E.1; have hb := E.2.1
  have hKp0 : Kp X Γ [0, 2, 3, 4, 5, 18, 21, 23, 25, 27] H0 H0 := Kp.rf
  have hl : lv_has ls 3 [(0, .ref h0), (1, .int p1), (2, .int p2)] := hl
  refine lv_aload_n hx hb dX11_room_0 rfl (lv_at hl 0 rfl) ?_
  refine q_getR E hC0 g0 fa_RX11_42 dX11_room_1 (fun q21 eq21 gq21 => ?_)
  refine lv_iload_n hx hb dX11_room_4 rfl (lv_at hl 1 rfl) ?_
  refine lv_iload_n hx hb dX11_room_5 rfl (lv_at hl 2 rfl) ?_
  refine q_goIp (q_runV (As := [.int p1, .int p2]) (rest := []) E hC0 hS0 (m_X9_isOwned l X Γ H0 hC0 q21 gq21 p1 (a1 := a1) e1 p2 (a2 := a2) e2) cw_X9_isOwned cl_RX11_238 gq21 ⟨rfl, rfl⟩ rfl hl.1 rfl (Nat.zero_le _) (by decide) dX11_room_6) hS0 (fun v22 locs22 hr22 hS22 => ?_)
  rcases hr22 with rfl | rfl
  · refine q_if_eq hx hb (a := 0) (by decide) (tgt := 32) dX11_room_9 rfl (fun c23 => ?_) (fun c23 => absurd c23 (by omega))
    refine lv_aload_n hx hb dX11_room_32 rfl (lv_at hl 0 rfl) ?_
    refine lv_iconst (v := 2) hx hb dX11_room_33 rfl ?_
    refine q_goI (q_runV (As := [.int 2]) (rest := []) E hC0 hS22 (m_X11_refuse l X Γ H0 hC0 h0 g0 2 (a1 := 2) (by decide)) cw_X11_refuse cl_RX11_146 g0 ⟨rfl, rfl⟩ rfl hl.1 rfl (Nat.zero_le _) (by decide) dX11_room_34) hS22 (fun v24 H24 locs24 hr24 hC24 hS24 => ?_)
    obtain ⟨hp24, hr24⟩ := hr24
    have hKp24 := hKp0.tr (hp24.mono rfl)
    have f24_0 := hr24
    exact ret v24 H24 locs24 _ _ dX11_room_37 ⟨hKp24, trivial⟩ hC24 hS24
  · refine q_if_eq hx hb (a := 1) (by decide) (tgt := 32) dX11_room_9 rfl (fun c25 => absurd c25 (by omega)) (fun c25 => ?_)
    refine lv_aload_n hx hb dX11_room_12 rfl (lv_at hl 0 rfl) ?_
    refine lv_aload_n hx hb dX11_room_13 rfl (lv_at hl 0 rfl) ?_
    refine q_getR E hC0 g0 fa_RX11_42 dX11_room_14 (fun q26 eq26 gq26 => ?_)
    refine lv_iload_n hx hb dX11_room_17 rfl (lv_at hl 2 rfl) ?_
    refine lv_bipush (v := 6) hx hb dX11_room_18 rfl ?_
    refine lv_imul hx hb dX11_room_20 (lv_topi (fun v27 ev27 => ?_))
    refine lv_iload_n hx hb dX11_room_21 rfl (lv_at hl 1 rfl) ?_
    refine lv_iadd hx hb dX11_room_22 (lv_topi (fun v28 ev28 => ?_))
    refine q_goIp (q_runV (As := [.int v28]) (rest := [.ref h0]) E hC0 hS22 (m_X9_roomAt l X Γ H0 hC0 q26 gq26 v28 (a1 := v28.toInt) rfl) cw_X9_roomAt cl_RX11_257 gq26 ⟨rfl, rfl⟩ rfl hl.1 rfl (show _ ≤ _ from by simp [Value.category]) (by decide) dX11_room_23) hS22 (fun v29 locs29 hr29 hS29 => ?_)
    refine q_goI (q_runV (As := [.int v29]) (rest := []) E hC0 hS29 (m_X11_answer l X Γ H0 hC0 h0 g0 v29 (a1 := v29.toInt) rfl) cw_X11_answer cl_RX11_191 g0 ⟨rfl, rfl⟩ rfl hl.1 rfl (Nat.zero_le _) (by decide) dX11_room_26) hS29 (fun v30 H30 locs30 hr30 hC30 hS30 => ?_)
    obtain ⟨hp30, hr30⟩ := hr30
    have hKp30 := hKp0.tr (hp30.mono rfl)
    have f30_0 := hr30
    refine lv_goto (tgt := 37) hx hb dX11_room_29 rfl ?_
    exact ret v30 H30 locs30 _ _ dX11_room_37 ⟨hKp30, trivial⟩ hC30 hS30
set_option maxRecDepth 100000 in
set_option maxHeartbeats 4000000 in
theorem m_X9_mostOf (l : Launch) (X : xW) (Γ : Nat → Option Nat) (H0 : Heap) (hC0 : Conf X Γ H0) (h0 : Nat) (g0 : Γ h0 = some 5) (p1 : Int32) {a1 : Int} (e1 : p1.toInt = a1) : Ctr l X Γ yX9_mostOf cX9_mostOf 4 (some .int) 3 [.ref h0, .int p1] H0 (QI X Γ (fun v H1 => H1 = H0 ∧ (True))) := by
  refine q_enterI (own := "SnowForts$Yard") (by decide) rfl (Nat.le_of_ble_eq_true rfl) ?_
  intro p e s m args below meth c ls Qz E hl ret hS0
  have hx := E.1; have hb := E.2.1
  have hl : lv_has ls 4 [(0, .ref h0), (1, .int p1)] := hl
  refine lv_aload_n hx hb dX9_mostOf_0 rfl (lv_at hl 0 rfl) ?_
  refine lv_iload_n hx hb dX9_mostOf_1 rfl (lv_at hl 1 rfl) ?_
  refine q_goIp (q_runV (As := [.int p1]) (rest := []) E hC0 hS0 (m_X9_isSchool l X Γ H0 hC0 h0 g0 p1 (a1 := a1) e1) cw_X9_isSchool cl_RX9_87 g0 ⟨rfl, rfl⟩ rfl hl.1 rfl (Nat.zero_le _) (by decide) dX9_mostOf_2) hS0 (fun v21 locs21 hr21 hS21 => ?_)
  rcases hr21 with ⟨rfl, f21a0, f21a1⟩ | ⟨rfl, -⟩
  · refine q_if_ne hx hb (a := 1) (by decide) (tgt := 10) dX9_mostOf_5 rfl (fun c22 => ?_) (fun c22 => absurd c22 (by omega))
    refine lv_iconst (v := 0) hx hb dX9_mostOf_10 rfl ?_
    refine lv_istore_n hx hb dX9_mostOf_11 rfl hl (by decide) rfl (fun ls hl => ?_)
    replace hl : lv_has ls 4 [(2, .int 0), (0, .ref h0), (1, .int p1)] := hl
    refine lv_iconst (v := 0) hx hb dX9_mostOf_12 rfl ?_
    refine lv_istore_n hx hb dX9_mostOf_13 rfl hl (by decide) rfl (fun ls hl => ?_)
    replace hl : lv_has ls 4 [(3, .int 0), (2, .int 0), (0, .ref h0), (1, .int p1)] := hl
    have L14 : ∀ (n25 : Nat) (locs25 : List Loc) (v23 : Int32) (z23 : Int) (v24 : Int32) (z24 : Int) (ls : Array Slot), (36 - z23).toNat < n25 → v23.toInt = z23 → v24.toInt = z24 → z23 ≤ 36 → 0 ≤ z23 → va_S (AΓ Γ) H0 H0 locs25 → lv_has ls 4 [(3, .int v23), (2, .int v24), (0, .ref h0), (1, .int p1)] → W p l e (rmL 3) s m args below meth c H0 locs25 0 0 Qz (F0 m 14 ls []) := by
      intro n25
      induction n25 with
      | zero => intro locs25 v23 z23 v24 z24 ls hm25 ev23 ev24 iv25_0 iv25_1 hS25 hl; exact absurd hm25 (Nat.not_lt_zero _)
      | succ n25 ih25 =>
        intro locs25 v23 z23 v24 z24 ls hm25 ev23 ev24 iv25_0 iv25_1 hS25 hl
        refine lv_iload_n hx hb dX9_mostOf_14 rfl (lv_at hl 0 rfl) ?_
        refine lv_bipush (v := 36) hx hb dX9_mostOf_15 rfl ?_
        refine q_icmp_ge hx hb (a := z23) (b := 36) ev23 (by decide) (tgt := 43) dX9_mostOf_17 rfl (fun c26 => ?_) (fun c26 => ?_)
        · refine lv_iload_n hx hb dX9_mostOf_43 rfl (lv_at hl 1 rfl) ?_
          refine lv_aload_n hx hb dX9_mostOf_44 rfl (lv_at hl 2 rfl) ?_
          refine lv_iload_n hx hb dX9_mostOf_45 rfl (lv_at hl 3 rfl) ?_
          refine q_goIp (q_runV (As := [.int p1]) (rest := [.int v24]) E hC0 hS25 (m_X9_handsLeft l X Γ H0 hC0 h0 g0 p1 (a1 := a1) e1 (by omega) (by omega)) cw_X9_handsLeft cl_RX9_129 g0 ⟨rfl, rfl⟩ rfl hl.1 rfl (show _ ≤ _ from by simp [Value.category]) (by decide) dX9_mostOf_46) hS25 (fun v27 locs27 hr27 hS27 => ?_)
          refine lv_aload_n hx hb dX9_mostOf_49 rfl (lv_at hl 2 rfl) ?_
          refine lv_iload_n hx hb dX9_mostOf_50 rfl (lv_at hl 3 rfl) ?_
          refine q_goIp (q_runV (As := [.int p1]) (rest := [.int v27, .int v24]) E hC0 hS27 (m_X9_lawfulHands l X Γ H0 hC0 h0 g0 p1 (a1 := a1) e1 (by omega) (by omega)) cw_X9_lawfulHands cl_RX9_142 g0 ⟨rfl, rfl⟩ rfl hl.1 rfl (show _ ≤ _ from by simp [Value.category]) (by decide) dX9_mostOf_51) hS27 (fun v28 locs28 hr28 hS28 => ?_)
          refine q_mmin E hl.1 w_908 mathw_min (a := v27.toInt) (b := v28.toInt) rfl rfl (by decide) (show _ ≤ _ from by simp [Value.category]) dX9_mostOf_54 (fun v29 mv29a mv29b mv29c => ?_)
          refine q_mmin E hl.1 w_908 mathw_min (a := z24) (b := v29.toInt) ev24 rfl (by decide) (Nat.zero_le _) dX9_mostOf_57 (fun v30 mv30a mv30b mv30c => ?_)
          exact ret v30 H0 locs28 _ _ dX9_mostOf_60 ⟨rfl, trivial⟩ hC0 hS28
        · refine lv_aload_n hx hb dX9_mostOf_20 rfl (lv_at hl 2 rfl) ?_
          refine lv_iload_n hx hb dX9_mostOf_21 rfl (lv_at hl 3 rfl) ?_
          refine lv_iload_n hx hb dX9_mostOf_22 rfl (lv_at hl 0 rfl) ?_
          refine q_goIp (q_runV (As := [.int p1, .int v23]) (rest := []) E hC0 hS25 (m_X9_isIn l X Γ H0 hC0 h0 g0 p1 (a1 := a1) e1 v23 (a2 := z23) ev23) cw_X9_isIn cl_RX9_111 g0 ⟨rfl, rfl⟩ rfl hl.1 rfl (Nat.zero_le _) (by decide) dX9_mostOf_23) hS25 (fun v31 locs31 hr31 hS31 => ?_)
          rcases hr31 with rfl | rfl
          · refine q_if_eq hx hb (a := 0) (by decide) (tgt := 37) dX9_mostOf_26 rfl (fun c32 => ?_) (fun c32 => absurd c32 (by omega))
            obtain ⟨v33, ev33⟩ : ∃ z, z = v23 + Int32.ofInt 1 := ⟨_, rfl⟩
            have ev33i : v33.toInt = (z23 + 1) := i_add ev33 ev23 (by decide) (by omega) (by omega)
            refine lv_iinc hx hb dX9_mostOf_37 hl (k := 0) rfl ev33.symm (by decide) rfl (fun ls hl => ?_)
            replace hl : lv_has ls 4 [(3, .int v33), (2, .int v24), (0, .ref h0), (1, .int p1)] := hl
            refine lv_goto (tgt := 14) hx hb dX9_mostOf_40 rfl ?_
            exact ih25 locs31 v33 ((z23 + 1)) v24 (z24) ls (by omega) ev33i ev24 (by omega) (by omega) hS31 hl
          · refine q_if_eq hx hb (a := 1) (by decide) (tgt := 37) dX9_mostOf_26 rfl (fun c34 => absurd c34 (by omega)) (fun c34 => ?_)
            refine lv_iload_n hx hb dX9_mostOf_29 rfl (lv_at hl 1 rfl) ?_
            refine lv_aload_n hx hb dX9_mostOf_30 rfl (lv_at hl 2 rfl) ?_
            refine lv_iload_n hx hb dX9_mostOf_31 rfl (lv_at hl 0 rfl) ?_
            refine q_goIp (q_runV (As := [.int v23]) (rest := [.int v24]) E hC0 hS31 (m_X9_fitsIn l X Γ H0 hC0 h0 g0 v23 (a1 := z23) ev23 (by omega) (by omega)) cw_X9_fitsIn cl_RX9_149 g0 ⟨rfl, rfl⟩ rfl hl.1 rfl (show _ ≤ _ from by simp [Value.category]) (by decide) dX9_mostOf_32) hS31 (fun v35 locs35 hr35 hS35 => ?_)
            refine lv_iadd hx hb dX9_mostOf_35 (lv_topi (fun v36 ev36 => ?_))
            refine lv_istore_n hx hb dX9_mostOf_36 rfl hl (by decide) rfl (fun ls hl => ?_)
            replace hl : lv_has ls 4 [(2, .int v36), (3, .int v23), (0, .ref h0), (1, .int p1)] := hl
            obtain ⟨v37, ev37⟩ : ∃ z, z = v23 + Int32.ofInt 1 := ⟨_, rfl⟩
            have ev37i : v37.toInt = (z23 + 1) := i_add ev37 ev23 (by decide) (by omega) (by omega)
            refine lv_iinc hx hb dX9_mostOf_37 hl (k := 1) rfl ev37.symm (by decide) rfl (fun ls hl => ?_)
            replace hl : lv_has ls 4 [(3, .int v37), (2, .int v36), (0, .ref h0), (1, .int p1)] := hl
            refine lv_goto (tgt := 14) hx hb dX9_mostOf_40 rfl ?_
            exact ih25 locs35 v37 ((z23 + 1)) v36 (v36.toInt) ls (by omega) ev37i rfl (by omega) (by omega) hS35 hl
    exact L14 _ locs21 0 0 0 0 ls (Nat.lt_succ_self _) (by decide) (by decide) (by omega) (by omega) hS21 hl
  · refine q_if_ne hx hb (a := 0) (by decide) (tgt := 10) dX9_mostOf_5 rfl (fun c38 => absurd c38 (by omega)) (fun c38 => ?_)
    refine lv_iconst (v := 0) hx hb dX9_mostOf_8 rfl ?_
    exact ret 0 H0 locs21 _ _ dX9_mostOf_9 ⟨rfl, trivial⟩ hC0 hS21
set_option maxRecDepth 100000 in
set_option maxHeartbeats 4000000 in
theorem m_X11_most (l : Launch) (X : xW) (Γ : Nat → Option Nat) (H0 : Heap) (hC0 : Conf X Γ H0) (h0 : Nat) (g0 : Γ h0 = some 0) (p1 : Int32) {a1 : Int} (e1 : p1.toInt = a1) : Ctr l X Γ yX11_most cX11_most 2 (some .int) 4 [.ref h0, .int p1] H0 (QI X Γ (fun v H1 => Kp X Γ [0, 2, 3, 4, 5, 18, 21, 23, 25, 27] H0 H1 ∧ (True))) := by
  refine q_enterI (own := "SnowForts") (by decide) rfl (Nat.le_of_ble_eq_true rfl) ?_
  intro p e s m args below meth c ls Qz E hl ret hS0
  have hx := E.1; have hb := E.2.1
  have hKp0 : Kp X Γ [0, 2, 3, 4, 5, 18, 21, 23, 25, 27] H0 H0 := Kp.rf
  have hl : lv_has ls 2 [(0, .ref h0), (1, .int p1)] := hl
  refine lv_aload_n hx hb dX11_most_0 rfl (lv_at hl 0 rfl) ?_
  refine q_getR E hC0 g0 fa_RX11_42 dX11_most_1 (fun q21 eq21 gq21 => ?_)
  refine lv_iload_n hx hb dX11_most_4 rfl (lv_at hl 1 rfl) ?_
  refine q_goIp (q_runV (As := [.int p1]) (rest := []) E hC0 hS0 (m_X9_isSchool l X Γ H0 hC0 q21 gq21 p1 (a1 := a1) e1) cw_X9_isSchool cl_RX11_215 gq21 ⟨rfl, rfl⟩ rfl hl.1 rfl (Nat.zero_le _) (by decide) dX11_most_5) hS0 (fun v22 locs22 hr22 hS22 => ?_)
  rcases hr22 with ⟨rfl, f22a0, f22a1⟩ | ⟨rfl, -⟩
  · refine q_if_eq hx hb (a := 1) (by decide) (tgt := 26) dX11_most_8 rfl (fun c23 => absurd c23 (by omega)) (fun c23 => ?_)
    refine lv_aload_n hx hb dX11_most_11 rfl (lv_at hl 0 rfl) ?_
    refine lv_aload_n hx hb dX11_most_12 rfl (lv_at hl 0 rfl) ?_
    refine q_getR E hC0 g0 fa_RX11_42 dX11_most_13 (fun q24 eq24 gq24 => ?_)
    refine lv_iload_n hx hb dX11_most_16 rfl (lv_at hl 1 rfl) ?_
    refine q_goIp (q_runV (As := [.int p1]) (rest := [.ref h0]) E hC0 hS22 (m_X9_mostOf l X Γ H0 hC0 q24 gq24 p1 (a1 := a1) e1) cw_X9_mostOf cl_RX11_260 gq24 ⟨rfl, rfl⟩ rfl hl.1 rfl (show _ ≤ _ from by simp [Value.category]) (by decide) dX11_most_17) hS22 (fun v25 locs25 hr25 hS25 => ?_)
    refine q_goI (q_runV (As := [.int v25]) (rest := []) E hC0 hS25 (m_X11_answer l X Γ H0 hC0 h0 g0 v25 (a1 := v25.toInt) rfl) cw_X11_answer cl_RX11_191 g0 ⟨rfl, rfl⟩ rfl hl.1 rfl (Nat.zero_le _) (by decide) dX11_most_20) hS25 (fun v26 H26 locs26 hr26 hC26 hS26 => ?_)
    obtain ⟨hp26, hr26⟩ := hr26
    have hKp26 := hKp0.tr (hp26.mono rfl)
    have f26_0 := hr26
    refine lv_goto (tgt := 31) hx hb dX11_most_23 rfl ?_
    exact ret v26 H26 locs26 _ _ dX11_most_31 ⟨hKp26, trivial⟩ hC26 hS26
  · refine q_if_eq hx hb (a := 0) (by decide) (tgt := 26) dX11_most_8 rfl (fun c27 => ?_) (fun c27 => absurd c27 (by omega))
    refine lv_aload_n hx hb dX11_most_26 rfl (lv_at hl 0 rfl) ?_
    refine lv_iconst (v := 2) hx hb dX11_most_27 rfl ?_
    refine q_goI (q_runV (As := [.int 2]) (rest := []) E hC0 hS22 (m_X11_refuse l X Γ H0 hC0 h0 g0 2 (a1 := 2) (by decide)) cw_X11_refuse cl_RX11_146 g0 ⟨rfl, rfl⟩ rfl hl.1 rfl (Nat.zero_le _) (by decide) dX11_most_28) hS22 (fun v28 H28 locs28 hr28 hC28 hS28 => ?_)
    obtain ⟨hp28, hr28⟩ := hr28
    have hKp28 := hKp0.tr (hp28.mono rfl)
    have f28_0 := hr28
    exact ret v28 H28 locs28 _ _ dX11_most_31 ⟨hKp28, trivial⟩ hC28 hS28
set_option maxRecDepth 100000 in
set_option maxHeartbeats 4000000 in
theorem m_X11_isHalf (l : Launch) (X : xW) (Γ : Nat → Option Nat) (H0 : Heap) (hC0 : Conf X Γ H0) (p0 : Int32) {a0 : Int} (e0 : p0.toInt = a0) : Ctr l X Γ yX11_isHalf cX11_isHalf 1 (some .boolean) 0 [.int p0] H0 (QI X Γ (fun v H1 => H1 = H0 ∧ ((v = 1 ∧ (0 ≤ a0 ∧ a0 ≤ 1)) ∨ (v = 0 ∧ (True))))) := by
  refine q_enterZ (own := "SnowForts") (by decide) rfl (Nat.le_of_ble_eq_true rfl) ?_
  intro p e s m args below meth c ls Qz E hl ret hS0
  have hx := E.1; have hb := E.2.1
  have hl : lv_has ls 1 [(0, .int p0)] := hl
  refine lv_iload_n hx hb dX11_isHalf_0 rfl (lv_at hl 0 rfl) ?_
  refine q_if_eq hx hb (a := a0) e0 (tgt := 9) dX11_isHalf_1 rfl (fun c21 => ?_) (fun c21 => ?_)
  · refine lv_iconst (v := 1) hx hb dX11_isHalf_9 rfl ?_
    refine lv_goto (tgt := 14) hx hb dX11_isHalf_10 rfl ?_
    exact ret 1 H0 [] _ _ dX11_isHalf_14 (Or.inr rfl) ⟨rfl, Or.inl ⟨rfl, by omega, by omega⟩⟩ hC0 hS0
  · refine lv_iload_n hx hb dX11_isHalf_4 rfl (lv_at hl 0 rfl) ?_
    refine lv_iconst (v := 1) hx hb dX11_isHalf_5 rfl ?_
    refine q_icmp_ne hx hb (a := a0) (b := 1) e0 (by decide) (tgt := 13) dX11_isHalf_6 rfl (fun c22 => ?_) (fun c22 => ?_)
    · refine lv_iconst (v := 0) hx hb dX11_isHalf_13 rfl ?_
      exact ret 0 H0 [] _ _ dX11_isHalf_14 (Or.inl rfl) ⟨rfl, Or.inr ⟨rfl, trivial⟩⟩ hC0 hS0
    · refine lv_iconst (v := 1) hx hb dX11_isHalf_9 rfl ?_
      refine lv_goto (tgt := 14) hx hb dX11_isHalf_10 rfl ?_
      exact ret 1 H0 [] _ _ dX11_isHalf_14 (Or.inr rfl) ⟨rfl, Or.inl ⟨rfl, by omega, by omega⟩⟩ hC0 hS0
set_option maxRecDepth 100000 in
set_option maxHeartbeats 4000000 in
theorem m_X9_topOf (l : Launch) (X : xW) (Γ : Nat → Option Nat) (H0 : Heap) (hC0 : Conf X Γ H0) (h0 : Nat) (g0 : Γ h0 = some 5) (p1 : Int32) {a1 : Int} (e1 : p1.toInt = a1) : Ctr l X Γ yX9_topOf cX9_topOf 2 (some .int) 0 [.ref h0, .int p1] H0 (QI X Γ (fun v H1 => H1 = H0 ∧ (True))) := by
  refine q_enterI (own := "SnowForts$Yard") (by decide) rfl (Nat.le_of_ble_eq_true rfl) ?_
  intro p e s m args below meth c ls Qz E hl ret hS0
  have hx := E.1; have hb := E.2.1
  have hl : lv_has ls 2 [(0, .ref h0), (1, .int p1)] := hl
  refine lv_iload_n hx hb dX9_topOf_0 rfl (lv_at hl 1 rfl) ?_
  refine q_if_lt hx hb (a := a1) e1 (tgt := 26) dX9_topOf_1 rfl (fun c21 => ?_) (fun c21 => ?_)
  · refine lv_iconst (v := 0) hx hb dX9_topOf_26 rfl ?_
    exact ret 0 H0 [] _ _ dX9_topOf_27 ⟨rfl, trivial⟩ hC0 hS0
  · refine lv_iload_n hx hb dX9_topOf_4 rfl (lv_at hl 1 rfl) ?_
    refine lv_bipush (v := 36) hx hb dX9_topOf_5 rfl ?_
    refine q_icmp_ge hx hb (a := a1) (b := 36) e1 (by decide) (tgt := 26) dX9_topOf_7 rfl (fun c22 => ?_) (fun c22 => ?_)
    · refine lv_iconst (v := 0) hx hb dX9_topOf_26 rfl ?_
      exact ret 0 H0 [] _ _ dX9_topOf_27 ⟨rfl, trivial⟩ hC0 hS0
    · refine lv_aload_n hx hb dX9_topOf_10 rfl (lv_at hl 0 rfl) ?_
      refine q_getR E hC0 g0 fa_RX9_34 dX9_topOf_11 (fun q23 eq23 gq23 => ?_)
      refine lv_iload_n hx hb dX9_topOf_14 rfl (lv_at hl 1 rfl) ?_
      refine q_iald E hC0 gq23 rfl rfl (fun _ h => h) (i_in (a := a1) e1 (by omega) (by omega)) dX9_topOf_15 (fun v24 ev24 _ _ => ?_)
      refine lv_aload_n hx hb dX9_topOf_16 rfl (lv_at hl 0 rfl) ?_
      refine q_getR E hC0 g0 fa_RX9_37 dX9_topOf_17 (fun q25 eq25 gq25 => ?_)
      refine lv_iload_n hx hb dX9_topOf_20 rfl (lv_at hl 1 rfl) ?_
      refine q_iald E hC0 gq25 rfl rfl (fun _ h => h) (i_in (a := a1) e1 (by omega) (by omega)) dX9_topOf_21 (fun v26 ev26 _ _ => ?_)
      refine lv_iadd hx hb dX9_topOf_22 (lv_topi (fun v27 ev27 => ?_))
      refine lv_goto (tgt := 27) hx hb dX9_topOf_23 rfl ?_
      exact ret v27 H0 [] _ _ dX9_topOf_27 ⟨rfl, trivial⟩ hC0 hS0
set_option maxRecDepth 100000 in
set_option maxHeartbeats 4000000 in
theorem m_X9_lowestTop (l : Launch) (X : xW) (Γ : Nat → Option Nat) (H0 : Heap) (hC0 : Conf X Γ H0) (h0 : Nat) (g0 : Γ h0 = some 5) (p1 : Int32) {a1 : Int} (e1 : p1.toInt = a1) : Ctr l X Γ yX9_lowestTop cX9_lowestTop 4 (some .int) 1 [.ref h0, .int p1] H0 (QI X Γ (fun v H1 => H1 = H0 ∧ (True))) := by
  refine q_enterI (own := "SnowForts$Yard") (by decide) rfl (Nat.le_of_ble_eq_true rfl) ?_
  intro p e s m args below meth c ls Qz E hl ret hS0
  have hx := E.1; have hb := E.2.1
  have hl : lv_has ls 4 [(0, .ref h0), (1, .int p1)] := hl
  refine lv_ldc (v := 1000000) hx hb E.2.2.2.1 (E.2.2.2.2.1 _ w_930) dX9_lowestTop_0 ?_
  refine lv_istore_n hx hb dX9_lowestTop_2 rfl hl (by decide) rfl (fun ls hl => ?_)
  replace hl : lv_has ls 4 [(2, .int 1000000), (0, .ref h0), (1, .int p1)] := hl
  refine lv_iconst (v := 0) hx hb dX9_lowestTop_3 rfl ?_
  refine lv_istore_n hx hb dX9_lowestTop_4 rfl hl (by decide) rfl (fun ls hl => ?_)
  replace hl : lv_has ls 4 [(3, .int 0), (2, .int 1000000), (0, .ref h0), (1, .int p1)] := hl
  have L5 : ∀ (n23 : Nat) (locs23 : List Loc) (v21 : Int32) (z21 : Int) (v22 : Int32) (z22 : Int) (ls : Array Slot), (36 - z21).toNat < n23 → v21.toInt = z21 → v22.toInt = z22 → z21 ≤ 36 → 0 ≤ z21 → va_S (AΓ Γ) H0 H0 locs23 → lv_has ls 4 [(3, .int v21), (2, .int v22), (0, .ref h0), (1, .int p1)] → W p l e (rmL 1) s m args below meth c H0 locs23 0 0 Qz (F0 m 5 ls []) := by
    intro n23
    induction n23 with
    | zero => intro locs23 v21 z21 v22 z22 ls hm23 ev21 ev22 iv23_0 iv23_1 hS23 hl; exact absurd hm23 (Nat.not_lt_zero _)
    | succ n23 ih23 =>
      intro locs23 v21 z21 v22 z22 ls hm23 ev21 ev22 iv23_0 iv23_1 hS23 hl
      refine lv_iload_n hx hb dX9_lowestTop_5 rfl (lv_at hl 0 rfl) ?_
      refine lv_bipush (v := 36) hx hb dX9_lowestTop_6 rfl ?_
      refine q_icmp_ge hx hb (a := z21) (b := 36) ev21 (by decide) (tgt := 36) dX9_lowestTop_8 rfl (fun c24 => ?_) (fun c24 => ?_)
      · refine lv_iload_n hx hb dX9_lowestTop_36 rfl (lv_at hl 1 rfl) ?_
        exact ret v22 H0 locs23 _ _ dX9_lowestTop_37 ⟨rfl, trivial⟩ hC0 hS23
      · refine lv_aload_n hx hb dX9_lowestTop_11 rfl (lv_at hl 2 rfl) ?_
        refine lv_iload_n hx hb dX9_lowestTop_12 rfl (lv_at hl 3 rfl) ?_
        refine lv_iload_n hx hb dX9_lowestTop_13 rfl (lv_at hl 0 rfl) ?_
        refine q_goIp (q_runV (As := [.int p1, .int v21]) (rest := []) E hC0 hS23 (m_X9_isIn l X Γ H0 hC0 h0 g0 p1 (a1 := a1) e1 v21 (a2 := z21) ev21) cw_X9_isIn cl_RX9_111 g0 ⟨rfl, rfl⟩ rfl hl.1 rfl (Nat.zero_le _) (by decide) dX9_lowestTop_14) hS23 (fun v25 locs25 hr25 hS25 => ?_)
        rcases hr25 with rfl | rfl
        · refine q_if_eq hx hb (a := 0) (by decide) (tgt := 30) dX9_lowestTop_17 rfl (fun c26 => ?_) (fun c26 => absurd c26 (by omega))
          obtain ⟨v27, ev27⟩ : ∃ z, z = v21 + Int32.ofInt 1 := ⟨_, rfl⟩
          have ev27i : v27.toInt = (z21 + 1) := i_add ev27 ev21 (by decide) (by omega) (by omega)
          refine lv_iinc hx hb dX9_lowestTop_30 hl (k := 0) rfl ev27.symm (by decide) rfl (fun ls hl => ?_)
          replace hl : lv_has ls 4 [(3, .int v27), (2, .int v22), (0, .ref h0), (1, .int p1)] := hl
          refine lv_goto (tgt := 5) hx hb dX9_lowestTop_33 rfl ?_
          exact ih23 locs25 v27 ((z21 + 1)) v22 (z22) ls (by omega) ev27i ev22 (by omega) (by omega) hS25 hl
        · refine q_if_eq hx hb (a := 1) (by decide) (tgt := 30) dX9_lowestTop_17 rfl (fun c28 => absurd c28 (by omega)) (fun c28 => ?_)
          refine lv_iload_n hx hb dX9_lowestTop_20 rfl (lv_at hl 1 rfl) ?_
          refine lv_aload_n hx hb dX9_lowestTop_21 rfl (lv_at hl 2 rfl) ?_
          refine lv_iload_n hx hb dX9_lowestTop_22 rfl (lv_at hl 0 rfl) ?_
          refine q_goIp (q_runV (As := [.int v21]) (rest := [.int v22]) E hC0 hS25 (m_X9_topOf l X Γ H0 hC0 h0 g0 v21 (a1 := z21) ev21) cw_X9_topOf cl_RX9_152 g0 ⟨rfl, rfl⟩ rfl hl.1 rfl (show _ ≤ _ from by simp [Value.category]) (by decide) dX9_lowestTop_23) hS25 (fun v29 locs29 hr29 hS29 => ?_)
          refine q_mmin E hl.1 w_908 mathw_min (a := z22) (b := v29.toInt) ev22 rfl (by decide) (Nat.zero_le _) dX9_lowestTop_26 (fun v30 mv30a mv30b mv30c => ?_)
          refine lv_istore_n hx hb dX9_lowestTop_29 rfl hl (by decide) rfl (fun ls hl => ?_)
          replace hl : lv_has ls 4 [(2, .int v30), (3, .int v21), (0, .ref h0), (1, .int p1)] := hl
          obtain ⟨v31, ev31⟩ : ∃ z, z = v21 + Int32.ofInt 1 := ⟨_, rfl⟩
          have ev31i : v31.toInt = (z21 + 1) := i_add ev31 ev21 (by decide) (by omega) (by omega)
          refine lv_iinc hx hb dX9_lowestTop_30 hl (k := 1) rfl ev31.symm (by decide) rfl (fun ls hl => ?_)
          replace hl : lv_has ls 4 [(3, .int v31), (2, .int v30), (0, .ref h0), (1, .int p1)] := hl
          refine lv_goto (tgt := 5) hx hb dX9_lowestTop_33 rfl ?_
          exact ih23 locs29 v31 ((z21 + 1)) v30 (v30.toInt) ls (by omega) ev31i rfl (by omega) (by omega) hS29 hl
  exact L5 _ [] 0 0 1000000 1000000 ls (Nat.lt_succ_self _) (by decide) (by decide) (by omega) (by omega) hS0 hl
set_option maxRecDepth 100000 in
set_option maxHeartbeats 4000000 in
theorem m_X11_lowest (l : Launch) (X : xW) (Γ : Nat → Option Nat) (H0 : Heap) (hC0 : Conf X Γ H0) (h0 : Nat) (g0 : Γ h0 = some 0) (p1 : Int32) {a1 : Int} (e1 : p1.toInt = a1) : Ctr l X Γ yX11_lowest cX11_lowest 2 (some .int) 2 [.ref h0, .int p1] H0 (QI X Γ (fun v H1 => Kp X Γ [0, 2, 3, 4, 5, 18, 21, 23, 25, 27] H0 H1 ∧ (True))) := by
  refine q_enterI (own := "SnowForts") (by decide) rfl (Nat.le_of_ble_eq_true rfl) ?_
  intro p e s m args below meth c ls Qz E hl ret hS0
  have hx := E.1; have hb := E.2.1
  have hKp0 : Kp X Γ [0, 2, 3, 4, 5, 18, 21, 23, 25, 27] H0 H0 := Kp.rf
  have hl : lv_has ls 2 [(0, .ref h0), (1, .int p1)] := hl
  refine lv_iload_n hx hb dX11_lowest_0 rfl (lv_at hl 1 rfl) ?_
  refine q_goIp (q_runS (As := [.int p1]) (rest := []) E hS0 (m_X11_isHalf l X Γ H0 hC0 p1 (a0 := a1) e1) cw_X11_isHalf cl_RX11_263 rfl hl.1 rfl (Nat.zero_le _) (by decide) dX11_lowest_1) hS0 (fun v21 locs21 hr21 hS21 => ?_)
  rcases hr21 with ⟨rfl, f21a0, f21a1⟩ | ⟨rfl, -⟩
  · refine q_if_eq hx hb (a := 1) (by decide) (tgt := 22) dX11_lowest_4 rfl (fun c22 => absurd c22 (by omega)) (fun c22 => ?_)
    refine lv_aload_n hx hb dX11_lowest_7 rfl (lv_at hl 0 rfl) ?_
    refine lv_aload_n hx hb dX11_lowest_8 rfl (lv_at hl 0 rfl) ?_
    refine q_getR E hC0 g0 fa_RX11_42 dX11_lowest_9 (fun q23 eq23 gq23 => ?_)
    refine lv_iload_n hx hb dX11_lowest_12 rfl (lv_at hl 1 rfl) ?_
    refine q_goIp (q_runV (As := [.int p1]) (rest := [.ref h0]) E hC0 hS21 (m_X9_lowestTop l X Γ H0 hC0 q23 gq23 p1 (a1 := a1) e1) cw_X9_lowestTop cl_RX11_266 gq23 ⟨rfl, rfl⟩ rfl hl.1 rfl (show _ ≤ _ from by simp [Value.category]) (by decide) dX11_lowest_13) hS21 (fun v24 locs24 hr24 hS24 => ?_)
    refine q_goI (q_runV (As := [.int v24]) (rest := []) E hC0 hS24 (m_X11_answer l X Γ H0 hC0 h0 g0 v24 (a1 := v24.toInt) rfl) cw_X11_answer cl_RX11_191 g0 ⟨rfl, rfl⟩ rfl hl.1 rfl (Nat.zero_le _) (by decide) dX11_lowest_16) hS24 (fun v25 H25 locs25 hr25 hC25 hS25 => ?_)
    obtain ⟨hp25, hr25⟩ := hr25
    have hKp25 := hKp0.tr (hp25.mono rfl)
    have f25_0 := hr25
    refine lv_goto (tgt := 27) hx hb dX11_lowest_19 rfl ?_
    exact ret v25 H25 locs25 _ _ dX11_lowest_27 ⟨hKp25, trivial⟩ hC25 hS25
  · refine q_if_eq hx hb (a := 0) (by decide) (tgt := 22) dX11_lowest_4 rfl (fun c26 => ?_) (fun c26 => absurd c26 (by omega))
    refine lv_aload_n hx hb dX11_lowest_22 rfl (lv_at hl 0 rfl) ?_
    refine lv_iconst (v := 5) hx hb dX11_lowest_23 rfl ?_
    refine q_goI (q_runV (As := [.int 5]) (rest := []) E hC0 hS21 (m_X11_refuse l X Γ H0 hC0 h0 g0 5 (a1 := 5) (by decide)) cw_X11_refuse cl_RX11_146 g0 ⟨rfl, rfl⟩ rfl hl.1 rfl (Nat.zero_le _) (by decide) dX11_lowest_24) hS21 (fun v27 H27 locs27 hr27 hC27 hS27 => ?_)
    obtain ⟨hp27, hr27⟩ := hr27
    have hKp27 := hKp0.tr (hp27.mono rfl)
    have f27_0 := hr27
    exact ret v27 H27 locs27 _ _ dX11_lowest_27 ⟨hKp27, trivial⟩ hC27 hS27
set_option maxRecDepth 100000 in
set_option maxHeartbeats 4000000 in
theorem m_X9_highestTop (l : Launch) (X : xW) (Γ : Nat → Option Nat) (H0 : Heap) (hC0 : Conf X Γ H0) (h0 : Nat) (g0 : Γ h0 = some 5) (p1 : Int32) {a1 : Int} (e1 : p1.toInt = a1) : Ctr l X Γ yX9_highestTop cX9_highestTop 4 (some .int) 1 [.ref h0, .int p1] H0 (QI X Γ (fun v H1 => H1 = H0 ∧ (True))) := by
  refine q_enterI (own := "SnowForts$Yard") (by decide) rfl (Nat.le_of_ble_eq_true rfl) ?_
  intro p e s m args below meth c ls Qz E hl ret hS0
  have hx := E.1; have hb := E.2.1
  have hl : lv_has ls 4 [(0, .ref h0), (1, .int p1)] := hl
  refine lv_iconst (v := 0) hx hb dX9_highestTop_0 rfl ?_
  refine lv_istore_n hx hb dX9_highestTop_1 rfl hl (by decide) rfl (fun ls hl => ?_)
  replace hl : lv_has ls 4 [(2, .int 0), (0, .ref h0), (1, .int p1)] := hl
  refine lv_iconst (v := 0) hx hb dX9_highestTop_2 rfl ?_
  refine lv_istore_n hx hb dX9_highestTop_3 rfl hl (by decide) rfl (fun ls hl => ?_)
  replace hl : lv_has ls 4 [(3, .int 0), (2, .int 0), (0, .ref h0), (1, .int p1)] := hl
  have L4 : ∀ (n23 : Nat) (locs23 : List Loc) (v21 : Int32) (z21 : Int) (v22 : Int32) (z22 : Int) (ls : Array Slot), (36 - z21).toNat < n23 → v21.toInt = z21 → v22.toInt = z22 → z21 ≤ 36 → 0 ≤ z21 → va_S (AΓ Γ) H0 H0 locs23 → lv_has ls 4 [(3, .int v21), (2, .int v22), (0, .ref h0), (1, .int p1)] → W p l e (rmL 1) s m args below meth c H0 locs23 0 0 Qz (F0 m 4 ls []) := by
    intro n23
    induction n23 with
    | zero => intro locs23 v21 z21 v22 z22 ls hm23 ev21 ev22 iv23_0 iv23_1 hS23 hl; exact absurd hm23 (Nat.not_lt_zero _)
    | succ n23 ih23 =>
      intro locs23 v21 z21 v22 z22 ls hm23 ev21 ev22 iv23_0 iv23_1 hS23 hl
      refine lv_iload_n hx hb dX9_highestTop_4 rfl (lv_at hl 0 rfl) ?_
      refine lv_bipush (v := 36) hx hb dX9_highestTop_5 rfl ?_
      refine q_icmp_ge hx hb (a := z21) (b := 36) ev21 (by decide) (tgt := 35) dX9_highestTop_7 rfl (fun c24 => ?_) (fun c24 => ?_)
      · refine lv_iload_n hx hb dX9_highestTop_35 rfl (lv_at hl 1 rfl) ?_
        exact ret v22 H0 locs23 _ _ dX9_highestTop_36 ⟨rfl, trivial⟩ hC0 hS23
      · refine lv_aload_n hx hb dX9_highestTop_10 rfl (lv_at hl 2 rfl) ?_
        refine lv_iload_n hx hb dX9_highestTop_11 rfl (lv_at hl 3 rfl) ?_
        refine lv_iload_n hx hb dX9_highestTop_12 rfl (lv_at hl 0 rfl) ?_
        refine q_goIp (q_runV (As := [.int p1, .int v21]) (rest := []) E hC0 hS23 (m_X9_isIn l X Γ H0 hC0 h0 g0 p1 (a1 := a1) e1 v21 (a2 := z21) ev21) cw_X9_isIn cl_RX9_111 g0 ⟨rfl, rfl⟩ rfl hl.1 rfl (Nat.zero_le _) (by decide) dX9_highestTop_13) hS23 (fun v25 locs25 hr25 hS25 => ?_)
        rcases hr25 with rfl | rfl
        · refine q_if_eq hx hb (a := 0) (by decide) (tgt := 29) dX9_highestTop_16 rfl (fun c26 => ?_) (fun c26 => absurd c26 (by omega))
          obtain ⟨v27, ev27⟩ : ∃ z, z = v21 + Int32.ofInt 1 := ⟨_, rfl⟩
          have ev27i : v27.toInt = (z21 + 1) := i_add ev27 ev21 (by decide) (by omega) (by omega)
          refine lv_iinc hx hb dX9_highestTop_29 hl (k := 0) rfl ev27.symm (by decide) rfl (fun ls hl => ?_)
          replace hl : lv_has ls 4 [(3, .int v27), (2, .int v22), (0, .ref h0), (1, .int p1)] := hl
          refine lv_goto (tgt := 4) hx hb dX9_highestTop_32 rfl ?_
          exact ih23 locs25 v27 ((z21 + 1)) v22 (z22) ls (by omega) ev27i ev22 (by omega) (by omega) hS25 hl
        · refine q_if_eq hx hb (a := 1) (by decide) (tgt := 29) dX9_highestTop_16 rfl (fun c28 => absurd c28 (by omega)) (fun c28 => ?_)
          refine lv_iload_n hx hb dX9_highestTop_19 rfl (lv_at hl 1 rfl) ?_
          refine lv_aload_n hx hb dX9_highestTop_20 rfl (lv_at hl 2 rfl) ?_
          refine lv_iload_n hx hb dX9_highestTop_21 rfl (lv_at hl 0 rfl) ?_
          refine q_goIp (q_runV (As := [.int v21]) (rest := [.int v22]) E hC0 hS25 (m_X9_topOf l X Γ H0 hC0 h0 g0 v21 (a1 := z21) ev21) cw_X9_topOf cl_RX9_152 g0 ⟨rfl, rfl⟩ rfl hl.1 rfl (show _ ≤ _ from by simp [Value.category]) (by decide) dX9_highestTop_22) hS25 (fun v29 locs29 hr29 hS29 => ?_)
          refine q_mmax E hl.1 w_893 mathw_max (a := z22) (b := v29.toInt) ev22 rfl (by decide) (Nat.zero_le _) dX9_highestTop_25 (fun v30 mv30a mv30b mv30c => ?_)
          refine lv_istore_n hx hb dX9_highestTop_28 rfl hl (by decide) rfl (fun ls hl => ?_)
          replace hl : lv_has ls 4 [(2, .int v30), (3, .int v21), (0, .ref h0), (1, .int p1)] := hl
          obtain ⟨v31, ev31⟩ : ∃ z, z = v21 + Int32.ofInt 1 := ⟨_, rfl⟩
          have ev31i : v31.toInt = (z21 + 1) := i_add ev31 ev21 (by decide) (by omega) (by omega)
          refine lv_iinc hx hb dX9_highestTop_29 hl (k := 1) rfl ev31.symm (by decide) rfl (fun ls hl => ?_)
          replace hl : lv_has ls 4 [(3, .int v31), (2, .int v30), (0, .ref h0), (1, .int p1)] := hl
          refine lv_goto (tgt := 4) hx hb dX9_highestTop_32 rfl ?_
          exact ih23 locs29 v31 ((z21 + 1)) v30 (v30.toInt) ls (by omega) ev31i rfl (by omega) (by omega) hS29 hl
  exact L4 _ [] 0 0 0 0 ls (Nat.lt_succ_self _) (by decide) (by decide) (by omega) (by omega) hS0 hl
set_option maxRecDepth 100000 in
set_option maxHeartbeats 4000000 in
theorem m_X11_highest (l : Launch) (X : xW) (Γ : Nat → Option Nat) (H0 : Heap) (hC0 : Conf X Γ H0) (h0 : Nat) (g0 : Γ h0 = some 0) (p1 : Int32) {a1 : Int} (e1 : p1.toInt = a1) : Ctr l X Γ yX11_highest cX11_highest 2 (some .int) 2 [.ref h0, .int p1] H0 (QI X Γ (fun v H1 => Kp X Γ [0, 2, 3, 4, 5, 18, 21, 23, 25, 27] H0 H1 ∧ (True))) := by
  refine q_enterI (own := "SnowForts") (by decide) rfl (Nat.le_of_ble_eq_true rfl) ?_
  intro p e s m args below meth c ls Qz E hl ret hS0
  have hx := E.1; have hb := E.2.1
  have hKp0 : Kp X Γ [0, 2, 3, 4, 5, 18, 21, 23, 25, 27] H0 H0 := Kp.rf
  have hl : lv_has ls 2 [(0, .ref h0), (1, .int p1)] := hl
  refine lv_iload_n hx hb dX11_highest_0 rfl (lv_at hl 1 rfl) ?_
  refine q_goIp (q_runS (As := [.int p1]) (rest := []) E hS0 (m_X11_isHalf l X Γ H0 hC0 p1 (a0 := a1) e1) cw_X11_isHalf cl_RX11_263 rfl hl.1 rfl (Nat.zero_le _) (by decide) dX11_highest_1) hS0 (fun v21 locs21 hr21 hS21 => ?_)
  rcases hr21 with ⟨rfl, f21a0, f21a1⟩ | ⟨rfl, -⟩
  · refine q_if_eq hx hb (a := 1) (by decide) (tgt := 22) dX11_highest_4 rfl (fun c22 => absurd c22 (by omega)) (fun c22 => ?_)
    refine lv_aload_n hx hb dX11_highest_7 rfl (lv_at hl 0 rfl) ?_
    refine lv_aload_n hx hb dX11_highest_8 rfl (lv_at hl 0 rfl) ?_
    refine q_getR E hC0 g0 fa_RX11_42 dX11_highest_9 (fun q23 eq23 gq23 => ?_)
    refine lv_iload_n hx hb dX11_highest_12 rfl (lv_at hl 1 rfl) ?_
    refine q_goIp (q_runV (As := [.int p1]) (rest := [.ref h0]) E hC0 hS21 (m_X9_highestTop l X Γ H0 hC0 q23 gq23 p1 (a1 := a1) e1) cw_X9_highestTop cl_RX11_269 gq23 ⟨rfl, rfl⟩ rfl hl.1 rfl (show _ ≤ _ from by simp [Value.category]) (by decide) dX11_highest_13) hS21 (fun v24 locs24 hr24 hS24 => ?_)
    refine q_goI (q_runV (As := [.int v24]) (rest := []) E hC0 hS24 (m_X11_answer l X Γ H0 hC0 h0 g0 v24 (a1 := v24.toInt) rfl) cw_X11_answer cl_RX11_191 g0 ⟨rfl, rfl⟩ rfl hl.1 rfl (Nat.zero_le _) (by decide) dX11_highest_16) hS24 (fun v25 H25 locs25 hr25 hC25 hS25 => ?_)
    obtain ⟨hp25, hr25⟩ := hr25
    have hKp25 := hKp0.tr (hp25.mono rfl)
    have f25_0 := hr25
    refine lv_goto (tgt := 27) hx hb dX11_highest_19 rfl ?_
    exact ret v25 H25 locs25 _ _ dX11_highest_27 ⟨hKp25, trivial⟩ hC25 hS25
  · refine q_if_eq hx hb (a := 0) (by decide) (tgt := 22) dX11_highest_4 rfl (fun c26 => ?_) (fun c26 => absurd c26 (by omega))
    refine lv_aload_n hx hb dX11_highest_22 rfl (lv_at hl 0 rfl) ?_
    refine lv_iconst (v := 5) hx hb dX11_highest_23 rfl ?_
    refine q_goI (q_runV (As := [.int 5]) (rest := []) E hC0 hS21 (m_X11_refuse l X Γ H0 hC0 h0 g0 5 (a1 := 5) (by decide)) cw_X11_refuse cl_RX11_146 g0 ⟨rfl, rfl⟩ rfl hl.1 rfl (Nat.zero_le _) (by decide) dX11_highest_24) hS21 (fun v27 H27 locs27 hr27 hC27 hS27 => ?_)
    obtain ⟨hp27, hr27⟩ := hr27
    have hKp27 := hKp0.tr (hp27.mono rfl)
    have f27_0 := hr27
    exact ret v27 H27 locs27 _ _ dX11_highest_27 ⟨hKp27, trivial⟩ hC27 hS27
