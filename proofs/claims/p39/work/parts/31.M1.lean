set_option maxRecDepth 100000 in
set_option maxHeartbeats 4000000 in
theorem m_X12_isDigit (l : Launch) (X : xW) (Γ : Nat → Option Nat) (H0 : Heap) (hC0 : Conf X Γ H0) (p0 : Int32) {a0 : Int} (e0 : p0.toInt = a0) : Ctr l X Γ yX12_isDigit cX12_isDigit 1 (some .boolean) 0 [.int p0] H0 (QI X Γ (fun v H1 => H1 = H0 ∧ ((v = 1 ∧ (48 ≤ a0)) ∨ (v = 0 ∧ (True))))) := by
  refine q_enterZ (own := "SnowFortsModel") (by decide) rfl (Nat.le_of_ble_eq_true rfl) ?_
  intro p e s m args below meth c ls Qz E hl ret hS0
  have hx := E.1; have hb := E.2.1
  have hl : lv_has ls 1 [(0, .int p0)] := hl
  refine lv_iload_n hx hb dX12_isDigit_0 rfl (lv_at hl 0 rfl) ?_
  refine lv_bipush (v := 48) hx hb dX12_isDigit_1 rfl ?_
  refine q_icmp_lt hx hb (a := a0) (b := 48) e0 (by decide) (tgt := 16) dX12_isDigit_3 rfl (fun c21 => ?_) (fun c21 => ?_)
  · refine lv_iconst (v := 0) hx hb dX12_isDigit_16 rfl ?_
    exact ret 0 H0 [] _ _ dX12_isDigit_17 (Or.inl rfl) ⟨rfl, Or.inr ⟨rfl, trivial⟩⟩ hC0 hS0
  · refine lv_iload_n hx hb dX12_isDigit_6 rfl (lv_at hl 0 rfl) ?_
    refine lv_bipush (v := 57) hx hb dX12_isDigit_7 rfl ?_
    refine q_icmp_gt hx hb (a := a0) (b := 57) e0 (by decide) (tgt := 16) dX12_isDigit_9 rfl (fun c22 => ?_) (fun c22 => ?_)
    · refine lv_iconst (v := 0) hx hb dX12_isDigit_16 rfl ?_
      exact ret 0 H0 [] _ _ dX12_isDigit_17 (Or.inl rfl) ⟨rfl, Or.inr ⟨rfl, trivial⟩⟩ hC0 hS0
    · refine lv_iconst (v := 1) hx hb dX12_isDigit_12 rfl ?_
      refine lv_goto (tgt := 17) hx hb dX12_isDigit_13 rfl ?_
      exact ret 1 H0 [] _ _ dX12_isDigit_17 (Or.inr rfl) ⟨rfl, Or.inl ⟨rfl, by omega⟩⟩ hC0 hS0
set_option maxRecDepth 100000 in
set_option maxHeartbeats 4000000 in
theorem m_X12_isSignByte (l : Launch) (X : xW) (Γ : Nat → Option Nat) (H0 : Heap) (hC0 : Conf X Γ H0) (h0 : Nat) (g0 : Γ h0 = some 11) (p1 : Int32) {a1 : Int} (e1 : p1.toInt = a1) (ca : Nat) (gca : Γ ca = some 64) (uc : ∀ a, Γ a = some 64 → a = ca) : Ctr l X Γ yX12_isSignByte cX12_isSignByte 2 (some .boolean) 0 [.ref h0, .int p1] H0 (QI X Γ (fun v H1 => H1 = H0 ∧ (v = 0 ∨ v = 1))) := by
  refine q_enterZ (own := "SnowFortsModel") (by decide) rfl (Nat.le_of_ble_eq_true rfl) ?_
  intro p e s m args below meth c ls Qz E hl ret hS0
  have hx := E.1; have hb := E.2.1
  have hl : lv_has ls 2 [(0, .ref h0), (1, .int p1)] := hl
  refine lv_iload_n hx hb dX12_isSignByte_0 rfl (lv_at hl 1 rfl) ?_
  refine lv_bipush (v := 59) hx hb dX12_isSignByte_1 rfl ?_
  refine q_icmp_eq hx hb (a := a1) (b := 59) e1 (by decide) (tgt := 24) dX12_isSignByte_3 rfl (fun c21 => ?_) (fun c21 => ?_)
  · refine lv_iconst (v := 1) hx hb dX12_isSignByte_24 rfl ?_
    refine lv_goto (tgt := 29) hx hb dX12_isSignByte_25 rfl ?_
    exact ret 1 H0 [] _ _ dX12_isSignByte_29 (Or.inr rfl) ⟨rfl, Or.inr rfl⟩ hC0 hS0
  · refine lv_iload_n hx hb dX12_isSignByte_6 rfl (lv_at hl 1 rfl) ?_
    refine lv_bipush (v := 60) hx hb dX12_isSignByte_7 rfl ?_
    refine q_icmp_eq hx hb (a := a1) (b := 60) e1 (by decide) (tgt := 24) dX12_isSignByte_9 rfl (fun c22 => ?_) (fun c22 => ?_)
    · refine lv_iconst (v := 1) hx hb dX12_isSignByte_24 rfl ?_
      refine lv_goto (tgt := 29) hx hb dX12_isSignByte_25 rfl ?_
      exact ret 1 H0 [] _ _ dX12_isSignByte_29 (Or.inr rfl) ⟨rfl, Or.inr rfl⟩ hC0 hS0
    · refine lv_iload_n hx hb dX12_isSignByte_12 rfl (lv_at hl 1 rfl) ?_
      refine lv_bipush (v := 62) hx hb dX12_isSignByte_13 rfl ?_
      refine q_icmp_eq hx hb (a := a1) (b := 62) e1 (by decide) (tgt := 24) dX12_isSignByte_15 rfl (fun c23 => ?_) (fun c23 => ?_)
      · refine lv_iconst (v := 1) hx hb dX12_isSignByte_24 rfl ?_
        refine lv_goto (tgt := 29) hx hb dX12_isSignByte_25 rfl ?_
        exact ret 1 H0 [] _ _ dX12_isSignByte_29 (Or.inr rfl) ⟨rfl, Or.inr rfl⟩ hC0 hS0
      · refine lv_iload_n hx hb dX12_isSignByte_18 rfl (lv_at hl 1 rfl) ?_
        refine lv_bipush (v := 61) hx hb dX12_isSignByte_19 rfl ?_
        refine q_icmp_ne hx hb (a := a1) (b := 61) e1 (by decide) (tgt := 28) dX12_isSignByte_21 rfl (fun c24 => ?_) (fun c24 => ?_)
        · refine lv_iconst (v := 0) hx hb dX12_isSignByte_28 rfl ?_
          exact ret 0 H0 [] _ _ dX12_isSignByte_29 (Or.inl rfl) ⟨rfl, Or.inl rfl⟩ hC0 hS0
        · refine lv_iconst (v := 1) hx hb dX12_isSignByte_24 rfl ?_
          refine lv_goto (tgt := 29) hx hb dX12_isSignByte_25 rfl ?_
          exact ret 1 H0 [] _ _ dX12_isSignByte_29 (Or.inr rfl) ⟨rfl, Or.inr rfl⟩ hC0 hS0
set_option maxRecDepth 100000 in
set_option maxHeartbeats 4000000 in
theorem m_X12_next (l : Launch) (X : xW) (Γ : Nat → Option Nat) (H0 : Heap) (hC0 : Conf X Γ H0) (h0 : Nat) (g0 : Γ h0 = some 11) (ca : Nat) (gca : Γ ca = some 64) (uc : ∀ a, Γ a = some 64 → a = ca) : Ctr l X Γ yX12_next cX12_next 2 none 1 [.ref h0] H0 (QV X Γ (fun H1 => Kp X Γ [1, 6, 7, 8, 9, 10, 11, 12, 14, 15, 16, 17, 19, 22, 24, 26, 28] H0 H1 ∧ (((sI H0 h0 (X.1.2 11 16)).toInt ≤ (sI H1 h0 (X.1.2 11 16)).toInt) ∧ ((sI H0 h0 (X.1.2 11 16)).toInt < (sI H1 h0 (X.1.2 11 16)).toInt + tk (sI H1 h0 (X.1.2 11 14)).toInt) ∧ ((sI H1 h0 (X.1.2 11 12)).toInt = (sI H0 h0 (X.1.2 11 12)).toInt)))) := by
  refine q_enterV (own := "SnowFortsModel") (by decide) rfl (Nat.le_of_ble_eq_true rfl) ?_
  intro p e s m args below meth c ls Qz E hl ret hS0
  have hx := E.1; have hb := E.2.1
  have hKp0 : Kp X Γ [1, 6, 7, 8, 9, 10, 11, 12, 14, 15, 16, 17, 19, 22, 24, 26, 28] H0 H0 := Kp.rf
  have hl : lv_has ls 2 [(0, .ref h0)] := hl
  refine lv_aload_n hx hb dX12_next_0 rfl (lv_at hl 0 rfl) ?_
  refine lv_aload_n hx hb dX12_next_1 rfl (lv_at hl 0 rfl) ?_
  refine q_getI E hC0 g0 fa_RX12_111 dX12_next_2 (fun v21 ev21 lv21 uv21 => ?_)
  have m22 : (sI H0 h0 (X.1.2 11 16)).toInt = v21.toInt := (congrArg Int32.toInt ev21).trans rfl
  refine q_put E hC0 hS0 g0 fp_RX12_114 (tv_I rfl (by omega) (by omega)) rfl rfl dX12_next_5 (fun H23 locs23 hC23 hS23 U23 => ?_)
  have hKp23 := Kp.upO E g0 fp_RX12_114 rfl U23 hKp0
  have e24 := up_I U23
  have m25 : (sI H23 h0 (X.1.2 11 15)).toInt = v21.toInt := (congrArg Int32.toInt e24).trans rfl
  have m26 : (sI H23 h0 (X.1.2 11 12)).toInt = (sI H0 h0 (X.1.2 11 12)).toInt := congrArg Int32.toInt (up_nI U23 (ne_f E 11 12 15 rfl (by decide) (by decide) (by decide)))
  have m27 : (sI H23 h0 (X.1.2 11 14)).toInt = (sI H0 h0 (X.1.2 11 14)).toInt := congrArg Int32.toInt (up_nI U23 (ne_f E 11 14 15 rfl (by decide) (by decide) (by decide)))
  have m28 := congrArg tk m27
  have m29 : (sI H23 h0 (X.1.2 11 16)).toInt = (sI H0 h0 (X.1.2 11 16)).toInt := congrArg Int32.toInt (up_nI U23 (ne_f E 11 16 15 rfl (by decide) (by decide) (by decide)))
  have L8 : ∀ (n30 : Nat) (H30 : Heap) (locs30 : List Loc) (ls : Array Slot), ((sI H30 h0 (X.1.2 11 9)).toInt - (sI H30 h0 (X.1.2 11 15)).toInt).toNat < n30 → (sI H0 h0 (X.1.2 11 16)).toInt ≤ (sI H30 h0 (X.1.2 11 15)).toInt → (sI H30 h0 (X.1.2 11 16)).toInt = (sI H0 h0 (X.1.2 11 16)).toInt → (sI H30 h0 (X.1.2 11 12)).toInt = (sI H0 h0 (X.1.2 11 12)).toInt → Conf X Γ H30 → va_S (AΓ Γ) H0 H30 locs30 → Kp X Γ [1, 6, 7, 8, 9, 10, 11, 12, 14, 15, 16, 17, 19, 22, 24, 26, 28] H0 H30 → lv_has ls 2 [(0, .ref h0)] → W p l e (rmL 1) s m args below meth c H30 locs30 0 0 Qz (F0 m 8 ls []) := by
    intro n30
    induction n30 with
    | zero => intro H30 locs30 ls hm30 iv30_0 iv30_1 iv30_2 hC30 hS30 hKp30 hl; exact absurd hm30 (Nat.not_lt_zero _)
    | succ n30 ih30 =>
      intro H30 locs30 ls hm30 iv30_0 iv30_1 iv30_2 hC30 hS30 hKp30 hl
      refine lv_aload_n hx hb dX12_next_8 rfl (lv_at hl 0 rfl) ?_
      refine q_getI E hC30 g0 fa_RX12_114 dX12_next_9 (fun v31 ev31 lv31 uv31 => ?_)
      have m32 : (sI H30 h0 (X.1.2 11 15)).toInt = v31.toInt := (congrArg Int32.toInt ev31).trans rfl
      refine lv_aload_n hx hb dX12_next_12 rfl (lv_at hl 0 rfl) ?_
      refine q_getI E hC30 g0 fa_RX12_108 dX12_next_13 (fun v33 ev33 lv33 uv33 => ?_)
      refine q_icmp_ge hx hb (a := v31.toInt) (b := v33.toInt) rfl rfl (tgt := 58) dX12_next_16 rfl (fun c34 => ?_) (fun c34 => ?_)
      · refine lv_aload_n hx hb dX12_next_58 rfl (lv_at hl 0 rfl) ?_
        refine lv_aload_n hx hb dX12_next_59 rfl (lv_at hl 0 rfl) ?_
        refine q_getI E hC30 g0 fa_RX12_114 dX12_next_60 (fun v35 ev35 lv35 uv35 => ?_)
        have qv35 := ev31.symm.trans ev35; subst qv35
        refine q_put E hC30 hS30 g0 fp_RX12_111 (tv_I rfl (by omega) (by omega)) rfl rfl dX12_next_63 (fun H36 locs36 hC36 hS36 U36 => ?_)
        have hKp36 := Kp.upO E g0 fp_RX12_111 rfl U36 hKp30
        have e37 := up_I U36
        have m38 : (sI H36 h0 (X.1.2 11 16)).toInt = v31.toInt := (congrArg Int32.toInt e37).trans rfl
        have m39 : (sI H36 h0 (X.1.2 11 12)).toInt = (sI H30 h0 (X.1.2 11 12)).toInt := congrArg Int32.toInt (up_nI U36 (ne_f E 11 12 16 rfl (by decide) (by decide) (by decide)))
        have m40 : (sI H36 h0 (X.1.2 11 14)).toInt = (sI H30 h0 (X.1.2 11 14)).toInt := congrArg Int32.toInt (up_nI U36 (ne_f E 11 14 16 rfl (by decide) (by decide) (by decide)))
        have m41 := congrArg tk m40
        have m42 : (sI H36 h0 (X.1.2 11 15)).toInt = (sI H30 h0 (X.1.2 11 15)).toInt := congrArg Int32.toInt (up_nI U36 (ne_f E 11 15 16 rfl (by decide) (by decide) (by decide)))
        refine lv_aload_n hx hb dX12_next_66 rfl (lv_at hl 0 rfl) ?_
        have e44 := (up_nI U36 (ne_f E 11 15 16 rfl (by decide) (by decide) (by decide))).trans ev31
        refine q_getI E hC36 g0 fa_RX12_114 dX12_next_67 (fun v43 ev43 lv43 uv43 => ?_)
        have qv43 := e44.symm.trans ev43; subst qv43
        have m45 : (sI H36 h0 (X.1.2 11 15)).toInt = v31.toInt := (congrArg Int32.toInt ev43).trans rfl
        refine lv_aload_n hx hb dX12_next_70 rfl (lv_at hl 0 rfl) ?_
        have e47 := (up_nI U36 (ne_f E 11 9 16 rfl (by decide) (by decide) (by decide))).trans ev33
        refine q_getI E hC36 g0 fa_RX12_108 dX12_next_71 (fun v46 ev46 lv46 uv46 => ?_)
        have qv46 := e47.symm.trans ev46; subst qv46
        refine q_icmp_lt hx hb (a := v31.toInt) (b := v33.toInt) rfl rfl (tgt := 83) dX12_next_74 rfl (fun c48 => ?_) (fun c48 => ?_)
        · refine lv_aload_n hx hb dX12_next_83 rfl (lv_at hl 0 rfl) ?_
          refine lv_aload_n hx hb dX12_next_84 rfl (lv_at hl 0 rfl) ?_
          refine q_getI E hC36 g0 fa_RX12_114 dX12_next_85 (fun v49 ev49 lv49 uv49 => ?_)
          have qv49 := e44.symm.trans ev49; subst qv49
          refine q_goIp (q_runV (As := [.int v31]) (rest := []) E hC36 hS36 (m_X12_look2 l X Γ H36 hC36 h0 g0 v31 (a1 := v31.toInt) rfl ca gca uc (by omega)) cw_X12_look2 cl_RX12_117 g0 ⟨rfl, rfl⟩ rfl hl.1 rfl (Nat.zero_le _) (by decide) dX12_next_88) hS36 (fun v50 locs50 hr50 hS50 => ?_)
          have f50_0 := hr50
          refine lv_istore_n hx hb dX12_next_91 rfl hl (by decide) rfl (fun ls hl => ?_)
          replace hl : lv_has ls 2 [(1, .int v50), (0, .ref h0)] := hl
          refine lv_iload_n hx hb dX12_next_92 rfl (lv_at hl 0 rfl) ?_
          refine q_goIp (q_runS (As := [.int v50]) (rest := []) E hS50 (m_X12_isLetter l X Γ H36 hC36 v50 (a0 := v50.toInt) rfl) cw_X12_isLetter cl_RX12_123 rfl hl.1 rfl (Nat.zero_le _) (by decide) dX12_next_93) hS50 (fun v51 locs51 hr51 hS51 => ?_)
          rcases hr51 with ⟨rfl, f51a⟩ | ⟨rfl, -⟩
          · refine q_if_eq hx hb (a := 1) (by decide) (tgt := 198) dX12_next_96 rfl (fun c52 => absurd c52 (by omega)) (fun c52 => ?_)
            refine lv_aload_n hx hb dX12_next_99 rfl (lv_at hl 1 rfl) ?_
            refine lv_iconst (v := 1) hx hb dX12_next_100 rfl ?_
            refine q_put E hC36 hS51 g0 fp_RX12_120 tv_F rfl rfl dX12_next_101 (fun H53 locs53 hC53 hS53 U53 => ?_)
            have hKp53 := Kp.upO E g0 fp_RX12_120 rfl U53 hKp36
            have e54 := up_I U53
            have m55 : (sI H53 h0 (X.1.2 11 14)).toInt = 1 := (congrArg Int32.toInt e54).trans (show (1 : Int32).toInt = 1 from by decide)
            have m56 : (sI H53 h0 (X.1.2 11 12)).toInt = (sI H36 h0 (X.1.2 11 12)).toInt := congrArg Int32.toInt (up_nI U53 (ne_f E 11 12 14 rfl (by decide) (by decide) (by decide)))
            have m57 : (sI H53 h0 (X.1.2 11 16)).toInt = (sI H36 h0 (X.1.2 11 16)).toInt := congrArg Int32.toInt (up_nI U53 (ne_f E 11 16 14 rfl (by decide) (by decide) (by decide)))
            have m58 : (sI H53 h0 (X.1.2 11 15)).toInt = (sI H36 h0 (X.1.2 11 15)).toInt := congrArg Int32.toInt (up_nI U53 (ne_f E 11 15 14 rfl (by decide) (by decide) (by decide)))
            refine lv_aload_n hx hb dX12_next_104 rfl (lv_at hl 1 rfl) ?_
            refine lv_lconst (v := 0) hx hb dX12_next_105 rfl ?_
            refine q_put E hC53 hS53 g0 fp_RX12_126 tv_J rfl rfl dX12_next_106 (fun H59 locs59 hC59 hS59 U59 => ?_)
            have hKp59 := Kp.upO E g0 fp_RX12_126 rfl U59 hKp53
            have m60 : (sI H59 h0 (X.1.2 11 12)).toInt = (sI H53 h0 (X.1.2 11 12)).toInt := congrArg Int32.toInt (up_nI U59 (ne_f E 11 12 19 rfl (by decide) (by decide) (by decide)))
            have m61 : (sI H59 h0 (X.1.2 11 14)).toInt = (sI H53 h0 (X.1.2 11 14)).toInt := congrArg Int32.toInt (up_nI U59 (ne_f E 11 14 19 rfl (by decide) (by decide) (by decide)))
            have m62 := congrArg tk m61
            have m63 : (sI H59 h0 (X.1.2 11 16)).toInt = (sI H53 h0 (X.1.2 11 16)).toInt := congrArg Int32.toInt (up_nI U59 (ne_f E 11 16 19 rfl (by decide) (by decide) (by decide)))
            have m64 : (sI H59 h0 (X.1.2 11 15)).toInt = (sI H53 h0 (X.1.2 11 15)).toInt := congrArg Int32.toInt (up_nI U59 (ne_f E 11 15 19 rfl (by decide) (by decide) (by decide)))
            have L109 : ∀ (n65 : Nat) (H65 : Heap) (locs65 : List Loc) (ls : Array Slot), (900 - (sI H65 h0 (X.1.2 11 16)).toInt).toNat < n65 → (sI H0 h0 (X.1.2 11 16)).toInt ≤ (sI H65 h0 (X.1.2 11 15)).toInt → (sI H65 h0 (X.1.2 11 15)).toInt ≤ (sI H65 h0 (X.1.2 11 16)).toInt → (sI H65 h0 (X.1.2 11 12)).toInt = (sI H0 h0 (X.1.2 11 12)).toInt → (sI H65 h0 (X.1.2 11 14)).toInt = 1 → Conf X Γ H65 → va_S (AΓ Γ) H0 H65 locs65 → Kp X Γ [1, 6, 7, 8, 9, 10, 11, 12, 14, 15, 16, 17, 19, 22, 24, 26, 28] H0 H65 → lv_has ls 2 [(1, .int v50), (0, .ref h0)] → W p l e (rmL 1) s m args below meth c H65 locs65 0 0 Qz (F0 m 109 ls []) := by
              intro n65
              induction n65 with
              | zero => intro H65 locs65 ls hm65 iv65_0 iv65_1 iv65_2 iv65_3 hC65 hS65 hKp65 hl; exact absurd hm65 (Nat.not_lt_zero _)
              | succ n65 ih65 =>
                intro H65 locs65 ls hm65 iv65_0 iv65_1 iv65_2 iv65_3 hC65 hS65 hKp65 hl
                refine lv_aload_n hx hb dX12_next_109 rfl (lv_at hl 1 rfl) ?_
                refine lv_aload_n hx hb dX12_next_110 rfl (lv_at hl 1 rfl) ?_
                refine q_getI E hC65 g0 fa_RX12_111 dX12_next_111 (fun v66 ev66 lv66 uv66 => ?_)
                have m67 : (sI H65 h0 (X.1.2 11 16)).toInt = v66.toInt := (congrArg Int32.toInt ev66).trans rfl
                refine q_goIp (q_runV (As := [.int v66]) (rest := []) E hC65 hS65 (m_X12_look2 l X Γ H65 hC65 h0 g0 v66 (a1 := v66.toInt) rfl ca gca uc (by omega)) cw_X12_look2 cl_RX12_117 g0 ⟨rfl, rfl⟩ rfl hl.1 rfl (Nat.zero_le _) (by decide) dX12_next_114) hS65 (fun v68 locs68 hr68 hS68 => ?_)
                have f68_0 := hr68
                refine q_goIp (q_runS (As := [.int v68]) (rest := []) E hS68 (m_X12_isLetter l X Γ H65 hC65 v68 (a0 := v68.toInt) rfl) cw_X12_isLetter cl_RX12_123 rfl hl.1 rfl (Nat.zero_le _) (by decide) dX12_next_117) hS68 (fun v69 locs69 hr69 hS69 => ?_)
                rcases hr69 with ⟨rfl, f69a⟩ | ⟨rfl, -⟩
                · refine q_if_eq hx hb (a := 1) (by decide) (tgt := 182) dX12_next_120 rfl (fun c70 => absurd c70 (by omega)) (fun c70 => ?_)
                  refine lv_aload_n hx hb dX12_next_123 rfl (lv_at hl 1 rfl) ?_
                  refine lv_aload_n hx hb dX12_next_124 rfl (lv_at hl 1 rfl) ?_
                  refine q_getI E hC65 g0 fa_RX12_111 dX12_next_125 (fun v71 ev71 lv71 uv71 => ?_)
                  have qv71 := ev66.symm.trans ev71; subst qv71
                  refine lv_aload_n hx hb dX12_next_128 rfl (lv_at hl 1 rfl) ?_
                  refine q_getI E hC65 g0 fa_RX12_114 dX12_next_129 (fun v72 ev72 lv72 uv72 => ?_)
                  have m73 : (sI H65 h0 (X.1.2 11 15)).toInt = v72.toInt := (congrArg Int32.toInt ev72).trans rfl
                  refine lv_isub hx hb dX12_next_132 (lv_topi (fun v74 ev74 => ?_))
                  have ev74i : v74.toInt = (v66.toInt - v72.toInt) := i_sub ev74 rfl rfl (by omega) (by omega)
                  refine lv_bipush (v := 8) hx hb dX12_next_133 rfl ?_
                  refine q_icmp_ge hx hb (a := (v66.toInt - v72.toInt)) (b := 8) ev74i (by decide) (tgt := 163) dX12_next_135 rfl (fun c75 => ?_) (fun c75 => ?_)
                  · refine lv_ldc2 (v := (-1)) hx hb E.2.2.2.1 (E.2.2.2.2.1 _ w_1470) dX12_next_163 ?_
                    refine q_put E hC65 hS69 g0 fp_RX12_126 tv_J rfl rfl dX12_next_166 (fun H76 locs76 hC76 hS76 U76 => ?_)
                    have hKp76 := Kp.upO E g0 fp_RX12_126 rfl U76 hKp65
                    have m77 : (sI H76 h0 (X.1.2 11 12)).toInt = (sI H65 h0 (X.1.2 11 12)).toInt := congrArg Int32.toInt (up_nI U76 (ne_f E 11 12 19 rfl (by decide) (by decide) (by decide)))
                    have m78 : (sI H76 h0 (X.1.2 11 14)).toInt = (sI H65 h0 (X.1.2 11 14)).toInt := congrArg Int32.toInt (up_nI U76 (ne_f E 11 14 19 rfl (by decide) (by decide) (by decide)))
                    have m79 := congrArg tk m78
                    have m80 : (sI H76 h0 (X.1.2 11 16)).toInt = (sI H65 h0 (X.1.2 11 16)).toInt := congrArg Int32.toInt (up_nI U76 (ne_f E 11 16 19 rfl (by decide) (by decide) (by decide)))
                    have m81 : (sI H76 h0 (X.1.2 11 15)).toInt = (sI H65 h0 (X.1.2 11 15)).toInt := congrArg Int32.toInt (up_nI U76 (ne_f E 11 15 19 rfl (by decide) (by decide) (by decide)))
                    refine lv_aload_n hx hb dX12_next_169 rfl (lv_at hl 1 rfl) ?_
                    refine lv_dup hx hb dX12_next_170 rfl ?_
                    have e83 := (up_nI U76 (ne_f E 11 16 19 rfl (by decide) (by decide) (by decide))).trans ev66
                    refine q_getI E hC76 g0 fa_RX12_111 dX12_next_171 (fun v82 ev82 lv82 uv82 => ?_)
                    have qv82 := e83.symm.trans ev82; subst qv82
                    have m84 : (sI H76 h0 (X.1.2 11 16)).toInt = v66.toInt := (congrArg Int32.toInt ev82).trans rfl
                    refine lv_iconst (v := 1) hx hb dX12_next_174 rfl ?_
                    refine lv_iadd hx hb dX12_next_175 (lv_topi (fun v85 ev85 => ?_))
                    have ev85i : v85.toInt = (v66.toInt + 1) := i_add ev85 rfl (by decide) (by omega) (by omega)
                    refine q_put E hC76 hS76 g0 fp_RX12_111 (tv_I ev85i (by omega) (by omega)) rfl rfl dX12_next_176 (fun H86 locs86 hC86 hS86 U86 => ?_)
                    have hKp86 := Kp.upO E g0 fp_RX12_111 rfl U86 hKp76
                    have e87 := up_I U86
                    have m88 : (sI H86 h0 (X.1.2 11 16)).toInt = (v66.toInt + 1) := (congrArg Int32.toInt e87).trans ev85i
                    have m89 : (sI H86 h0 (X.1.2 11 12)).toInt = (sI H76 h0 (X.1.2 11 12)).toInt := congrArg Int32.toInt (up_nI U86 (ne_f E 11 12 16 rfl (by decide) (by decide) (by decide)))
                    have m90 : (sI H86 h0 (X.1.2 11 14)).toInt = (sI H76 h0 (X.1.2 11 14)).toInt := congrArg Int32.toInt (up_nI U86 (ne_f E 11 14 16 rfl (by decide) (by decide) (by decide)))
                    have m91 := congrArg tk m90
                    have m92 : (sI H86 h0 (X.1.2 11 15)).toInt = (sI H76 h0 (X.1.2 11 15)).toInt := congrArg Int32.toInt (up_nI U86 (ne_f E 11 15 16 rfl (by decide) (by decide) (by decide)))
                    refine lv_goto (tgt := 109) hx hb dX12_next_179 rfl ?_
                    have m1_behind : (sI H65 h0 (X.1.2 11 16)).toInt = v66.toInt := (congrArg Int32.toInt ev66).trans rfl
                    have m2_behind : (sI H86 h0 (X.1.2 11 16)).toInt = (v66.toInt + 1) := (congrArg Int32.toInt e87).trans ev85i
                    exact ih65 H86 locs86 ls (by omega) (by omega) (by omega) (by omega) (by omega) hC86 hS86 hKp86 hl
                  · refine lv_aload_n hx hb dX12_next_138 rfl (lv_at hl 1 rfl) ?_
                    refine q_getJ E hC65 g0 fa_RX12_126 dX12_next_139 (fun v93 ev93 => ?_)
                    refine lv_ldc2 (v := 32) hx hb E.2.2.2.1 (E.2.2.2.2.1 _ w_1506) dX12_next_142 ?_
                    refine lv_lmul hx hb dX12_next_145 (lv_topl (fun v94 ev94 => ?_))
                    refine lv_aload_n hx hb dX12_next_146 rfl (lv_at hl 1 rfl) ?_
                    refine lv_aload_n hx hb dX12_next_147 rfl (lv_at hl 1 rfl) ?_
                    refine q_getI E hC65 g0 fa_RX12_111 dX12_next_148 (fun v95 ev95 lv95 uv95 => ?_)
                    have qv95 := ev66.symm.trans ev95; subst qv95
                    refine q_goIp (q_runV (As := [.int v66]) (rest := [.long v94, .ref h0]) E hC65 hS69 (m_X12_look2 l X Γ H65 hC65 h0 g0 v66 (a1 := v66.toInt) rfl ca gca uc (by omega)) cw_X12_look2 cl_RX12_117 g0 ⟨rfl, rfl⟩ rfl hl.1 rfl (show _ ≤ _ from by simp [Value.category]) (by decide) dX12_next_151) hS69 (fun v96 locs96 hr96 hS96 => ?_)
                    have f96_0 := hr96
                    refine lv_i2l (v := v96.toInt64) hx hb dX12_next_154 rfl (lv_topl (fun v97 ev97 => ?_))
                    have ev97i : v97.toInt = v96.toInt := l_ofi ev97.symm rfl
                    refine lv_ladd hx hb dX12_next_155 (lv_topl (fun v98 ev98 => ?_))
                    refine lv_ldc2 (v := 96) hx hb E.2.2.2.1 (E.2.2.2.2.1 _ w_1507) dX12_next_156 ?_
                    refine lv_lsub hx hb dX12_next_159 (lv_topl (fun v99 ev99 => ?_))
                    refine lv_goto (tgt := 166) hx hb dX12_next_160 rfl ?_
                    refine q_put E hC65 hS96 g0 fp_RX12_126 tv_J rfl rfl dX12_next_166 (fun H100 locs100 hC100 hS100 U100 => ?_)
                    have hKp100 := Kp.upO E g0 fp_RX12_126 rfl U100 hKp65
                    have m101 : (sI H100 h0 (X.1.2 11 12)).toInt = (sI H65 h0 (X.1.2 11 12)).toInt := congrArg Int32.toInt (up_nI U100 (ne_f E 11 12 19 rfl (by decide) (by decide) (by decide)))
                    have m102 : (sI H100 h0 (X.1.2 11 14)).toInt = (sI H65 h0 (X.1.2 11 14)).toInt := congrArg Int32.toInt (up_nI U100 (ne_f E 11 14 19 rfl (by decide) (by decide) (by decide)))
                    have m103 := congrArg tk m102
                    have m104 : (sI H100 h0 (X.1.2 11 16)).toInt = (sI H65 h0 (X.1.2 11 16)).toInt := congrArg Int32.toInt (up_nI U100 (ne_f E 11 16 19 rfl (by decide) (by decide) (by decide)))
                    have m105 : (sI H100 h0 (X.1.2 11 15)).toInt = (sI H65 h0 (X.1.2 11 15)).toInt := congrArg Int32.toInt (up_nI U100 (ne_f E 11 15 19 rfl (by decide) (by decide) (by decide)))
                    refine lv_aload_n hx hb dX12_next_169 rfl (lv_at hl 1 rfl) ?_
                    refine lv_dup hx hb dX12_next_170 rfl ?_
                    have e107 := (up_nI U100 (ne_f E 11 16 19 rfl (by decide) (by decide) (by decide))).trans ev66
                    refine q_getI E hC100 g0 fa_RX12_111 dX12_next_171 (fun v106 ev106 lv106 uv106 => ?_)
                    have qv106 := e107.symm.trans ev106; subst qv106
                    have m108 : (sI H100 h0 (X.1.2 11 16)).toInt = v66.toInt := (congrArg Int32.toInt ev106).trans rfl
                    refine lv_iconst (v := 1) hx hb dX12_next_174 rfl ?_
                    refine lv_iadd hx hb dX12_next_175 (lv_topi (fun v109 ev109 => ?_))
                    have ev109i : v109.toInt = (v66.toInt + 1) := i_add ev109 rfl (by decide) (by omega) (by omega)
                    refine q_put E hC100 hS100 g0 fp_RX12_111 (tv_I ev109i (by omega) (by omega)) rfl rfl dX12_next_176 (fun H110 locs110 hC110 hS110 U110 => ?_)
                    have hKp110 := Kp.upO E g0 fp_RX12_111 rfl U110 hKp100
                    have e111 := up_I U110
                    have m112 : (sI H110 h0 (X.1.2 11 16)).toInt = (v66.toInt + 1) := (congrArg Int32.toInt e111).trans ev109i
                    have m113 : (sI H110 h0 (X.1.2 11 12)).toInt = (sI H100 h0 (X.1.2 11 12)).toInt := congrArg Int32.toInt (up_nI U110 (ne_f E 11 12 16 rfl (by decide) (by decide) (by decide)))
                    have m114 : (sI H110 h0 (X.1.2 11 14)).toInt = (sI H100 h0 (X.1.2 11 14)).toInt := congrArg Int32.toInt (up_nI U110 (ne_f E 11 14 16 rfl (by decide) (by decide) (by decide)))
                    have m115 := congrArg tk m114
                    have m116 : (sI H110 h0 (X.1.2 11 15)).toInt = (sI H100 h0 (X.1.2 11 15)).toInt := congrArg Int32.toInt (up_nI U110 (ne_f E 11 15 16 rfl (by decide) (by decide) (by decide)))
                    refine lv_goto (tgt := 109) hx hb dX12_next_179 rfl ?_
                    have m1_behind : (sI H65 h0 (X.1.2 11 16)).toInt = v66.toInt := (congrArg Int32.toInt ev66).trans rfl
                    have m2_behind : (sI H110 h0 (X.1.2 11 16)).toInt = (v66.toInt + 1) := (congrArg Int32.toInt e111).trans ev109i
                    exact ih65 H110 locs110 ls (by omega) (by omega) (by omega) (by omega) (by omega) hC110 hS110 hKp110 hl
                · refine q_if_eq hx hb (a := 0) (by decide) (tgt := 182) dX12_next_120 rfl (fun c117 => ?_) (fun c117 => absurd c117 (by omega))
                  refine lv_aload_n hx hb dX12_next_182 rfl (lv_at hl 1 rfl) ?_
                  refine lv_aload_n hx hb dX12_next_183 rfl (lv_at hl 1 rfl) ?_
                  refine q_getI E hC65 g0 fa_RX12_111 dX12_next_184 (fun v118 ev118 lv118 uv118 => ?_)
                  have qv118 := ev66.symm.trans ev118; subst qv118
                  refine lv_aload_n hx hb dX12_next_187 rfl (lv_at hl 1 rfl) ?_
                  refine q_getI E hC65 g0 fa_RX12_114 dX12_next_188 (fun v119 ev119 lv119 uv119 => ?_)
                  have m120 : (sI H65 h0 (X.1.2 11 15)).toInt = v119.toInt := (congrArg Int32.toInt ev119).trans rfl
                  refine lv_isub hx hb dX12_next_191 (lv_topi (fun v121 ev121 => ?_))
                  have ev121i : v121.toInt = (v66.toInt - v119.toInt) := i_sub ev121 rfl rfl (by omega) (by omega)
                  refine q_put E hC65 hS69 g0 fp_RX12_133 tv_F rfl rfl dX12_next_192 (fun H122 locs122 hC122 hS122 U122 => ?_)
                  have hKp122 := Kp.upO E g0 fp_RX12_133 rfl U122 hKp65
                  have e123 := up_I U122
                  have m124 : (sI H122 h0 (X.1.2 11 12)).toInt = (sI H65 h0 (X.1.2 11 12)).toInt := congrArg Int32.toInt (up_nI U122 (ne_f E 11 12 18 rfl (by decide) (by decide) (by decide)))
                  have m125 : (sI H122 h0 (X.1.2 11 14)).toInt = (sI H65 h0 (X.1.2 11 14)).toInt := congrArg Int32.toInt (up_nI U122 (ne_f E 11 14 18 rfl (by decide) (by decide) (by decide)))
                  have m126 := congrArg tk m125
                  have m127 : (sI H122 h0 (X.1.2 11 16)).toInt = (sI H65 h0 (X.1.2 11 16)).toInt := congrArg Int32.toInt (up_nI U122 (ne_f E 11 16 18 rfl (by decide) (by decide) (by decide)))
                  have m128 : (sI H122 h0 (X.1.2 11 15)).toInt = (sI H65 h0 (X.1.2 11 15)).toInt := congrArg Int32.toInt (up_nI U122 (ne_f E 11 15 18 rfl (by decide) (by decide) (by decide)))
                  refine lv_goto (tgt := 330) hx hb dX12_next_195 rfl ?_
                  have hz9 := tk_or (sI H122 h0 (X.1.2 11 14)).toInt
                  exact ret H122 locs122 _ _ dX12_next_330 ⟨hKp122, ⟨by omega, by omega, by omega⟩⟩ hC122 hS122
            exact L109 _ H59 locs59 ls (Nat.lt_succ_self _) (by omega) (by omega) (by omega) (by omega) hC59 hS59 hKp59 hl
          · refine q_if_eq hx hb (a := 0) (by decide) (tgt := 198) dX12_next_96 rfl (fun c129 => ?_) (fun c129 => absurd c129 (by omega))
            refine lv_iload_n hx hb dX12_next_198 rfl (lv_at hl 0 rfl) ?_
            refine q_goIp (q_runS (As := [.int v50]) (rest := []) E hS51 (m_X12_isDigit l X Γ H36 hC36 v50 (a0 := v50.toInt) rfl) cw_X12_isDigit cl_RX12_136 rfl hl.1 rfl (Nat.zero_le _) (by decide) dX12_next_199) hS51 (fun v130 locs130 hr130 hS130 => ?_)
            rcases hr130 with ⟨rfl, f130a⟩ | ⟨rfl, -⟩
            · refine q_if_eq hx hb (a := 1) (by decide) (tgt := 298) dX12_next_202 rfl (fun c131 => absurd c131 (by omega)) (fun c131 => ?_)
              refine lv_aload_n hx hb dX12_next_205 rfl (lv_at hl 1 rfl) ?_
              refine lv_iconst (v := 0) hx hb dX12_next_206 rfl ?_
              refine q_put E hC36 hS130 g0 fp_RX12_139 tv_F rfl rfl dX12_next_207 (fun H132 locs132 hC132 hS132 U132 => ?_)
              have hKp132 := Kp.upO E g0 fp_RX12_139 rfl U132 hKp36
              have e133 := up_I U132
              have m134 : (sI H132 h0 (X.1.2 11 12)).toInt = (sI H36 h0 (X.1.2 11 12)).toInt := congrArg Int32.toInt (up_nI U132 (ne_f E 11 12 17 rfl (by decide) (by decide) (by decide)))
              have m135 : (sI H132 h0 (X.1.2 11 14)).toInt = (sI H36 h0 (X.1.2 11 14)).toInt := congrArg Int32.toInt (up_nI U132 (ne_f E 11 14 17 rfl (by decide) (by decide) (by decide)))
              have m136 := congrArg tk m135
              have m137 : (sI H132 h0 (X.1.2 11 16)).toInt = (sI H36 h0 (X.1.2 11 16)).toInt := congrArg Int32.toInt (up_nI U132 (ne_f E 11 16 17 rfl (by decide) (by decide) (by decide)))
              have m138 : (sI H132 h0 (X.1.2 11 15)).toInt = (sI H36 h0 (X.1.2 11 15)).toInt := congrArg Int32.toInt (up_nI U132 (ne_f E 11 15 17 rfl (by decide) (by decide) (by decide)))
              have L210 : ∀ (n139 : Nat) (H139 : Heap) (locs139 : List Loc) (ls : Array Slot), (900 - (sI H139 h0 (X.1.2 11 16)).toInt).toNat < n139 → (sI H0 h0 (X.1.2 11 16)).toInt ≤ (sI H139 h0 (X.1.2 11 15)).toInt → (sI H139 h0 (X.1.2 11 15)).toInt ≤ (sI H139 h0 (X.1.2 11 16)).toInt → (sI H139 h0 (X.1.2 11 12)).toInt = (sI H0 h0 (X.1.2 11 12)).toInt → Conf X Γ H139 → va_S (AΓ Γ) H0 H139 locs139 → Kp X Γ [1, 6, 7, 8, 9, 10, 11, 12, 14, 15, 16, 17, 19, 22, 24, 26, 28] H0 H139 → lv_has ls 2 [(1, .int v50), (0, .ref h0)] → W p l e (rmL 1) s m args below meth c H139 locs139 0 0 Qz (F0 m 210 ls []) := by
                intro n139
                induction n139 with
                | zero => intro H139 locs139 ls hm139 iv139_0 iv139_1 iv139_2 hC139 hS139 hKp139 hl; exact absurd hm139 (Nat.not_lt_zero _)
                | succ n139 ih139 =>
                  intro H139 locs139 ls hm139 iv139_0 iv139_1 iv139_2 hC139 hS139 hKp139 hl
                  refine lv_aload_n hx hb dX12_next_210 rfl (lv_at hl 1 rfl) ?_
                  refine lv_aload_n hx hb dX12_next_211 rfl (lv_at hl 1 rfl) ?_
                  refine q_getI E hC139 g0 fa_RX12_111 dX12_next_212 (fun v140 ev140 lv140 uv140 => ?_)
                  have m141 : (sI H139 h0 (X.1.2 11 16)).toInt = v140.toInt := (congrArg Int32.toInt ev140).trans rfl
                  refine q_goIp (q_runV (As := [.int v140]) (rest := []) E hC139 hS139 (m_X12_look2 l X Γ H139 hC139 h0 g0 v140 (a1 := v140.toInt) rfl ca gca uc (by omega)) cw_X12_look2 cl_RX12_117 g0 ⟨rfl, rfl⟩ rfl hl.1 rfl (Nat.zero_le _) (by decide) dX12_next_215) hS139 (fun v142 locs142 hr142 hS142 => ?_)
                  have f142_0 := hr142
                  refine q_goIp (q_runS (As := [.int v142]) (rest := []) E hS142 (m_X12_isDigit l X Γ H139 hC139 v142 (a0 := v142.toInt) rfl) cw_X12_isDigit cl_RX12_136 rfl hl.1 rfl (Nat.zero_le _) (by decide) dX12_next_218) hS142 (fun v143 locs143 hr143 hS143 => ?_)
                  rcases hr143 with ⟨rfl, f143a⟩ | ⟨rfl, -⟩
                  · refine q_if_eq hx hb (a := 1) (by decide) (tgt := 273) dX12_next_221 rfl (fun c144 => absurd c144 (by omega)) (fun c144 => ?_)
                    refine lv_aload_n hx hb dX12_next_224 rfl (lv_at hl 1 rfl) ?_
                    refine q_getI E hC139 g0 fa_RX12_111 dX12_next_225 (fun v145 ev145 lv145 uv145 => ?_)
                    have qv145 := ev140.symm.trans ev145; subst qv145
                    refine lv_aload_n hx hb dX12_next_228 rfl (lv_at hl 1 rfl) ?_
                    refine q_getI E hC139 g0 fa_RX12_114 dX12_next_229 (fun v146 ev146 lv146 uv146 => ?_)
                    have m147 : (sI H139 h0 (X.1.2 11 15)).toInt = v146.toInt := (congrArg Int32.toInt ev146).trans rfl
                    refine lv_isub hx hb dX12_next_232 (lv_topi (fun v148 ev148 => ?_))
                    have ev148i : v148.toInt = (v140.toInt - v146.toInt) := i_sub ev148 rfl rfl (by omega) (by omega)
                    refine lv_iconst (v := 4) hx hb dX12_next_233 rfl ?_
                    refine q_icmp_ge hx hb (a := (v140.toInt - v146.toInt)) (b := 4) ev148i (by decide) (tgt := 260) dX12_next_234 rfl (fun c149 => ?_) (fun c149 => ?_)
                    · refine lv_aload_n hx hb dX12_next_260 rfl (lv_at hl 1 rfl) ?_
                      refine lv_dup hx hb dX12_next_261 rfl ?_
                      refine q_getI E hC139 g0 fa_RX12_111 dX12_next_262 (fun v150 ev150 lv150 uv150 => ?_)
                      have qv150 := ev140.symm.trans ev150; subst qv150
                      refine lv_iconst (v := 1) hx hb dX12_next_265 rfl ?_
                      refine lv_iadd hx hb dX12_next_266 (lv_topi (fun v151 ev151 => ?_))
                      have ev151i : v151.toInt = (v140.toInt + 1) := i_add ev151 rfl (by decide) (by omega) (by omega)
                      refine q_put E hC139 hS143 g0 fp_RX12_111 (tv_I ev151i (by omega) (by omega)) rfl rfl dX12_next_267 (fun H152 locs152 hC152 hS152 U152 => ?_)
                      have hKp152 := Kp.upO E g0 fp_RX12_111 rfl U152 hKp139
                      have e153 := up_I U152
                      have m154 : (sI H152 h0 (X.1.2 11 16)).toInt = (v140.toInt + 1) := (congrArg Int32.toInt e153).trans ev151i
                      have m155 : (sI H152 h0 (X.1.2 11 12)).toInt = (sI H139 h0 (X.1.2 11 12)).toInt := congrArg Int32.toInt (up_nI U152 (ne_f E 11 12 16 rfl (by decide) (by decide) (by decide)))
                      have m156 : (sI H152 h0 (X.1.2 11 14)).toInt = (sI H139 h0 (X.1.2 11 14)).toInt := congrArg Int32.toInt (up_nI U152 (ne_f E 11 14 16 rfl (by decide) (by decide) (by decide)))
                      have m157 := congrArg tk m156
                      have m158 : (sI H152 h0 (X.1.2 11 15)).toInt = (sI H139 h0 (X.1.2 11 15)).toInt := congrArg Int32.toInt (up_nI U152 (ne_f E 11 15 16 rfl (by decide) (by decide) (by decide)))
                      refine lv_goto (tgt := 210) hx hb dX12_next_270 rfl ?_
                      have m1_behind : (sI H139 h0 (X.1.2 11 16)).toInt = v140.toInt := (congrArg Int32.toInt ev140).trans rfl
                      have m2_behind : (sI H152 h0 (X.1.2 11 16)).toInt = (v140.toInt + 1) := (congrArg Int32.toInt e153).trans ev151i
                      exact ih139 H152 locs152 ls (by omega) (by omega) (by omega) (by omega) hC152 hS152 hKp152 hl
                    · refine lv_aload_n hx hb dX12_next_237 rfl (lv_at hl 1 rfl) ?_
                      refine lv_bipush (v := 10) hx hb dX12_next_238 rfl ?_
                      refine lv_aload_n hx hb dX12_next_240 rfl (lv_at hl 1 rfl) ?_
                      refine q_getI E hC139 g0 fa_RX12_139 dX12_next_241 (fun v159 ev159 _ _ => ?_)
                      refine lv_imul hx hb dX12_next_244 (lv_topi (fun v160 ev160 => ?_))
                      refine lv_aload_n hx hb dX12_next_245 rfl (lv_at hl 1 rfl) ?_
                      refine lv_aload_n hx hb dX12_next_246 rfl (lv_at hl 1 rfl) ?_
                      refine q_getI E hC139 g0 fa_RX12_111 dX12_next_247 (fun v161 ev161 lv161 uv161 => ?_)
                      have qv161 := ev140.symm.trans ev161; subst qv161
                      refine q_goIp (q_runV (As := [.int v140]) (rest := [.int v160, .ref h0]) E hC139 hS143 (m_X12_look2 l X Γ H139 hC139 h0 g0 v140 (a1 := v140.toInt) rfl ca gca uc (by omega)) cw_X12_look2 cl_RX12_117 g0 ⟨rfl, rfl⟩ rfl hl.1 rfl (show _ ≤ _ from by simp [Value.category]) (by decide) dX12_next_250) hS143 (fun v162 locs162 hr162 hS162 => ?_)
                      have f162_0 := hr162
                      refine lv_iadd hx hb dX12_next_253 (lv_topi (fun v163 ev163 => ?_))
                      refine lv_bipush (v := 48) hx hb dX12_next_254 rfl ?_
                      refine lv_isub hx hb dX12_next_256 (lv_topi (fun v164 ev164 => ?_))
                      refine q_put E hC139 hS162 g0 fp_RX12_139 tv_F rfl rfl dX12_next_257 (fun H165 locs165 hC165 hS165 U165 => ?_)
                      have hKp165 := Kp.upO E g0 fp_RX12_139 rfl U165 hKp139
                      have e166 := up_I U165
                      have m167 : (sI H165 h0 (X.1.2 11 12)).toInt = (sI H139 h0 (X.1.2 11 12)).toInt := congrArg Int32.toInt (up_nI U165 (ne_f E 11 12 17 rfl (by decide) (by decide) (by decide)))
                      have m168 : (sI H165 h0 (X.1.2 11 14)).toInt = (sI H139 h0 (X.1.2 11 14)).toInt := congrArg Int32.toInt (up_nI U165 (ne_f E 11 14 17 rfl (by decide) (by decide) (by decide)))
                      have m169 := congrArg tk m168
                      have m170 : (sI H165 h0 (X.1.2 11 16)).toInt = (sI H139 h0 (X.1.2 11 16)).toInt := congrArg Int32.toInt (up_nI U165 (ne_f E 11 16 17 rfl (by decide) (by decide) (by decide)))
                      have m171 : (sI H165 h0 (X.1.2 11 15)).toInt = (sI H139 h0 (X.1.2 11 15)).toInt := congrArg Int32.toInt (up_nI U165 (ne_f E 11 15 17 rfl (by decide) (by decide) (by decide)))
                      refine lv_aload_n hx hb dX12_next_260 rfl (lv_at hl 1 rfl) ?_
                      refine lv_dup hx hb dX12_next_261 rfl ?_
                      have e173 := (up_nI U165 (ne_f E 11 16 17 rfl (by decide) (by decide) (by decide))).trans ev140
                      refine q_getI E hC165 g0 fa_RX12_111 dX12_next_262 (fun v172 ev172 lv172 uv172 => ?_)
                      have qv172 := e173.symm.trans ev172; subst qv172
                      have m174 : (sI H165 h0 (X.1.2 11 16)).toInt = v140.toInt := (congrArg Int32.toInt ev172).trans rfl
                      refine lv_iconst (v := 1) hx hb dX12_next_265 rfl ?_
                      refine lv_iadd hx hb dX12_next_266 (lv_topi (fun v175 ev175 => ?_))
                      have ev175i : v175.toInt = (v140.toInt + 1) := i_add ev175 rfl (by decide) (by omega) (by omega)
                      refine q_put E hC165 hS165 g0 fp_RX12_111 (tv_I ev175i (by omega) (by omega)) rfl rfl dX12_next_267 (fun H176 locs176 hC176 hS176 U176 => ?_)
                      have hKp176 := Kp.upO E g0 fp_RX12_111 rfl U176 hKp165
                      have e177 := up_I U176
                      have m178 : (sI H176 h0 (X.1.2 11 16)).toInt = (v140.toInt + 1) := (congrArg Int32.toInt e177).trans ev175i
                      have m179 : (sI H176 h0 (X.1.2 11 12)).toInt = (sI H165 h0 (X.1.2 11 12)).toInt := congrArg Int32.toInt (up_nI U176 (ne_f E 11 12 16 rfl (by decide) (by decide) (by decide)))
                      have m180 : (sI H176 h0 (X.1.2 11 14)).toInt = (sI H165 h0 (X.1.2 11 14)).toInt := congrArg Int32.toInt (up_nI U176 (ne_f E 11 14 16 rfl (by decide) (by decide) (by decide)))
                      have m181 := congrArg tk m180
                      have m182 : (sI H176 h0 (X.1.2 11 15)).toInt = (sI H165 h0 (X.1.2 11 15)).toInt := congrArg Int32.toInt (up_nI U176 (ne_f E 11 15 16 rfl (by decide) (by decide) (by decide)))
                      refine lv_goto (tgt := 210) hx hb dX12_next_270 rfl ?_
                      have m1_behind : (sI H139 h0 (X.1.2 11 16)).toInt = v140.toInt := (congrArg Int32.toInt ev140).trans rfl
                      have m2_behind : (sI H176 h0 (X.1.2 11 16)).toInt = (v140.toInt + 1) := (congrArg Int32.toInt e177).trans ev175i
                      exact ih139 H176 locs176 ls (by omega) (by omega) (by omega) (by omega) hC176 hS176 hKp176 hl
                  · refine q_if_eq hx hb (a := 0) (by decide) (tgt := 273) dX12_next_221 rfl (fun c183 => ?_) (fun c183 => absurd c183 (by omega))
                    refine lv_aload_n hx hb dX12_next_273 rfl (lv_at hl 1 rfl) ?_
                    refine lv_aload_n hx hb dX12_next_274 rfl (lv_at hl 1 rfl) ?_
                    refine q_getI E hC139 g0 fa_RX12_111 dX12_next_275 (fun v184 ev184 lv184 uv184 => ?_)
                    have qv184 := ev140.symm.trans ev184; subst qv184
                    refine lv_aload_n hx hb dX12_next_278 rfl (lv_at hl 1 rfl) ?_
                    refine q_getI E hC139 g0 fa_RX12_114 dX12_next_279 (fun v185 ev185 lv185 uv185 => ?_)
                    have m186 : (sI H139 h0 (X.1.2 11 15)).toInt = v185.toInt := (congrArg Int32.toInt ev185).trans rfl
                    refine lv_isub hx hb dX12_next_282 (lv_topi (fun v187 ev187 => ?_))
                    have ev187i : v187.toInt = (v140.toInt - v185.toInt) := i_sub ev187 rfl rfl (by omega) (by omega)
                    refine lv_iconst (v := 4) hx hb dX12_next_283 rfl ?_
                    refine q_icmp_le hx hb (a := (v140.toInt - v185.toInt)) (b := 4) ev187i (by decide) (tgt := 291) dX12_next_284 rfl (fun c188 => ?_) (fun c188 => ?_)
                    · refine lv_iconst (v := 2) hx hb dX12_next_291 rfl ?_
                      refine q_put E hC139 hS143 g0 fp_RX12_120 tv_F rfl rfl dX12_next_292 (fun H189 locs189 hC189 hS189 U189 => ?_)
                      have hKp189 := Kp.upO E g0 fp_RX12_120 rfl U189 hKp139
                      have e190 := up_I U189
                      have m191 : (sI H189 h0 (X.1.2 11 14)).toInt = 2 := (congrArg Int32.toInt e190).trans (show (2 : Int32).toInt = 2 from by decide)
                      have m192 : (sI H189 h0 (X.1.2 11 12)).toInt = (sI H139 h0 (X.1.2 11 12)).toInt := congrArg Int32.toInt (up_nI U189 (ne_f E 11 12 14 rfl (by decide) (by decide) (by decide)))
                      have m193 : (sI H189 h0 (X.1.2 11 16)).toInt = (sI H139 h0 (X.1.2 11 16)).toInt := congrArg Int32.toInt (up_nI U189 (ne_f E 11 16 14 rfl (by decide) (by decide) (by decide)))
                      have m194 : (sI H189 h0 (X.1.2 11 15)).toInt = (sI H139 h0 (X.1.2 11 15)).toInt := congrArg Int32.toInt (up_nI U189 (ne_f E 11 15 14 rfl (by decide) (by decide) (by decide)))
                      refine lv_goto (tgt := 330) hx hb dX12_next_295 rfl ?_
                      have hz9 := tk_or (sI H189 h0 (X.1.2 11 14)).toInt
                      exact ret H189 locs189 _ _ dX12_next_330 ⟨hKp189, ⟨by omega, by omega, by omega⟩⟩ hC189 hS189
                    · refine lv_iconst (v := 4) hx hb dX12_next_287 rfl ?_
                      refine lv_goto (tgt := 292) hx hb dX12_next_288 rfl ?_
                      refine q_put E hC139 hS143 g0 fp_RX12_120 tv_F rfl rfl dX12_next_292 (fun H195 locs195 hC195 hS195 U195 => ?_)
                      have hKp195 := Kp.upO E g0 fp_RX12_120 rfl U195 hKp139
                      have e196 := up_I U195
                      have m197 : (sI H195 h0 (X.1.2 11 14)).toInt = 4 := (congrArg Int32.toInt e196).trans (show (4 : Int32).toInt = 4 from by decide)
                      have m198 : (sI H195 h0 (X.1.2 11 12)).toInt = (sI H139 h0 (X.1.2 11 12)).toInt := congrArg Int32.toInt (up_nI U195 (ne_f E 11 12 14 rfl (by decide) (by decide) (by decide)))
                      have m199 : (sI H195 h0 (X.1.2 11 16)).toInt = (sI H139 h0 (X.1.2 11 16)).toInt := congrArg Int32.toInt (up_nI U195 (ne_f E 11 16 14 rfl (by decide) (by decide) (by decide)))
                      have m200 : (sI H195 h0 (X.1.2 11 15)).toInt = (sI H139 h0 (X.1.2 11 15)).toInt := congrArg Int32.toInt (up_nI U195 (ne_f E 11 15 14 rfl (by decide) (by decide) (by decide)))
                      refine lv_goto (tgt := 330) hx hb dX12_next_295 rfl ?_
                      have hz9 := tk_or (sI H195 h0 (X.1.2 11 14)).toInt
                      exact ret H195 locs195 _ _ dX12_next_330 ⟨hKp195, ⟨by omega, by omega, by omega⟩⟩ hC195 hS195
              exact L210 _ H132 locs132 ls (Nat.lt_succ_self _) (by omega) (by omega) (by omega) hC132 hS132 hKp132 hl
            · refine q_if_eq hx hb (a := 0) (by decide) (tgt := 298) dX12_next_202 rfl (fun c201 => ?_) (fun c201 => absurd c201 (by omega))
              refine lv_aload_n hx hb dX12_next_298 rfl (lv_at hl 1 rfl) ?_
              refine lv_aload_n hx hb dX12_next_299 rfl (lv_at hl 1 rfl) ?_
              refine q_getI E hC36 g0 fa_RX12_114 dX12_next_300 (fun v202 ev202 lv202 uv202 => ?_)
              have qv202 := e44.symm.trans ev202; subst qv202
              refine lv_iconst (v := 1) hx hb dX12_next_303 rfl ?_
              refine lv_iadd hx hb dX12_next_304 (lv_topi (fun v203 ev203 => ?_))
              have ev203i : v203.toInt = (v31.toInt + 1) := i_add ev203 rfl (by decide) (by omega) (by omega)
              refine q_put E hC36 hS130 g0 fp_RX12_111 (tv_I ev203i (by omega) (by omega)) rfl rfl dX12_next_305 (fun H204 locs204 hC204 hS204 U204 => ?_)
              have hKp204 := Kp.upO E g0 fp_RX12_111 rfl U204 hKp36
              have e205 := up_I U204
              have m206 : (sI H204 h0 (X.1.2 11 16)).toInt = (v31.toInt + 1) := (congrArg Int32.toInt e205).trans ev203i
              have m207 : (sI H204 h0 (X.1.2 11 12)).toInt = (sI H36 h0 (X.1.2 11 12)).toInt := congrArg Int32.toInt (up_nI U204 (ne_f E 11 12 16 rfl (by decide) (by decide) (by decide)))
              have m208 : (sI H204 h0 (X.1.2 11 14)).toInt = (sI H36 h0 (X.1.2 11 14)).toInt := congrArg Int32.toInt (up_nI U204 (ne_f E 11 14 16 rfl (by decide) (by decide) (by decide)))
              have m209 := congrArg tk m208
              have m210 : (sI H204 h0 (X.1.2 11 15)).toInt = (sI H36 h0 (X.1.2 11 15)).toInt := congrArg Int32.toInt (up_nI U204 (ne_f E 11 15 16 rfl (by decide) (by decide) (by decide)))
              refine lv_aload_n hx hb dX12_next_308 rfl (lv_at hl 1 rfl) ?_
              refine lv_iload_n hx hb dX12_next_309 rfl (lv_at hl 0 rfl) ?_
              refine q_put E hC204 hS204 g0 fp_RX12_139 tv_F rfl rfl dX12_next_310 (fun H211 locs211 hC211 hS211 U211 => ?_)
              have hKp211 := Kp.upO E g0 fp_RX12_139 rfl U211 hKp204
              have e212 := up_I U211
              have m213 : (sI H211 h0 (X.1.2 11 12)).toInt = (sI H204 h0 (X.1.2 11 12)).toInt := congrArg Int32.toInt (up_nI U211 (ne_f E 11 12 17 rfl (by decide) (by decide) (by decide)))
              have m214 : (sI H211 h0 (X.1.2 11 14)).toInt = (sI H204 h0 (X.1.2 11 14)).toInt := congrArg Int32.toInt (up_nI U211 (ne_f E 11 14 17 rfl (by decide) (by decide) (by decide)))
              have m215 := congrArg tk m214
              have m216 : (sI H211 h0 (X.1.2 11 16)).toInt = (sI H204 h0 (X.1.2 11 16)).toInt := congrArg Int32.toInt (up_nI U211 (ne_f E 11 16 17 rfl (by decide) (by decide) (by decide)))
              have m217 : (sI H211 h0 (X.1.2 11 15)).toInt = (sI H204 h0 (X.1.2 11 15)).toInt := congrArg Int32.toInt (up_nI U211 (ne_f E 11 15 17 rfl (by decide) (by decide) (by decide)))
              refine lv_aload_n hx hb dX12_next_313 rfl (lv_at hl 1 rfl) ?_
              refine lv_aload_n hx hb dX12_next_314 rfl (lv_at hl 1 rfl) ?_
              refine lv_iload_n hx hb dX12_next_315 rfl (lv_at hl 0 rfl) ?_
              refine q_goIp (q_runV (As := [.int v50]) (rest := [.ref h0]) E hC211 hS211 (m_X12_isSignByte l X Γ H211 hC211 h0 g0 v50 (a1 := v50.toInt) rfl ca gca uc) cw_X12_isSignByte cl_RX12_142 g0 ⟨rfl, rfl⟩ rfl hl.1 rfl (show _ ≤ _ from by simp [Value.category]) (by decide) dX12_next_316) hS211 (fun v218 locs218 hr218 hS218 => ?_)
              rcases hr218 with rfl | rfl
              · refine q_if_eq hx hb (a := 0) (by decide) (tgt := 326) dX12_next_319 rfl (fun c219 => ?_) (fun c219 => absurd c219 (by omega))
                refine lv_iconst (v := 4) hx hb dX12_next_326 rfl ?_
                refine q_put E hC211 hS218 g0 fp_RX12_120 tv_F rfl rfl dX12_next_327 (fun H220 locs220 hC220 hS220 U220 => ?_)
                have hKp220 := Kp.upO E g0 fp_RX12_120 rfl U220 hKp211
                have e221 := up_I U220
                have m222 : (sI H220 h0 (X.1.2 11 14)).toInt = 4 := (congrArg Int32.toInt e221).trans (show (4 : Int32).toInt = 4 from by decide)
                have m223 : (sI H220 h0 (X.1.2 11 12)).toInt = (sI H211 h0 (X.1.2 11 12)).toInt := congrArg Int32.toInt (up_nI U220 (ne_f E 11 12 14 rfl (by decide) (by decide) (by decide)))
                have m224 : (sI H220 h0 (X.1.2 11 16)).toInt = (sI H211 h0 (X.1.2 11 16)).toInt := congrArg Int32.toInt (up_nI U220 (ne_f E 11 16 14 rfl (by decide) (by decide) (by decide)))
                have m225 : (sI H220 h0 (X.1.2 11 15)).toInt = (sI H211 h0 (X.1.2 11 15)).toInt := congrArg Int32.toInt (up_nI U220 (ne_f E 11 15 14 rfl (by decide) (by decide) (by decide)))
                have hz9 := tk_or (sI H220 h0 (X.1.2 11 14)).toInt
                exact ret H220 locs220 _ _ dX12_next_330 ⟨hKp220, ⟨by omega, by omega, by omega⟩⟩ hC220 hS220
              · refine q_if_eq hx hb (a := 1) (by decide) (tgt := 326) dX12_next_319 rfl (fun c226 => absurd c226 (by omega)) (fun c226 => ?_)
                refine lv_iconst (v := 3) hx hb dX12_next_322 rfl ?_
                refine lv_goto (tgt := 327) hx hb dX12_next_323 rfl ?_
                refine q_put E hC211 hS218 g0 fp_RX12_120 tv_F rfl rfl dX12_next_327 (fun H227 locs227 hC227 hS227 U227 => ?_)
                have hKp227 := Kp.upO E g0 fp_RX12_120 rfl U227 hKp211
                have e228 := up_I U227
                have m229 : (sI H227 h0 (X.1.2 11 14)).toInt = 3 := (congrArg Int32.toInt e228).trans (show (3 : Int32).toInt = 3 from by decide)
                have m230 : (sI H227 h0 (X.1.2 11 12)).toInt = (sI H211 h0 (X.1.2 11 12)).toInt := congrArg Int32.toInt (up_nI U227 (ne_f E 11 12 14 rfl (by decide) (by decide) (by decide)))
                have m231 : (sI H227 h0 (X.1.2 11 16)).toInt = (sI H211 h0 (X.1.2 11 16)).toInt := congrArg Int32.toInt (up_nI U227 (ne_f E 11 16 14 rfl (by decide) (by decide) (by decide)))
                have m232 : (sI H227 h0 (X.1.2 11 15)).toInt = (sI H211 h0 (X.1.2 11 15)).toInt := congrArg Int32.toInt (up_nI U227 (ne_f E 11 15 14 rfl (by decide) (by decide) (by decide)))
                have hz9 := tk_or (sI H227 h0 (X.1.2 11 14)).toInt
                exact ret H227 locs227 _ _ dX12_next_330 ⟨hKp227, ⟨by omega, by omega, by omega⟩⟩ hC227 hS227
        · refine lv_aload_n hx hb dX12_next_77 rfl (lv_at hl 0 rfl) ?_
          refine lv_iconst (v := 0) hx hb dX12_next_78 rfl ?_
          refine q_put E hC36 hS36 g0 fp_RX12_120 tv_F rfl rfl dX12_next_79 (fun H233 locs233 hC233 hS233 U233 => ?_)
          have hKp233 := Kp.upO E g0 fp_RX12_120 rfl U233 hKp36
          have e234 := up_I U233
          have m235 : (sI H233 h0 (X.1.2 11 14)).toInt = 0 := (congrArg Int32.toInt e234).trans (show (0 : Int32).toInt = 0 from by decide)
          have m236 : (sI H233 h0 (X.1.2 11 12)).toInt = (sI H36 h0 (X.1.2 11 12)).toInt := congrArg Int32.toInt (up_nI U233 (ne_f E 11 12 14 rfl (by decide) (by decide) (by decide)))
          have m237 : (sI H233 h0 (X.1.2 11 16)).toInt = (sI H36 h0 (X.1.2 11 16)).toInt := congrArg Int32.toInt (up_nI U233 (ne_f E 11 16 14 rfl (by decide) (by decide) (by decide)))
          have m238 : (sI H233 h0 (X.1.2 11 15)).toInt = (sI H36 h0 (X.1.2 11 15)).toInt := congrArg Int32.toInt (up_nI U233 (ne_f E 11 15 14 rfl (by decide) (by decide) (by decide)))
          have hz9 := tk_or (sI H233 h0 (X.1.2 11 14)).toInt
          exact ret H233 locs233 _ _ dX12_next_82 ⟨hKp233, ⟨by omega, by omega, by omega⟩⟩ hC233 hS233
      · refine lv_aload_n hx hb dX12_next_19 rfl (lv_at hl 0 rfl) ?_
        refine lv_aload_n hx hb dX12_next_20 rfl (lv_at hl 0 rfl) ?_
        refine q_getI E hC30 g0 fa_RX12_114 dX12_next_21 (fun v239 ev239 lv239 uv239 => ?_)
        have qv239 := ev31.symm.trans ev239; subst qv239
        refine q_goIp (q_runV (As := [.int v31]) (rest := []) E hC30 hS30 (m_X12_look2 l X Γ H30 hC30 h0 g0 v31 (a1 := v31.toInt) rfl ca gca uc (by omega)) cw_X12_look2 cl_RX12_117 g0 ⟨rfl, rfl⟩ rfl hl.1 rfl (Nat.zero_le _) (by decide) dX12_next_24) hS30 (fun v240 locs240 hr240 hS240 => ?_)
        have f240_0 := hr240
        refine lv_bipush (v := 10) hx hb dX12_next_27 rfl ?_
        refine q_icmp_eq hx hb (a := v240.toInt) (b := 10) rfl (by decide) (tgt := 45) dX12_next_29 rfl (fun c241 => ?_) (fun c241 => ?_)
        · refine lv_aload_n hx hb dX12_next_45 rfl (lv_at hl 0 rfl) ?_
          refine lv_dup hx hb dX12_next_46 rfl ?_
          refine q_getI E hC30 g0 fa_RX12_114 dX12_next_47 (fun v242 ev242 lv242 uv242 => ?_)
          have qv242 := ev31.symm.trans ev242; subst qv242
          refine lv_iconst (v := 1) hx hb dX12_next_50 rfl ?_
          refine lv_iadd hx hb dX12_next_51 (lv_topi (fun v243 ev243 => ?_))
          have ev243i : v243.toInt = (v31.toInt + 1) := i_add ev243 rfl (by decide) (by omega) (by omega)
          refine q_put E hC30 hS240 g0 fp_RX12_114 (tv_I ev243i (by omega) (by omega)) rfl rfl dX12_next_52 (fun H244 locs244 hC244 hS244 U244 => ?_)
          have hKp244 := Kp.upO E g0 fp_RX12_114 rfl U244 hKp30
          have e245 := up_I U244
          have m246 : (sI H244 h0 (X.1.2 11 15)).toInt = (v31.toInt + 1) := (congrArg Int32.toInt e245).trans ev243i
          have m247 : (sI H244 h0 (X.1.2 11 12)).toInt = (sI H30 h0 (X.1.2 11 12)).toInt := congrArg Int32.toInt (up_nI U244 (ne_f E 11 12 15 rfl (by decide) (by decide) (by decide)))
          have m248 : (sI H244 h0 (X.1.2 11 14)).toInt = (sI H30 h0 (X.1.2 11 14)).toInt := congrArg Int32.toInt (up_nI U244 (ne_f E 11 14 15 rfl (by decide) (by decide) (by decide)))
          have m249 := congrArg tk m248
          have m250 : (sI H244 h0 (X.1.2 11 16)).toInt = (sI H30 h0 (X.1.2 11 16)).toInt := congrArg Int32.toInt (up_nI U244 (ne_f E 11 16 15 rfl (by decide) (by decide) (by decide)))
          refine lv_goto (tgt := 8) hx hb dX12_next_55 rfl ?_
          have m1_at : (sI H30 h0 (X.1.2 11 15)).toInt = v31.toInt := (congrArg Int32.toInt ev31).trans rfl
          have m2_at : (sI H244 h0 (X.1.2 11 15)).toInt = (v31.toInt + 1) := (congrArg Int32.toInt e245).trans ev243i
          have m1_textEnd : (sI H30 h0 (X.1.2 11 9)).toInt = v33.toInt := (congrArg Int32.toInt ev33).trans rfl
          have e251 := (up_nI U244 (ne_f E 11 9 15 rfl (by decide) (by decide) (by decide))).trans ev33
          have m2_textEnd : (sI H244 h0 (X.1.2 11 9)).toInt = v33.toInt := (congrArg Int32.toInt e251).trans rfl
          exact ih30 H244 locs244 ls (by omega) (by omega) (by omega) (by omega) hC244 hS244 hKp244 hl
        · refine lv_aload_n hx hb dX12_next_32 rfl (lv_at hl 0 rfl) ?_
          refine lv_aload_n hx hb dX12_next_33 rfl (lv_at hl 0 rfl) ?_
          refine q_getI E hC30 g0 fa_RX12_114 dX12_next_34 (fun v252 ev252 lv252 uv252 => ?_)
          have qv252 := ev31.symm.trans ev252; subst qv252
          refine q_goIp (q_runV (As := [.int v31]) (rest := []) E hC30 hS240 (m_X12_look2 l X Γ H30 hC30 h0 g0 v31 (a1 := v31.toInt) rfl ca gca uc (by omega)) cw_X12_look2 cl_RX12_117 g0 ⟨rfl, rfl⟩ rfl hl.1 rfl (Nat.zero_le _) (by decide) dX12_next_37) hS240 (fun v253 locs253 hr253 hS253 => ?_)
          have f253_0 := hr253
          refine lv_bipush (v := 32) hx hb dX12_next_40 rfl ?_
          refine q_icmp_ne hx hb (a := v253.toInt) (b := 32) rfl (by decide) (tgt := 58) dX12_next_42 rfl (fun c254 => ?_) (fun c254 => ?_)
          · refine lv_aload_n hx hb dX12_next_58 rfl (lv_at hl 0 rfl) ?_
            refine lv_aload_n hx hb dX12_next_59 rfl (lv_at hl 0 rfl) ?_
            refine q_getI E hC30 g0 fa_RX12_114 dX12_next_60 (fun v255 ev255 lv255 uv255 => ?_)
            have qv255 := ev31.symm.trans ev255; subst qv255
            refine q_put E hC30 hS253 g0 fp_RX12_111 (tv_I rfl (by omega) (by omega)) rfl rfl dX12_next_63 (fun H256 locs256 hC256 hS256 U256 => ?_)
            have hKp256 := Kp.upO E g0 fp_RX12_111 rfl U256 hKp30
            have e257 := up_I U256
            have m258 : (sI H256 h0 (X.1.2 11 16)).toInt = v31.toInt := (congrArg Int32.toInt e257).trans rfl
            have m259 : (sI H256 h0 (X.1.2 11 12)).toInt = (sI H30 h0 (X.1.2 11 12)).toInt := congrArg Int32.toInt (up_nI U256 (ne_f E 11 12 16 rfl (by decide) (by decide) (by decide)))
            have m260 : (sI H256 h0 (X.1.2 11 14)).toInt = (sI H30 h0 (X.1.2 11 14)).toInt := congrArg Int32.toInt (up_nI U256 (ne_f E 11 14 16 rfl (by decide) (by decide) (by decide)))
            have m261 := congrArg tk m260
            have m262 : (sI H256 h0 (X.1.2 11 15)).toInt = (sI H30 h0 (X.1.2 11 15)).toInt := congrArg Int32.toInt (up_nI U256 (ne_f E 11 15 16 rfl (by decide) (by decide) (by decide)))
            refine lv_aload_n hx hb dX12_next_66 rfl (lv_at hl 0 rfl) ?_
            have e264 := (up_nI U256 (ne_f E 11 15 16 rfl (by decide) (by decide) (by decide))).trans ev31
            refine q_getI E hC256 g0 fa_RX12_114 dX12_next_67 (fun v263 ev263 lv263 uv263 => ?_)
            have qv263 := e264.symm.trans ev263; subst qv263
            have m265 : (sI H256 h0 (X.1.2 11 15)).toInt = v31.toInt := (congrArg Int32.toInt ev263).trans rfl
            refine lv_aload_n hx hb dX12_next_70 rfl (lv_at hl 0 rfl) ?_
            have e267 := (up_nI U256 (ne_f E 11 9 16 rfl (by decide) (by decide) (by decide))).trans ev33
            refine q_getI E hC256 g0 fa_RX12_108 dX12_next_71 (fun v266 ev266 lv266 uv266 => ?_)
            have qv266 := e267.symm.trans ev266; subst qv266
            refine q_icmp_lt hx hb (a := v31.toInt) (b := v33.toInt) rfl rfl (tgt := 83) dX12_next_74 rfl (fun c268 => ?_) (fun c268 => ?_)
            · refine lv_aload_n hx hb dX12_next_83 rfl (lv_at hl 0 rfl) ?_
              refine lv_aload_n hx hb dX12_next_84 rfl (lv_at hl 0 rfl) ?_
              refine q_getI E hC256 g0 fa_RX12_114 dX12_next_85 (fun v269 ev269 lv269 uv269 => ?_)
              have qv269 := e264.symm.trans ev269; subst qv269
              refine q_goIp (q_runV (As := [.int v31]) (rest := []) E hC256 hS256 (m_X12_look2 l X Γ H256 hC256 h0 g0 v31 (a1 := v31.toInt) rfl ca gca uc (by omega)) cw_X12_look2 cl_RX12_117 g0 ⟨rfl, rfl⟩ rfl hl.1 rfl (Nat.zero_le _) (by decide) dX12_next_88) hS256 (fun v270 locs270 hr270 hS270 => ?_)
              have f270_0 := hr270
              refine lv_istore_n hx hb dX12_next_91 rfl hl (by decide) rfl (fun ls hl => ?_)
              replace hl : lv_has ls 2 [(1, .int v270), (0, .ref h0)] := hl
              refine lv_iload_n hx hb dX12_next_92 rfl (lv_at hl 0 rfl) ?_
              refine q_goIp (q_runS (As := [.int v270]) (rest := []) E hS270 (m_X12_isLetter l X Γ H256 hC256 v270 (a0 := v270.toInt) rfl) cw_X12_isLetter cl_RX12_123 rfl hl.1 rfl (Nat.zero_le _) (by decide) dX12_next_93) hS270 (fun v271 locs271 hr271 hS271 => ?_)
              rcases hr271 with ⟨rfl, f271a⟩ | ⟨rfl, -⟩
              · refine q_if_eq hx hb (a := 1) (by decide) (tgt := 198) dX12_next_96 rfl (fun c272 => absurd c272 (by omega)) (fun c272 => ?_)
                refine lv_aload_n hx hb dX12_next_99 rfl (lv_at hl 1 rfl) ?_
                refine lv_iconst (v := 1) hx hb dX12_next_100 rfl ?_
                refine q_put E hC256 hS271 g0 fp_RX12_120 tv_F rfl rfl dX12_next_101 (fun H273 locs273 hC273 hS273 U273 => ?_)
                have hKp273 := Kp.upO E g0 fp_RX12_120 rfl U273 hKp256
                have e274 := up_I U273
                have m275 : (sI H273 h0 (X.1.2 11 14)).toInt = 1 := (congrArg Int32.toInt e274).trans (show (1 : Int32).toInt = 1 from by decide)
                have m276 : (sI H273 h0 (X.1.2 11 12)).toInt = (sI H256 h0 (X.1.2 11 12)).toInt := congrArg Int32.toInt (up_nI U273 (ne_f E 11 12 14 rfl (by decide) (by decide) (by decide)))
                have m277 : (sI H273 h0 (X.1.2 11 16)).toInt = (sI H256 h0 (X.1.2 11 16)).toInt := congrArg Int32.toInt (up_nI U273 (ne_f E 11 16 14 rfl (by decide) (by decide) (by decide)))
                have m278 : (sI H273 h0 (X.1.2 11 15)).toInt = (sI H256 h0 (X.1.2 11 15)).toInt := congrArg Int32.toInt (up_nI U273 (ne_f E 11 15 14 rfl (by decide) (by decide) (by decide)))
                refine lv_aload_n hx hb dX12_next_104 rfl (lv_at hl 1 rfl) ?_
                refine lv_lconst (v := 0) hx hb dX12_next_105 rfl ?_
                refine q_put E hC273 hS273 g0 fp_RX12_126 tv_J rfl rfl dX12_next_106 (fun H279 locs279 hC279 hS279 U279 => ?_)
                have hKp279 := Kp.upO E g0 fp_RX12_126 rfl U279 hKp273
                have m280 : (sI H279 h0 (X.1.2 11 12)).toInt = (sI H273 h0 (X.1.2 11 12)).toInt := congrArg Int32.toInt (up_nI U279 (ne_f E 11 12 19 rfl (by decide) (by decide) (by decide)))
                have m281 : (sI H279 h0 (X.1.2 11 14)).toInt = (sI H273 h0 (X.1.2 11 14)).toInt := congrArg Int32.toInt (up_nI U279 (ne_f E 11 14 19 rfl (by decide) (by decide) (by decide)))
                have m282 := congrArg tk m281
                have m283 : (sI H279 h0 (X.1.2 11 16)).toInt = (sI H273 h0 (X.1.2 11 16)).toInt := congrArg Int32.toInt (up_nI U279 (ne_f E 11 16 19 rfl (by decide) (by decide) (by decide)))
                have m284 : (sI H279 h0 (X.1.2 11 15)).toInt = (sI H273 h0 (X.1.2 11 15)).toInt := congrArg Int32.toInt (up_nI U279 (ne_f E 11 15 19 rfl (by decide) (by decide) (by decide)))
                have L109 : ∀ (n285 : Nat) (H285 : Heap) (locs285 : List Loc) (ls : Array Slot), (900 - (sI H285 h0 (X.1.2 11 16)).toInt).toNat < n285 → (sI H0 h0 (X.1.2 11 16)).toInt ≤ (sI H285 h0 (X.1.2 11 15)).toInt → (sI H285 h0 (X.1.2 11 15)).toInt ≤ (sI H285 h0 (X.1.2 11 16)).toInt → (sI H285 h0 (X.1.2 11 12)).toInt = (sI H0 h0 (X.1.2 11 12)).toInt → (sI H285 h0 (X.1.2 11 14)).toInt = 1 → Conf X Γ H285 → va_S (AΓ Γ) H0 H285 locs285 → Kp X Γ [1, 6, 7, 8, 9, 10, 11, 12, 14, 15, 16, 17, 19, 22, 24, 26, 28] H0 H285 → lv_has ls 2 [(1, .int v270), (0, .ref h0)] → W p l e (rmL 1) s m args below meth c H285 locs285 0 0 Qz (F0 m 109 ls []) := by
                  intro n285
                  induction n285 with
                  | zero => intro H285 locs285 ls hm285 iv285_0 iv285_1 iv285_2 iv285_3 hC285 hS285 hKp285 hl; exact absurd hm285 (Nat.not_lt_zero _)
                  | succ n285 ih285 =>
                    intro H285 locs285 ls hm285 iv285_0 iv285_1 iv285_2 iv285_3 hC285 hS285 hKp285 hl
                    refine lv_aload_n hx hb dX12_next_109 rfl (lv_at hl 1 rfl) ?_
                    refine lv_aload_n hx hb dX12_next_110 rfl (lv_at hl 1 rfl) ?_
                    refine q_getI E hC285 g0 fa_RX12_111 dX12_next_111 (fun v286 ev286 lv286 uv286 => ?_)
                    have m287 : (sI H285 h0 (X.1.2 11 16)).toInt = v286.toInt := (congrArg Int32.toInt ev286).trans rfl
                    refine q_goIp (q_runV (As := [.int v286]) (rest := []) E hC285 hS285 (m_X12_look2 l X Γ H285 hC285 h0 g0 v286 (a1 := v286.toInt) rfl ca gca uc (by omega)) cw_X12_look2 cl_RX12_117 g0 ⟨rfl, rfl⟩ rfl hl.1 rfl (Nat.zero_le _) (by decide) dX12_next_114) hS285 (fun v288 locs288 hr288 hS288 => ?_)
                    have f288_0 := hr288
                    refine q_goIp (q_runS (As := [.int v288]) (rest := []) E hS288 (m_X12_isLetter l X Γ H285 hC285 v288 (a0 := v288.toInt) rfl) cw_X12_isLetter cl_RX12_123 rfl hl.1 rfl (Nat.zero_le _) (by decide) dX12_next_117) hS288 (fun v289 locs289 hr289 hS289 => ?_)
                    rcases hr289 with ⟨rfl, f289a⟩ | ⟨rfl, -⟩
                    · refine q_if_eq hx hb (a := 1) (by decide) (tgt := 182) dX12_next_120 rfl (fun c290 => absurd c290 (by omega)) (fun c290 => ?_)
                      refine lv_aload_n hx hb dX12_next_123 rfl (lv_at hl 1 rfl) ?_
                      refine lv_aload_n hx hb dX12_next_124 rfl (lv_at hl 1 rfl) ?_
                      refine q_getI E hC285 g0 fa_RX12_111 dX12_next_125 (fun v291 ev291 lv291 uv291 => ?_)
                      have qv291 := ev286.symm.trans ev291; subst qv291
                      refine lv_aload_n hx hb dX12_next_128 rfl (lv_at hl 1 rfl) ?_
                      refine q_getI E hC285 g0 fa_RX12_114 dX12_next_129 (fun v292 ev292 lv292 uv292 => ?_)
                      have m293 : (sI H285 h0 (X.1.2 11 15)).toInt = v292.toInt := (congrArg Int32.toInt ev292).trans rfl
                      refine lv_isub hx hb dX12_next_132 (lv_topi (fun v294 ev294 => ?_))
                      have ev294i : v294.toInt = (v286.toInt - v292.toInt) := i_sub ev294 rfl rfl (by omega) (by omega)
                      refine lv_bipush (v := 8) hx hb dX12_next_133 rfl ?_
                      refine q_icmp_ge hx hb (a := (v286.toInt - v292.toInt)) (b := 8) ev294i (by decide) (tgt := 163) dX12_next_135 rfl (fun c295 => ?_) (fun c295 => ?_)
                      · refine lv_ldc2 (v := (-1)) hx hb E.2.2.2.1 (E.2.2.2.2.1 _ w_1470) dX12_next_163 ?_
                        refine q_put E hC285 hS289 g0 fp_RX12_126 tv_J rfl rfl dX12_next_166 (fun H296 locs296 hC296 hS296 U296 => ?_)
                        have hKp296 := Kp.upO E g0 fp_RX12_126 rfl U296 hKp285
                        have m297 : (sI H296 h0 (X.1.2 11 12)).toInt = (sI H285 h0 (X.1.2 11 12)).toInt := congrArg Int32.toInt (up_nI U296 (ne_f E 11 12 19 rfl (by decide) (by decide) (by decide)))
                        have m298 : (sI H296 h0 (X.1.2 11 14)).toInt = (sI H285 h0 (X.1.2 11 14)).toInt := congrArg Int32.toInt (up_nI U296 (ne_f E 11 14 19 rfl (by decide) (by decide) (by decide)))
                        have m299 := congrArg tk m298
                        have m300 : (sI H296 h0 (X.1.2 11 16)).toInt = (sI H285 h0 (X.1.2 11 16)).toInt := congrArg Int32.toInt (up_nI U296 (ne_f E 11 16 19 rfl (by decide) (by decide) (by decide)))
                        have m301 : (sI H296 h0 (X.1.2 11 15)).toInt = (sI H285 h0 (X.1.2 11 15)).toInt := congrArg Int32.toInt (up_nI U296 (ne_f E 11 15 19 rfl (by decide) (by decide) (by decide)))
                        refine lv_aload_n hx hb dX12_next_169 rfl (lv_at hl 1 rfl) ?_
                        refine lv_dup hx hb dX12_next_170 rfl ?_
                        have e303 := (up_nI U296 (ne_f E 11 16 19 rfl (by decide) (by decide) (by decide))).trans ev286
                        refine q_getI E hC296 g0 fa_RX12_111 dX12_next_171 (fun v302 ev302 lv302 uv302 => ?_)
                        have qv302 := e303.symm.trans ev302; subst qv302
                        have m304 : (sI H296 h0 (X.1.2 11 16)).toInt = v286.toInt := (congrArg Int32.toInt ev302).trans rfl
                        refine lv_iconst (v := 1) hx hb dX12_next_174 rfl ?_
                        refine lv_iadd hx hb dX12_next_175 (lv_topi (fun v305 ev305 => ?_))
                        have ev305i : v305.toInt = (v286.toInt + 1) := i_add ev305 rfl (by decide) (by omega) (by omega)
                        refine q_put E hC296 hS296 g0 fp_RX12_111 (tv_I ev305i (by omega) (by omega)) rfl rfl dX12_next_176 (fun H306 locs306 hC306 hS306 U306 => ?_)
                        have hKp306 := Kp.upO E g0 fp_RX12_111 rfl U306 hKp296
                        have e307 := up_I U306
                        have m308 : (sI H306 h0 (X.1.2 11 16)).toInt = (v286.toInt + 1) := (congrArg Int32.toInt e307).trans ev305i
                        have m309 : (sI H306 h0 (X.1.2 11 12)).toInt = (sI H296 h0 (X.1.2 11 12)).toInt := congrArg Int32.toInt (up_nI U306 (ne_f E 11 12 16 rfl (by decide) (by decide) (by decide)))
                        have m310 : (sI H306 h0 (X.1.2 11 14)).toInt = (sI H296 h0 (X.1.2 11 14)).toInt := congrArg Int32.toInt (up_nI U306 (ne_f E 11 14 16 rfl (by decide) (by decide) (by decide)))
                        have m311 := congrArg tk m310
                        have m312 : (sI H306 h0 (X.1.2 11 15)).toInt = (sI H296 h0 (X.1.2 11 15)).toInt := congrArg Int32.toInt (up_nI U306 (ne_f E 11 15 16 rfl (by decide) (by decide) (by decide)))
                        refine lv_goto (tgt := 109) hx hb dX12_next_179 rfl ?_
                        have m1_behind : (sI H285 h0 (X.1.2 11 16)).toInt = v286.toInt := (congrArg Int32.toInt ev286).trans rfl
                        have m2_behind : (sI H306 h0 (X.1.2 11 16)).toInt = (v286.toInt + 1) := (congrArg Int32.toInt e307).trans ev305i
                        exact ih285 H306 locs306 ls (by omega) (by omega) (by omega) (by omega) (by omega) hC306 hS306 hKp306 hl
                      · refine lv_aload_n hx hb dX12_next_138 rfl (lv_at hl 1 rfl) ?_
                        refine q_getJ E hC285 g0 fa_RX12_126 dX12_next_139 (fun v313 ev313 => ?_)
                        refine lv_ldc2 (v := 32) hx hb E.2.2.2.1 (E.2.2.2.2.1 _ w_1506) dX12_next_142 ?_
                        refine lv_lmul hx hb dX12_next_145 (lv_topl (fun v314 ev314 => ?_))
                        refine lv_aload_n hx hb dX12_next_146 rfl (lv_at hl 1 rfl) ?_
                        refine lv_aload_n hx hb dX12_next_147 rfl (lv_at hl 1 rfl) ?_
                        refine q_getI E hC285 g0 fa_RX12_111 dX12_next_148 (fun v315 ev315 lv315 uv315 => ?_)
                        have qv315 := ev286.symm.trans ev315; subst qv315
                        refine q_goIp (q_runV (As := [.int v286]) (rest := [.long v314, .ref h0]) E hC285 hS289 (m_X12_look2 l X Γ H285 hC285 h0 g0 v286 (a1 := v286.toInt) rfl ca gca uc (by omega)) cw_X12_look2 cl_RX12_117 g0 ⟨rfl, rfl⟩ rfl hl.1 rfl (show _ ≤ _ from by simp [Value.category]) (by decide) dX12_next_151) hS289 (fun v316 locs316 hr316 hS316 => ?_)
                        have f316_0 := hr316
                        refine lv_i2l (v := v316.toInt64) hx hb dX12_next_154 rfl (lv_topl (fun v317 ev317 => ?_))
                        have ev317i : v317.toInt = v316.toInt := l_ofi ev317.symm rfl
                        refine lv_ladd hx hb dX12_next_155 (lv_topl (fun v318 ev318 => ?_))
                        refine lv_ldc2 (v := 96) hx hb E.2.2.2.1 (E.2.2.2.2.1 _ w_1507) dX12_next_156 ?_
                        refine lv_lsub hx hb dX12_next_159 (lv_topl (fun v319 ev319 => ?_))
                        refine lv_goto (tgt := 166) hx hb dX12_next_160 rfl ?_
                        refine q_put E hC285 hS316 g0 fp_RX12_126 tv_J rfl rfl dX12_next_166 (fun H320 locs320 hC320 hS320 U320 => ?_)
                        have hKp320 := Kp.upO E g0 fp_RX12_126 rfl U320 hKp285
                        have m321 : (sI H320 h0 (X.1.2 11 12)).toInt = (sI H285 h0 (X.1.2 11 12)).toInt := congrArg Int32.toInt (up_nI U320 (ne_f E 11 12 19 rfl (by decide) (by decide) (by decide)))
                        have m322 : (sI H320 h0 (X.1.2 11 14)).toInt = (sI H285 h0 (X.1.2 11 14)).toInt := congrArg Int32.toInt (up_nI U320 (ne_f E 11 14 19 rfl (by decide) (by decide) (by decide)))
                        have m323 := congrArg tk m322
                        have m324 : (sI H320 h0 (X.1.2 11 16)).toInt = (sI H285 h0 (X.1.2 11 16)).toInt := congrArg Int32.toInt (up_nI U320 (ne_f E 11 16 19 rfl (by decide) (by decide) (by decide)))
                        have m325 : (sI H320 h0 (X.1.2 11 15)).toInt = (sI H285 h0 (X.1.2 11 15)).toInt := congrArg Int32.toInt (up_nI U320 (ne_f E 11 15 19 rfl (by decide) (by decide) (by decide)))
                        refine lv_aload_n hx hb dX12_next_169 rfl (lv_at hl 1 rfl) ?_
                        refine lv_dup hx hb dX12_next_170 rfl ?_
                        have e327 := (up_nI U320 (ne_f E 11 16 19 rfl (by decide) (by decide) (by decide))).trans ev286
                        refine q_getI E hC320 g0 fa_RX12_111 dX12_next_171 (fun v326 ev326 lv326 uv326 => ?_)
                        have qv326 := e327.symm.trans ev326; subst qv326
                        have m328 : (sI H320 h0 (X.1.2 11 16)).toInt = v286.toInt := (congrArg Int32.toInt ev326).trans rfl
                        refine lv_iconst (v := 1) hx hb dX12_next_174 rfl ?_
                        refine lv_iadd hx hb dX12_next_175 (lv_topi (fun v329 ev329 => ?_))
                        have ev329i : v329.toInt = (v286.toInt + 1) := i_add ev329 rfl (by decide) (by omega) (by omega)
                        refine q_put E hC320 hS320 g0 fp_RX12_111 (tv_I ev329i (by omega) (by omega)) rfl rfl dX12_next_176 (fun H330 locs330 hC330 hS330 U330 => ?_)
                        have hKp330 := Kp.upO E g0 fp_RX12_111 rfl U330 hKp320
                        have e331 := up_I U330
                        have m332 : (sI H330 h0 (X.1.2 11 16)).toInt = (v286.toInt + 1) := (congrArg Int32.toInt e331).trans ev329i
                        have m333 : (sI H330 h0 (X.1.2 11 12)).toInt = (sI H320 h0 (X.1.2 11 12)).toInt := congrArg Int32.toInt (up_nI U330 (ne_f E 11 12 16 rfl (by decide) (by decide) (by decide)))
                        have m334 : (sI H330 h0 (X.1.2 11 14)).toInt = (sI H320 h0 (X.1.2 11 14)).toInt := congrArg Int32.toInt (up_nI U330 (ne_f E 11 14 16 rfl (by decide) (by decide) (by decide)))
                        have m335 := congrArg tk m334
                        have m336 : (sI H330 h0 (X.1.2 11 15)).toInt = (sI H320 h0 (X.1.2 11 15)).toInt := congrArg Int32.toInt (up_nI U330 (ne_f E 11 15 16 rfl (by decide) (by decide) (by decide)))
                        refine lv_goto (tgt := 109) hx hb dX12_next_179 rfl ?_
                        have m1_behind : (sI H285 h0 (X.1.2 11 16)).toInt = v286.toInt := (congrArg Int32.toInt ev286).trans rfl
                        have m2_behind : (sI H330 h0 (X.1.2 11 16)).toInt = (v286.toInt + 1) := (congrArg Int32.toInt e331).trans ev329i
                        exact ih285 H330 locs330 ls (by omega) (by omega) (by omega) (by omega) (by omega) hC330 hS330 hKp330 hl
                    · refine q_if_eq hx hb (a := 0) (by decide) (tgt := 182) dX12_next_120 rfl (fun c337 => ?_) (fun c337 => absurd c337 (by omega))
                      refine lv_aload_n hx hb dX12_next_182 rfl (lv_at hl 1 rfl) ?_
                      refine lv_aload_n hx hb dX12_next_183 rfl (lv_at hl 1 rfl) ?_
                      refine q_getI E hC285 g0 fa_RX12_111 dX12_next_184 (fun v338 ev338 lv338 uv338 => ?_)
                      have qv338 := ev286.symm.trans ev338; subst qv338
                      refine lv_aload_n hx hb dX12_next_187 rfl (lv_at hl 1 rfl) ?_
                      refine q_getI E hC285 g0 fa_RX12_114 dX12_next_188 (fun v339 ev339 lv339 uv339 => ?_)
                      have m340 : (sI H285 h0 (X.1.2 11 15)).toInt = v339.toInt := (congrArg Int32.toInt ev339).trans rfl
                      refine lv_isub hx hb dX12_next_191 (lv_topi (fun v341 ev341 => ?_))
                      have ev341i : v341.toInt = (v286.toInt - v339.toInt) := i_sub ev341 rfl rfl (by omega) (by omega)
                      refine q_put E hC285 hS289 g0 fp_RX12_133 tv_F rfl rfl dX12_next_192 (fun H342 locs342 hC342 hS342 U342 => ?_)
                      have hKp342 := Kp.upO E g0 fp_RX12_133 rfl U342 hKp285
                      have e343 := up_I U342
                      have m344 : (sI H342 h0 (X.1.2 11 12)).toInt = (sI H285 h0 (X.1.2 11 12)).toInt := congrArg Int32.toInt (up_nI U342 (ne_f E 11 12 18 rfl (by decide) (by decide) (by decide)))
                      have m345 : (sI H342 h0 (X.1.2 11 14)).toInt = (sI H285 h0 (X.1.2 11 14)).toInt := congrArg Int32.toInt (up_nI U342 (ne_f E 11 14 18 rfl (by decide) (by decide) (by decide)))
                      have m346 := congrArg tk m345
                      have m347 : (sI H342 h0 (X.1.2 11 16)).toInt = (sI H285 h0 (X.1.2 11 16)).toInt := congrArg Int32.toInt (up_nI U342 (ne_f E 11 16 18 rfl (by decide) (by decide) (by decide)))
                      have m348 : (sI H342 h0 (X.1.2 11 15)).toInt = (sI H285 h0 (X.1.2 11 15)).toInt := congrArg Int32.toInt (up_nI U342 (ne_f E 11 15 18 rfl (by decide) (by decide) (by decide)))
                      refine lv_goto (tgt := 330) hx hb dX12_next_195 rfl ?_
                      have hz9 := tk_or (sI H342 h0 (X.1.2 11 14)).toInt
                      exact ret H342 locs342 _ _ dX12_next_330 ⟨hKp342, ⟨by omega, by omega, by omega⟩⟩ hC342 hS342
                exact L109 _ H279 locs279 ls (Nat.lt_succ_self _) (by omega) (by omega) (by omega) (by omega) hC279 hS279 hKp279 hl
              · refine q_if_eq hx hb (a := 0) (by decide) (tgt := 198) dX12_next_96 rfl (fun c349 => ?_) (fun c349 => absurd c349 (by omega))
                refine lv_iload_n hx hb dX12_next_198 rfl (lv_at hl 0 rfl) ?_
                refine q_goIp (q_runS (As := [.int v270]) (rest := []) E hS271 (m_X12_isDigit l X Γ H256 hC256 v270 (a0 := v270.toInt) rfl) cw_X12_isDigit cl_RX12_136 rfl hl.1 rfl (Nat.zero_le _) (by decide) dX12_next_199) hS271 (fun v350 locs350 hr350 hS350 => ?_)
                rcases hr350 with ⟨rfl, f350a⟩ | ⟨rfl, -⟩
                · refine q_if_eq hx hb (a := 1) (by decide) (tgt := 298) dX12_next_202 rfl (fun c351 => absurd c351 (by omega)) (fun c351 => ?_)
                  refine lv_aload_n hx hb dX12_next_205 rfl (lv_at hl 1 rfl) ?_
                  refine lv_iconst (v := 0) hx hb dX12_next_206 rfl ?_
                  refine q_put E hC256 hS350 g0 fp_RX12_139 tv_F rfl rfl dX12_next_207 (fun H352 locs352 hC352 hS352 U352 => ?_)
                  have hKp352 := Kp.upO E g0 fp_RX12_139 rfl U352 hKp256
                  have e353 := up_I U352
                  have m354 : (sI H352 h0 (X.1.2 11 12)).toInt = (sI H256 h0 (X.1.2 11 12)).toInt := congrArg Int32.toInt (up_nI U352 (ne_f E 11 12 17 rfl (by decide) (by decide) (by decide)))
                  have m355 : (sI H352 h0 (X.1.2 11 14)).toInt = (sI H256 h0 (X.1.2 11 14)).toInt := congrArg Int32.toInt (up_nI U352 (ne_f E 11 14 17 rfl (by decide) (by decide) (by decide)))
                  have m356 := congrArg tk m355
                  have m357 : (sI H352 h0 (X.1.2 11 16)).toInt = (sI H256 h0 (X.1.2 11 16)).toInt := congrArg Int32.toInt (up_nI U352 (ne_f E 11 16 17 rfl (by decide) (by decide) (by decide)))
                  have m358 : (sI H352 h0 (X.1.2 11 15)).toInt = (sI H256 h0 (X.1.2 11 15)).toInt := congrArg Int32.toInt (up_nI U352 (ne_f E 11 15 17 rfl (by decide) (by decide) (by decide)))
                  have L210 : ∀ (n359 : Nat) (H359 : Heap) (locs359 : List Loc) (ls : Array Slot), (900 - (sI H359 h0 (X.1.2 11 16)).toInt).toNat < n359 → (sI H0 h0 (X.1.2 11 16)).toInt ≤ (sI H359 h0 (X.1.2 11 15)).toInt → (sI H359 h0 (X.1.2 11 15)).toInt ≤ (sI H359 h0 (X.1.2 11 16)).toInt → (sI H359 h0 (X.1.2 11 12)).toInt = (sI H0 h0 (X.1.2 11 12)).toInt → Conf X Γ H359 → va_S (AΓ Γ) H0 H359 locs359 → Kp X Γ [1, 6, 7, 8, 9, 10, 11, 12, 14, 15, 16, 17, 19, 22, 24, 26, 28] H0 H359 → lv_has ls 2 [(1, .int v270), (0, .ref h0)] → W p l e (rmL 1) s m args below meth c H359 locs359 0 0 Qz (F0 m 210 ls []) := by
                    intro n359
                    induction n359 with
                    | zero => intro H359 locs359 ls hm359 iv359_0 iv359_1 iv359_2 hC359 hS359 hKp359 hl; exact absurd hm359 (Nat.not_lt_zero _)
                    | succ n359 ih359 =>
                      intro H359 locs359 ls hm359 iv359_0 iv359_1 iv359_2 hC359 hS359 hKp359 hl
                      refine lv_aload_n hx hb dX12_next_210 rfl (lv_at hl 1 rfl) ?_
                      refine lv_aload_n hx hb dX12_next_211 rfl (lv_at hl 1 rfl) ?_
                      refine q_getI E hC359 g0 fa_RX12_111 dX12_next_212 (fun v360 ev360 lv360 uv360 => ?_)
                      have m361 : (sI H359 h0 (X.1.2 11 16)).toInt = v360.toInt := (congrArg Int32.toInt ev360).trans rfl
                      refine q_goIp (q_runV (As := [.int v360]) (rest := []) E hC359 hS359 (m_X12_look2 l X Γ H359 hC359 h0 g0 v360 (a1 := v360.toInt) rfl ca gca uc (by omega)) cw_X12_look2 cl_RX12_117 g0 ⟨rfl, rfl⟩ rfl hl.1 rfl (Nat.zero_le _) (by decide) dX12_next_215) hS359 (fun v362 locs362 hr362 hS362 => ?_)
                      have f362_0 := hr362
                      refine q_goIp (q_runS (As := [.int v362]) (rest := []) E hS362 (m_X12_isDigit l X Γ H359 hC359 v362 (a0 := v362.toInt) rfl) cw_X12_isDigit cl_RX12_136 rfl hl.1 rfl (Nat.zero_le _) (by decide) dX12_next_218) hS362 (fun v363 locs363 hr363 hS363 => ?_)
                      rcases hr363 with ⟨rfl, f363a⟩ | ⟨rfl, -⟩
                      · refine q_if_eq hx hb (a := 1) (by decide) (tgt := 273) dX12_next_221 rfl (fun c364 => absurd c364 (by omega)) (fun c364 => ?_)
                        refine lv_aload_n hx hb dX12_next_224 rfl (lv_at hl 1 rfl) ?_
                        refine q_getI E hC359 g0 fa_RX12_111 dX12_next_225 (fun v365 ev365 lv365 uv365 => ?_)
                        have qv365 := ev360.symm.trans ev365; subst qv365
                        refine lv_aload_n hx hb dX12_next_228 rfl (lv_at hl 1 rfl) ?_
                        refine q_getI E hC359 g0 fa_RX12_114 dX12_next_229 (fun v366 ev366 lv366 uv366 => ?_)
                        have m367 : (sI H359 h0 (X.1.2 11 15)).toInt = v366.toInt := (congrArg Int32.toInt ev366).trans rfl
                        refine lv_isub hx hb dX12_next_232 (lv_topi (fun v368 ev368 => ?_))
                        have ev368i : v368.toInt = (v360.toInt - v366.toInt) := i_sub ev368 rfl rfl (by omega) (by omega)
                        refine lv_iconst (v := 4) hx hb dX12_next_233 rfl ?_
                        refine q_icmp_ge hx hb (a := (v360.toInt - v366.toInt)) (b := 4) ev368i (by decide) (tgt := 260) dX12_next_234 rfl (fun c369 => ?_) (fun c369 => ?_)
                        · refine lv_aload_n hx hb dX12_next_260 rfl (lv_at hl 1 rfl) ?_
                          refine lv_dup hx hb dX12_next_261 rfl ?_
                          refine q_getI E hC359 g0 fa_RX12_111 dX12_next_262 (fun v370 ev370 lv370 uv370 => ?_)
                          have qv370 := ev360.symm.trans ev370; subst qv370
                          refine lv_iconst (v := 1) hx hb dX12_next_265 rfl ?_
                          refine lv_iadd hx hb dX12_next_266 (lv_topi (fun v371 ev371 => ?_))
                          have ev371i : v371.toInt = (v360.toInt + 1) := i_add ev371 rfl (by decide) (by omega) (by omega)
                          refine q_put E hC359 hS363 g0 fp_RX12_111 (tv_I ev371i (by omega) (by omega)) rfl rfl dX12_next_267 (fun H372 locs372 hC372 hS372 U372 => ?_)
                          have hKp372 := Kp.upO E g0 fp_RX12_111 rfl U372 hKp359
                          have e373 := up_I U372
                          have m374 : (sI H372 h0 (X.1.2 11 16)).toInt = (v360.toInt + 1) := (congrArg Int32.toInt e373).trans ev371i
                          have m375 : (sI H372 h0 (X.1.2 11 12)).toInt = (sI H359 h0 (X.1.2 11 12)).toInt := congrArg Int32.toInt (up_nI U372 (ne_f E 11 12 16 rfl (by decide) (by decide) (by decide)))
                          have m376 : (sI H372 h0 (X.1.2 11 14)).toInt = (sI H359 h0 (X.1.2 11 14)).toInt := congrArg Int32.toInt (up_nI U372 (ne_f E 11 14 16 rfl (by decide) (by decide) (by decide)))
                          have m377 := congrArg tk m376
                          have m378 : (sI H372 h0 (X.1.2 11 15)).toInt = (sI H359 h0 (X.1.2 11 15)).toInt := congrArg Int32.toInt (up_nI U372 (ne_f E 11 15 16 rfl (by decide) (by decide) (by decide)))
                          refine lv_goto (tgt := 210) hx hb dX12_next_270 rfl ?_
                          have m1_behind : (sI H359 h0 (X.1.2 11 16)).toInt = v360.toInt := (congrArg Int32.toInt ev360).trans rfl
                          have m2_behind : (sI H372 h0 (X.1.2 11 16)).toInt = (v360.toInt + 1) := (congrArg Int32.toInt e373).trans ev371i
                          exact ih359 H372 locs372 ls (by omega) (by omega) (by omega) (by omega) hC372 hS372 hKp372 hl
                        · refine lv_aload_n hx hb dX12_next_237 rfl (lv_at hl 1 rfl) ?_
                          refine lv_bipush (v := 10) hx hb dX12_next_238 rfl ?_
                          refine lv_aload_n hx hb dX12_next_240 rfl (lv_at hl 1 rfl) ?_
                          refine q_getI E hC359 g0 fa_RX12_139 dX12_next_241 (fun v379 ev379 _ _ => ?_)
                          refine lv_imul hx hb dX12_next_244 (lv_topi (fun v380 ev380 => ?_))
                          refine lv_aload_n hx hb dX12_next_245 rfl (lv_at hl 1 rfl) ?_
                          refine lv_aload_n hx hb dX12_next_246 rfl (lv_at hl 1 rfl) ?_
                          refine q_getI E hC359 g0 fa_RX12_111 dX12_next_247 (fun v381 ev381 lv381 uv381 => ?_)
                          have qv381 := ev360.symm.trans ev381; subst qv381
                          refine q_goIp (q_runV (As := [.int v360]) (rest := [.int v380, .ref h0]) E hC359 hS363 (m_X12_look2 l X Γ H359 hC359 h0 g0 v360 (a1 := v360.toInt) rfl ca gca uc (by omega)) cw_X12_look2 cl_RX12_117 g0 ⟨rfl, rfl⟩ rfl hl.1 rfl (show _ ≤ _ from by simp [Value.category]) (by decide) dX12_next_250) hS363 (fun v382 locs382 hr382 hS382 => ?_)
                          have f382_0 := hr382
                          refine lv_iadd hx hb dX12_next_253 (lv_topi (fun v383 ev383 => ?_))
                          refine lv_bipush (v := 48) hx hb dX12_next_254 rfl ?_
                          refine lv_isub hx hb dX12_next_256 (lv_topi (fun v384 ev384 => ?_))
                          refine q_put E hC359 hS382 g0 fp_RX12_139 tv_F rfl rfl dX12_next_257 (fun H385 locs385 hC385 hS385 U385 => ?_)
                          have hKp385 := Kp.upO E g0 fp_RX12_139 rfl U385 hKp359
                          have e386 := up_I U385
                          have m387 : (sI H385 h0 (X.1.2 11 12)).toInt = (sI H359 h0 (X.1.2 11 12)).toInt := congrArg Int32.toInt (up_nI U385 (ne_f E 11 12 17 rfl (by decide) (by decide) (by decide)))
                          have m388 : (sI H385 h0 (X.1.2 11 14)).toInt = (sI H359 h0 (X.1.2 11 14)).toInt := congrArg Int32.toInt (up_nI U385 (ne_f E 11 14 17 rfl (by decide) (by decide) (by decide)))
                          have m389 := congrArg tk m388
                          have m390 : (sI H385 h0 (X.1.2 11 16)).toInt = (sI H359 h0 (X.1.2 11 16)).toInt := congrArg Int32.toInt (up_nI U385 (ne_f E 11 16 17 rfl (by decide) (by decide) (by decide)))
                          have m391 : (sI H385 h0 (X.1.2 11 15)).toInt = (sI H359 h0 (X.1.2 11 15)).toInt := congrArg Int32.toInt (up_nI U385 (ne_f E 11 15 17 rfl (by decide) (by decide) (by decide)))
                          refine lv_aload_n hx hb dX12_next_260 rfl (lv_at hl 1 rfl) ?_
                          refine lv_dup hx hb dX12_next_261 rfl ?_
                          have e393 := (up_nI U385 (ne_f E 11 16 17 rfl (by decide) (by decide) (by decide))).trans ev360
                          refine q_getI E hC385 g0 fa_RX12_111 dX12_next_262 (fun v392 ev392 lv392 uv392 => ?_)
                          have qv392 := e393.symm.trans ev392; subst qv392
                          have m394 : (sI H385 h0 (X.1.2 11 16)).toInt = v360.toInt := (congrArg Int32.toInt ev392).trans rfl
                          refine lv_iconst (v := 1) hx hb dX12_next_265 rfl ?_
                          refine lv_iadd hx hb dX12_next_266 (lv_topi (fun v395 ev395 => ?_))
                          have ev395i : v395.toInt = (v360.toInt + 1) := i_add ev395 rfl (by decide) (by omega) (by omega)
                          refine q_put E hC385 hS385 g0 fp_RX12_111 (tv_I ev395i (by omega) (by omega)) rfl rfl dX12_next_267 (fun H396 locs396 hC396 hS396 U396 => ?_)
                          have hKp396 := Kp.upO E g0 fp_RX12_111 rfl U396 hKp385
                          have e397 := up_I U396
                          have m398 : (sI H396 h0 (X.1.2 11 16)).toInt = (v360.toInt + 1) := (congrArg Int32.toInt e397).trans ev395i
                          have m399 : (sI H396 h0 (X.1.2 11 12)).toInt = (sI H385 h0 (X.1.2 11 12)).toInt := congrArg Int32.toInt (up_nI U396 (ne_f E 11 12 16 rfl (by decide) (by decide) (by decide)))
                          have m400 : (sI H396 h0 (X.1.2 11 14)).toInt = (sI H385 h0 (X.1.2 11 14)).toInt := congrArg Int32.toInt (up_nI U396 (ne_f E 11 14 16 rfl (by decide) (by decide) (by decide)))
                          have m401 := congrArg tk m400
                          have m402 : (sI H396 h0 (X.1.2 11 15)).toInt = (sI H385 h0 (X.1.2 11 15)).toInt := congrArg Int32.toInt (up_nI U396 (ne_f E 11 15 16 rfl (by decide) (by decide) (by decide)))
                          refine lv_goto (tgt := 210) hx hb dX12_next_270 rfl ?_
                          have m1_behind : (sI H359 h0 (X.1.2 11 16)).toInt = v360.toInt := (congrArg Int32.toInt ev360).trans rfl
                          have m2_behind : (sI H396 h0 (X.1.2 11 16)).toInt = (v360.toInt + 1) := (congrArg Int32.toInt e397).trans ev395i
                          exact ih359 H396 locs396 ls (by omega) (by omega) (by omega) (by omega) hC396 hS396 hKp396 hl
                      · refine q_if_eq hx hb (a := 0) (by decide) (tgt := 273) dX12_next_221 rfl (fun c403 => ?_) (fun c403 => absurd c403 (by omega))
                        refine lv_aload_n hx hb dX12_next_273 rfl (lv_at hl 1 rfl) ?_
                        refine lv_aload_n hx hb dX12_next_274 rfl (lv_at hl 1 rfl) ?_
                        refine q_getI E hC359 g0 fa_RX12_111 dX12_next_275 (fun v404 ev404 lv404 uv404 => ?_)
                        have qv404 := ev360.symm.trans ev404; subst qv404
                        refine lv_aload_n hx hb dX12_next_278 rfl (lv_at hl 1 rfl) ?_
                        refine q_getI E hC359 g0 fa_RX12_114 dX12_next_279 (fun v405 ev405 lv405 uv405 => ?_)
                        have m406 : (sI H359 h0 (X.1.2 11 15)).toInt = v405.toInt := (congrArg Int32.toInt ev405).trans rfl
                        refine lv_isub hx hb dX12_next_282 (lv_topi (fun v407 ev407 => ?_))
                        have ev407i : v407.toInt = (v360.toInt - v405.toInt) := i_sub ev407 rfl rfl (by omega) (by omega)
                        refine lv_iconst (v := 4) hx hb dX12_next_283 rfl ?_
                        refine q_icmp_le hx hb (a := (v360.toInt - v405.toInt)) (b := 4) ev407i (by decide) (tgt := 291) dX12_next_284 rfl (fun c408 => ?_) (fun c408 => ?_)
                        · refine lv_iconst (v := 2) hx hb dX12_next_291 rfl ?_
                          refine q_put E hC359 hS363 g0 fp_RX12_120 tv_F rfl rfl dX12_next_292 (fun H409 locs409 hC409 hS409 U409 => ?_)
                          have hKp409 := Kp.upO E g0 fp_RX12_120 rfl U409 hKp359
                          have e410 := up_I U409
                          have m411 : (sI H409 h0 (X.1.2 11 14)).toInt = 2 := (congrArg Int32.toInt e410).trans (show (2 : Int32).toInt = 2 from by decide)
                          have m412 : (sI H409 h0 (X.1.2 11 12)).toInt = (sI H359 h0 (X.1.2 11 12)).toInt := congrArg Int32.toInt (up_nI U409 (ne_f E 11 12 14 rfl (by decide) (by decide) (by decide)))
                          have m413 : (sI H409 h0 (X.1.2 11 16)).toInt = (sI H359 h0 (X.1.2 11 16)).toInt := congrArg Int32.toInt (up_nI U409 (ne_f E 11 16 14 rfl (by decide) (by decide) (by decide)))
                          have m414 : (sI H409 h0 (X.1.2 11 15)).toInt = (sI H359 h0 (X.1.2 11 15)).toInt := congrArg Int32.toInt (up_nI U409 (ne_f E 11 15 14 rfl (by decide) (by decide) (by decide)))
                          refine lv_goto (tgt := 330) hx hb dX12_next_295 rfl ?_
                          have hz9 := tk_or (sI H409 h0 (X.1.2 11 14)).toInt
                          exact ret H409 locs409 _ _ dX12_next_330 ⟨hKp409, ⟨by omega, by omega, by omega⟩⟩ hC409 hS409
                        · refine lv_iconst (v := 4) hx hb dX12_next_287 rfl ?_
                          refine lv_goto (tgt := 292) hx hb dX12_next_288 rfl ?_
                          refine q_put E hC359 hS363 g0 fp_RX12_120 tv_F rfl rfl dX12_next_292 (fun H415 locs415 hC415 hS415 U415 => ?_)
                          have hKp415 := Kp.upO E g0 fp_RX12_120 rfl U415 hKp359
                          have e416 := up_I U415
                          have m417 : (sI H415 h0 (X.1.2 11 14)).toInt = 4 := (congrArg Int32.toInt e416).trans (show (4 : Int32).toInt = 4 from by decide)
                          have m418 : (sI H415 h0 (X.1.2 11 12)).toInt = (sI H359 h0 (X.1.2 11 12)).toInt := congrArg Int32.toInt (up_nI U415 (ne_f E 11 12 14 rfl (by decide) (by decide) (by decide)))
                          have m419 : (sI H415 h0 (X.1.2 11 16)).toInt = (sI H359 h0 (X.1.2 11 16)).toInt := congrArg Int32.toInt (up_nI U415 (ne_f E 11 16 14 rfl (by decide) (by decide) (by decide)))
                          have m420 : (sI H415 h0 (X.1.2 11 15)).toInt = (sI H359 h0 (X.1.2 11 15)).toInt := congrArg Int32.toInt (up_nI U415 (ne_f E 11 15 14 rfl (by decide) (by decide) (by decide)))
                          refine lv_goto (tgt := 330) hx hb dX12_next_295 rfl ?_
                          have hz9 := tk_or (sI H415 h0 (X.1.2 11 14)).toInt
                          exact ret H415 locs415 _ _ dX12_next_330 ⟨hKp415, ⟨by omega, by omega, by omega⟩⟩ hC415 hS415
                  exact L210 _ H352 locs352 ls (Nat.lt_succ_self _) (by omega) (by omega) (by omega) hC352 hS352 hKp352 hl
                · refine q_if_eq hx hb (a := 0) (by decide) (tgt := 298) dX12_next_202 rfl (fun c421 => ?_) (fun c421 => absurd c421 (by omega))
                  refine lv_aload_n hx hb dX12_next_298 rfl (lv_at hl 1 rfl) ?_
                  refine lv_aload_n hx hb dX12_next_299 rfl (lv_at hl 1 rfl) ?_
                  refine q_getI E hC256 g0 fa_RX12_114 dX12_next_300 (fun v422 ev422 lv422 uv422 => ?_)
                  have qv422 := e264.symm.trans ev422; subst qv422
                  refine lv_iconst (v := 1) hx hb dX12_next_303 rfl ?_
                  refine lv_iadd hx hb dX12_next_304 (lv_topi (fun v423 ev423 => ?_))
                  have ev423i : v423.toInt = (v31.toInt + 1) := i_add ev423 rfl (by decide) (by omega) (by omega)
                  refine q_put E hC256 hS350 g0 fp_RX12_111 (tv_I ev423i (by omega) (by omega)) rfl rfl dX12_next_305 (fun H424 locs424 hC424 hS424 U424 => ?_)
                  have hKp424 := Kp.upO E g0 fp_RX12_111 rfl U424 hKp256
                  have e425 := up_I U424
                  have m426 : (sI H424 h0 (X.1.2 11 16)).toInt = (v31.toInt + 1) := (congrArg Int32.toInt e425).trans ev423i
                  have m427 : (sI H424 h0 (X.1.2 11 12)).toInt = (sI H256 h0 (X.1.2 11 12)).toInt := congrArg Int32.toInt (up_nI U424 (ne_f E 11 12 16 rfl (by decide) (by decide) (by decide)))
                  have m428 : (sI H424 h0 (X.1.2 11 14)).toInt = (sI H256 h0 (X.1.2 11 14)).toInt := congrArg Int32.toInt (up_nI U424 (ne_f E 11 14 16 rfl (by decide) (by decide) (by decide)))
                  have m429 := congrArg tk m428
                  have m430 : (sI H424 h0 (X.1.2 11 15)).toInt = (sI H256 h0 (X.1.2 11 15)).toInt := congrArg Int32.toInt (up_nI U424 (ne_f E 11 15 16 rfl (by decide) (by decide) (by decide)))
                  refine lv_aload_n hx hb dX12_next_308 rfl (lv_at hl 1 rfl) ?_
                  refine lv_iload_n hx hb dX12_next_309 rfl (lv_at hl 0 rfl) ?_
                  refine q_put E hC424 hS424 g0 fp_RX12_139 tv_F rfl rfl dX12_next_310 (fun H431 locs431 hC431 hS431 U431 => ?_)
                  have hKp431 := Kp.upO E g0 fp_RX12_139 rfl U431 hKp424
                  have e432 := up_I U431
                  have m433 : (sI H431 h0 (X.1.2 11 12)).toInt = (sI H424 h0 (X.1.2 11 12)).toInt := congrArg Int32.toInt (up_nI U431 (ne_f E 11 12 17 rfl (by decide) (by decide) (by decide)))
                  have m434 : (sI H431 h0 (X.1.2 11 14)).toInt = (sI H424 h0 (X.1.2 11 14)).toInt := congrArg Int32.toInt (up_nI U431 (ne_f E 11 14 17 rfl (by decide) (by decide) (by decide)))
                  have m435 := congrArg tk m434
                  have m436 : (sI H431 h0 (X.1.2 11 16)).toInt = (sI H424 h0 (X.1.2 11 16)).toInt := congrArg Int32.toInt (up_nI U431 (ne_f E 11 16 17 rfl (by decide) (by decide) (by decide)))
                  have m437 : (sI H431 h0 (X.1.2 11 15)).toInt = (sI H424 h0 (X.1.2 11 15)).toInt := congrArg Int32.toInt (up_nI U431 (ne_f E 11 15 17 rfl (by decide) (by decide) (by decide)))
                  refine lv_aload_n hx hb dX12_next_313 rfl (lv_at hl 1 rfl) ?_
                  refine lv_aload_n hx hb dX12_next_314 rfl (lv_at hl 1 rfl) ?_
                  refine lv_iload_n hx hb dX12_next_315 rfl (lv_at hl 0 rfl) ?_
                  refine q_goIp (q_runV (As := [.int v270]) (rest := [.ref h0]) E hC431 hS431 (m_X12_isSignByte l X Γ H431 hC431 h0 g0 v270 (a1 := v270.toInt) rfl ca gca uc) cw_X12_isSignByte cl_RX12_142 g0 ⟨rfl, rfl⟩ rfl hl.1 rfl (show _ ≤ _ from by simp [Value.category]) (by decide) dX12_next_316) hS431 (fun v438 locs438 hr438 hS438 => ?_)
                  rcases hr438 with rfl | rfl
                  · refine q_if_eq hx hb (a := 0) (by decide) (tgt := 326) dX12_next_319 rfl (fun c439 => ?_) (fun c439 => absurd c439 (by omega))
                    refine lv_iconst (v := 4) hx hb dX12_next_326 rfl ?_
                    refine q_put E hC431 hS438 g0 fp_RX12_120 tv_F rfl rfl dX12_next_327 (fun H440 locs440 hC440 hS440 U440 => ?_)
                    have hKp440 := Kp.upO E g0 fp_RX12_120 rfl U440 hKp431
                    have e441 := up_I U440
                    have m442 : (sI H440 h0 (X.1.2 11 14)).toInt = 4 := (congrArg Int32.toInt e441).trans (show (4 : Int32).toInt = 4 from by decide)
                    have m443 : (sI H440 h0 (X.1.2 11 12)).toInt = (sI H431 h0 (X.1.2 11 12)).toInt := congrArg Int32.toInt (up_nI U440 (ne_f E 11 12 14 rfl (by decide) (by decide) (by decide)))
                    have m444 : (sI H440 h0 (X.1.2 11 16)).toInt = (sI H431 h0 (X.1.2 11 16)).toInt := congrArg Int32.toInt (up_nI U440 (ne_f E 11 16 14 rfl (by decide) (by decide) (by decide)))
                    have m445 : (sI H440 h0 (X.1.2 11 15)).toInt = (sI H431 h0 (X.1.2 11 15)).toInt := congrArg Int32.toInt (up_nI U440 (ne_f E 11 15 14 rfl (by decide) (by decide) (by decide)))
                    have hz9 := tk_or (sI H440 h0 (X.1.2 11 14)).toInt
                    exact ret H440 locs440 _ _ dX12_next_330 ⟨hKp440, ⟨by omega, by omega, by omega⟩⟩ hC440 hS440
                  · refine q_if_eq hx hb (a := 1) (by decide) (tgt := 326) dX12_next_319 rfl (fun c446 => absurd c446 (by omega)) (fun c446 => ?_)
                    refine lv_iconst (v := 3) hx hb dX12_next_322 rfl ?_
                    refine lv_goto (tgt := 327) hx hb dX12_next_323 rfl ?_
                    refine q_put E hC431 hS438 g0 fp_RX12_120 tv_F rfl rfl dX12_next_327 (fun H447 locs447 hC447 hS447 U447 => ?_)
                    have hKp447 := Kp.upO E g0 fp_RX12_120 rfl U447 hKp431
                    have e448 := up_I U447
                    have m449 : (sI H447 h0 (X.1.2 11 14)).toInt = 3 := (congrArg Int32.toInt e448).trans (show (3 : Int32).toInt = 3 from by decide)
                    have m450 : (sI H447 h0 (X.1.2 11 12)).toInt = (sI H431 h0 (X.1.2 11 12)).toInt := congrArg Int32.toInt (up_nI U447 (ne_f E 11 12 14 rfl (by decide) (by decide) (by decide)))
                    have m451 : (sI H447 h0 (X.1.2 11 16)).toInt = (sI H431 h0 (X.1.2 11 16)).toInt := congrArg Int32.toInt (up_nI U447 (ne_f E 11 16 14 rfl (by decide) (by decide) (by decide)))
                    have m452 : (sI H447 h0 (X.1.2 11 15)).toInt = (sI H431 h0 (X.1.2 11 15)).toInt := congrArg Int32.toInt (up_nI U447 (ne_f E 11 15 14 rfl (by decide) (by decide) (by decide)))
                    have hz9 := tk_or (sI H447 h0 (X.1.2 11 14)).toInt
                    exact ret H447 locs447 _ _ dX12_next_330 ⟨hKp447, ⟨by omega, by omega, by omega⟩⟩ hC447 hS447
            · refine lv_aload_n hx hb dX12_next_77 rfl (lv_at hl 0 rfl) ?_
              refine lv_iconst (v := 0) hx hb dX12_next_78 rfl ?_
              refine q_put E hC256 hS256 g0 fp_RX12_120 tv_F rfl rfl dX12_next_79 (fun H453 locs453 hC453 hS453 U453 => ?_)
              have hKp453 := Kp.upO E g0 fp_RX12_120 rfl U453 hKp256
              have e454 := up_I U453
              have m455 : (sI H453 h0 (X.1.2 11 14)).toInt = 0 := (congrArg Int32.toInt e454).trans (show (0 : Int32).toInt = 0 from by decide)
              have m456 : (sI H453 h0 (X.1.2 11 12)).toInt = (sI H256 h0 (X.1.2 11 12)).toInt := congrArg Int32.toInt (up_nI U453 (ne_f E 11 12 14 rfl (by decide) (by decide) (by decide)))
              have m457 : (sI H453 h0 (X.1.2 11 16)).toInt = (sI H256 h0 (X.1.2 11 16)).toInt := congrArg Int32.toInt (up_nI U453 (ne_f E 11 16 14 rfl (by decide) (by decide) (by decide)))
              have m458 : (sI H453 h0 (X.1.2 11 15)).toInt = (sI H256 h0 (X.1.2 11 15)).toInt := congrArg Int32.toInt (up_nI U453 (ne_f E 11 15 14 rfl (by decide) (by decide) (by decide)))
              have hz9 := tk_or (sI H453 h0 (X.1.2 11 14)).toInt
              exact ret H453 locs453 _ _ dX12_next_82 ⟨hKp453, ⟨by omega, by omega, by omega⟩⟩ hC453 hS453
          · refine lv_aload_n hx hb dX12_next_45 rfl (lv_at hl 0 rfl) ?_
            refine lv_dup hx hb dX12_next_46 rfl ?_
            refine q_getI E hC30 g0 fa_RX12_114 dX12_next_47 (fun v459 ev459 lv459 uv459 => ?_)
            have qv459 := ev31.symm.trans ev459; subst qv459
            refine lv_iconst (v := 1) hx hb dX12_next_50 rfl ?_
            refine lv_iadd hx hb dX12_next_51 (lv_topi (fun v460 ev460 => ?_))
            have ev460i : v460.toInt = (v31.toInt + 1) := i_add ev460 rfl (by decide) (by omega) (by omega)
            refine q_put E hC30 hS253 g0 fp_RX12_114 (tv_I ev460i (by omega) (by omega)) rfl rfl dX12_next_52 (fun H461 locs461 hC461 hS461 U461 => ?_)
            have hKp461 := Kp.upO E g0 fp_RX12_114 rfl U461 hKp30
            have e462 := up_I U461
            have m463 : (sI H461 h0 (X.1.2 11 15)).toInt = (v31.toInt + 1) := (congrArg Int32.toInt e462).trans ev460i
            have m464 : (sI H461 h0 (X.1.2 11 12)).toInt = (sI H30 h0 (X.1.2 11 12)).toInt := congrArg Int32.toInt (up_nI U461 (ne_f E 11 12 15 rfl (by decide) (by decide) (by decide)))
            have m465 : (sI H461 h0 (X.1.2 11 14)).toInt = (sI H30 h0 (X.1.2 11 14)).toInt := congrArg Int32.toInt (up_nI U461 (ne_f E 11 14 15 rfl (by decide) (by decide) (by decide)))
            have m466 := congrArg tk m465
            have m467 : (sI H461 h0 (X.1.2 11 16)).toInt = (sI H30 h0 (X.1.2 11 16)).toInt := congrArg Int32.toInt (up_nI U461 (ne_f E 11 16 15 rfl (by decide) (by decide) (by decide)))
            refine lv_goto (tgt := 8) hx hb dX12_next_55 rfl ?_
            have m1_at : (sI H30 h0 (X.1.2 11 15)).toInt = v31.toInt := (congrArg Int32.toInt ev31).trans rfl
            have m2_at : (sI H461 h0 (X.1.2 11 15)).toInt = (v31.toInt + 1) := (congrArg Int32.toInt e462).trans ev460i
            have m1_textEnd : (sI H30 h0 (X.1.2 11 9)).toInt = v33.toInt := (congrArg Int32.toInt ev33).trans rfl
            have e468 := (up_nI U461 (ne_f E 11 9 15 rfl (by decide) (by decide) (by decide))).trans ev33
            have m2_textEnd : (sI H461 h0 (X.1.2 11 9)).toInt = v33.toInt := (congrArg Int32.toInt e468).trans rfl
            exact ih30 H461 locs461 ls (by omega) (by omega) (by omega) (by omega) hC461 hS461 hKp461 hl
  exact L8 _ H23 locs23 ls (Nat.lt_succ_self _) (by omega) (by omega) (by omega) hC23 hS23 hKp23 hl
set_option maxRecDepth 100000 in
set_option maxHeartbeats 4000000 in
theorem m_X12_opens (l : Launch) (X : xW) (Γ : Nat → Option Nat) (H0 : Heap) (hC0 : Conf X Γ H0) (h0 : Nat) (g0 : Γ h0 = some 11) (p1 : Int32) {a1 : Int} (e1 : p1.toInt = a1) (p2 : Int32) {a2 : Int} (e2 : p2.toInt = a2) (ca : Nat) (gca : Γ ca = some 64) (uc : ∀ a, Γ a = some 64 → a = ca) : Ctr l X Γ yX12_opens cX12_opens 3 (some .boolean) 2 [.ref h0, .int p1, .int p2] H0 (QI X Γ (fun v H1 => Kp X Γ [1, 6, 8, 9, 10, 11, 12, 14, 15, 16, 17, 19, 22, 24, 26, 28] H0 H1 ∧ ((v = 1 ∧ ((sI H1 h0 (X.1.2 11 12)).toInt = 0 ∧ 0 ≤ a1 ∧ a1 ≤ (sI H0 h0 (X.1.2 11 8)).toInt ∧ a1 ≤ a2 ∧ (sI H1 h0 (X.1.2 11 8)).toInt = 0)) ∨ (v = 0 ∧ ((a1 < 0 ∨ (sI H0 h0 (X.1.2 11 8)).toInt < a1 ∨ a2 < a1) ∧ (sI H1 h0 (X.1.2 11 8)).toInt = (sI H0 h0 (X.1.2 11 8)).toInt))))) := by
  refine q_enterZ (own := "SnowFortsModel") (by decide) rfl (Nat.le_of_ble_eq_true rfl) ?_
  intro p e s m args below meth c ls Qz E hl ret hS0
  have hx := E.1; have hb := E.2.1
  have hKp0 : Kp X Γ [1, 6, 8, 9, 10, 11, 12, 14, 15, 16, 17, 19, 22, 24, 26, 28] H0 H0 := Kp.rf
  have hl : lv_has ls 3 [(0, .ref h0), (1, .int p1), (2, .int p2)] := hl
  have hz1 := f_bd hC0 g0 (ci := 11) (k := 8) rfl rfl
  refine lv_iload_n hx hb dX12_opens_0 rfl (lv_at hl 1 rfl) ?_
  refine q_if_lt hx hb (a := a1) e1 (tgt := 17) dX12_opens_1 rfl (fun c21 => ?_) (fun c21 => ?_)
  · refine lv_aload_n hx hb dX12_opens_17 rfl (lv_at hl 0 rfl) ?_
    refine lv_iconst (v := 5) hx hb dX12_opens_18 rfl ?_
    refine q_goI (q_runV (As := [.int 5]) (rest := []) E hC0 hS0 (m_X12_no l X Γ H0 hC0 h0 g0 5 (a1 := 5) (by decide) ca gca uc) cw_X12_no cl_RX12_84 g0 ⟨rfl, rfl⟩ rfl hl.1 rfl (Nat.zero_le _) (by decide) dX12_opens_19) hS0 (fun v22 H22 locs22 hr22 hC22 hS22 => ?_)
    obtain ⟨hp22, hr22⟩ := hr22
    have hKp22 := hKp0.tr (hp22.mono rfl)
    have m23 : (sI H22 h0 (X.1.2 11 8)).toInt = (sI H0 h0 (X.1.2 11 8)).toInt := congrArg Int32.toInt (kp_I hp22 g0 (k := 8) rfl (by decide) rfl)
    rcases hr22 with ⟨rfl, f22a⟩ | ⟨rfl, -⟩
    · exact absurd f22a (by decide)
    · exact ret 0 H22 locs22 _ _ dX12_opens_22 (Or.inl rfl) ⟨hKp22, Or.inr ⟨rfl, by omega, by omega⟩⟩ hC22 hS22
  · refine lv_iload_n hx hb dX12_opens_4 rfl (lv_at hl 1 rfl) ?_
    refine lv_aload_n hx hb dX12_opens_5 rfl (lv_at hl 0 rfl) ?_
    refine q_getI E hC0 g0 fa_RX12_234 dX12_opens_6 (fun v24 ev24 lv24 uv24 => ?_)
    have m25 : (sI H0 h0 (X.1.2 11 8)).toInt = v24.toInt := (congrArg Int32.toInt ev24).trans rfl
    refine q_icmp_gt hx hb (a := a1) (b := v24.toInt) e1 rfl (tgt := 17) dX12_opens_9 rfl (fun c26 => ?_) (fun c26 => ?_)
    · refine lv_aload_n hx hb dX12_opens_17 rfl (lv_at hl 0 rfl) ?_
      refine lv_iconst (v := 5) hx hb dX12_opens_18 rfl ?_
      refine q_goI (q_runV (As := [.int 5]) (rest := []) E hC0 hS0 (m_X12_no l X Γ H0 hC0 h0 g0 5 (a1 := 5) (by decide) ca gca uc) cw_X12_no cl_RX12_84 g0 ⟨rfl, rfl⟩ rfl hl.1 rfl (Nat.zero_le _) (by decide) dX12_opens_19) hS0 (fun v27 H27 locs27 hr27 hC27 hS27 => ?_)
      obtain ⟨hp27, hr27⟩ := hr27
      have hKp27 := hKp0.tr (hp27.mono rfl)
      have m28 : (sI H27 h0 (X.1.2 11 8)).toInt = (sI H0 h0 (X.1.2 11 8)).toInt := congrArg Int32.toInt (kp_I hp27 g0 (k := 8) rfl (by decide) rfl)
      rcases hr27 with ⟨rfl, f27a⟩ | ⟨rfl, -⟩
      · exact absurd f27a (by decide)
      · have e29 := (kp_I hp27 g0 (k := 8) rfl (by decide) rfl).trans ev24
        have m30 : (sI H27 h0 (X.1.2 11 8)).toInt = v24.toInt := (congrArg Int32.toInt e29).trans rfl
        exact ret 0 H27 locs27 _ _ dX12_opens_22 (Or.inl rfl) ⟨hKp27, Or.inr ⟨rfl, by omega, by omega⟩⟩ hC27 hS27
    · refine lv_iload_n hx hb dX12_opens_12 rfl (lv_at hl 1 rfl) ?_
      refine lv_iload_n hx hb dX12_opens_13 rfl (lv_at hl 2 rfl) ?_
      have c31 := i_rng p2; rw [show p2.toInt = a2 from e2] at c31
      refine q_icmp_le hx hb (a := a1) (b := a2) e1 e2 (tgt := 23) dX12_opens_14 rfl (fun c32 => ?_) (fun c32 => ?_)
      · refine lv_aload_n hx hb dX12_opens_23 rfl (lv_at hl 0 rfl) ?_
        refine lv_iload_n hx hb dX12_opens_24 rfl (lv_at hl 1 rfl) ?_
        refine q_put E hC0 hS0 g0 fp_RX12_108 (tv_I e1 (by omega) (by omega)) rfl rfl dX12_opens_25 (fun H33 locs33 hC33 hS33 U33 => ?_)
        have hKp33 := Kp.upO E g0 fp_RX12_108 rfl U33 hKp0
        have e34 := up_I U33
        have m35 : (sI H33 h0 (X.1.2 11 12)).toInt = (sI H0 h0 (X.1.2 11 12)).toInt := congrArg Int32.toInt (up_nI U33 (ne_f E 11 12 9 rfl (by decide) (by decide) (by decide)))
        have m36 : (sI H33 h0 (X.1.2 11 14)).toInt = (sI H0 h0 (X.1.2 11 14)).toInt := congrArg Int32.toInt (up_nI U33 (ne_f E 11 14 9 rfl (by decide) (by decide) (by decide)))
        have m37 := congrArg tk m36
        have m38 : (sI H33 h0 (X.1.2 11 16)).toInt = (sI H0 h0 (X.1.2 11 16)).toInt := congrArg Int32.toInt (up_nI U33 (ne_f E 11 16 9 rfl (by decide) (by decide) (by decide)))
        have m39 : (sI H33 h0 (X.1.2 11 8)).toInt = (sI H0 h0 (X.1.2 11 8)).toInt := congrArg Int32.toInt (up_nI U33 (ne_f E 11 8 9 rfl (by decide) (by decide) (by decide)))
        refine lv_aload_n hx hb dX12_opens_28 rfl (lv_at hl 0 rfl) ?_
        refine lv_iconst (v := 0) hx hb dX12_opens_29 rfl ?_
        refine q_put E hC33 hS33 g0 fp_RX12_234 (tv_I (show (0 : Int32).toInt = 0 from by decide) (by omega) (by omega)) rfl rfl dX12_opens_30 (fun H40 locs40 hC40 hS40 U40 => ?_)
        have hKp40 := Kp.upO E g0 fp_RX12_234 rfl U40 hKp33
        have e41 := up_I U40
        have m42 : (sI H40 h0 (X.1.2 11 8)).toInt = 0 := (congrArg Int32.toInt e41).trans (show (0 : Int32).toInt = 0 from by decide)
        have m43 : (sI H40 h0 (X.1.2 11 12)).toInt = (sI H33 h0 (X.1.2 11 12)).toInt := congrArg Int32.toInt (up_nI U40 (ne_f E 11 12 8 rfl (by decide) (by decide) (by decide)))
        have m44 : (sI H40 h0 (X.1.2 11 14)).toInt = (sI H33 h0 (X.1.2 11 14)).toInt := congrArg Int32.toInt (up_nI U40 (ne_f E 11 14 8 rfl (by decide) (by decide) (by decide)))
        have m45 := congrArg tk m44
        have m46 : (sI H40 h0 (X.1.2 11 16)).toInt = (sI H33 h0 (X.1.2 11 16)).toInt := congrArg Int32.toInt (up_nI U40 (ne_f E 11 16 8 rfl (by decide) (by decide) (by decide)))
        refine lv_aload_n hx hb dX12_opens_33 rfl (lv_at hl 0 rfl) ?_
        refine lv_iconst (v := 0) hx hb dX12_opens_34 rfl ?_
        refine q_put E hC40 hS40 g0 fp_RX12_111 (tv_I (show (0 : Int32).toInt = 0 from by decide) (by omega) (by omega)) rfl rfl dX12_opens_35 (fun H47 locs47 hC47 hS47 U47 => ?_)
        have hKp47 := Kp.upO E g0 fp_RX12_111 rfl U47 hKp40
        have e48 := up_I U47
        have m49 : (sI H47 h0 (X.1.2 11 16)).toInt = 0 := (congrArg Int32.toInt e48).trans (show (0 : Int32).toInt = 0 from by decide)
        have m50 : (sI H47 h0 (X.1.2 11 12)).toInt = (sI H40 h0 (X.1.2 11 12)).toInt := congrArg Int32.toInt (up_nI U47 (ne_f E 11 12 16 rfl (by decide) (by decide) (by decide)))
        have m51 : (sI H47 h0 (X.1.2 11 14)).toInt = (sI H40 h0 (X.1.2 11 14)).toInt := congrArg Int32.toInt (up_nI U47 (ne_f E 11 14 16 rfl (by decide) (by decide) (by decide)))
        have m52 := congrArg tk m51
        have m53 : (sI H47 h0 (X.1.2 11 8)).toInt = (sI H40 h0 (X.1.2 11 8)).toInt := congrArg Int32.toInt (up_nI U47 (ne_f E 11 8 16 rfl (by decide) (by decide) (by decide)))
        refine lv_aload_n hx hb dX12_opens_38 rfl (lv_at hl 0 rfl) ?_
        refine lv_iconst (v := 0) hx hb dX12_opens_39 rfl ?_
        refine q_put E hC47 hS47 g0 fp_RX12_218 (tv_I (show (0 : Int32).toInt = 0 from by decide) (by omega) (by omega)) rfl rfl dX12_opens_40 (fun H54 locs54 hC54 hS54 U54 => ?_)
        have hKp54 := Kp.upO E g0 fp_RX12_218 rfl U54 hKp47
        have e55 := up_I U54
        have m56 : (sI H54 h0 (X.1.2 11 12)).toInt = 0 := (congrArg Int32.toInt e55).trans (show (0 : Int32).toInt = 0 from by decide)
        have m57 : (sI H54 h0 (X.1.2 11 14)).toInt = (sI H47 h0 (X.1.2 11 14)).toInt := congrArg Int32.toInt (up_nI U54 (ne_f E 11 14 12 rfl (by decide) (by decide) (by decide)))
        have m58 := congrArg tk m57
        have m59 : (sI H54 h0 (X.1.2 11 16)).toInt = (sI H47 h0 (X.1.2 11 16)).toInt := congrArg Int32.toInt (up_nI U54 (ne_f E 11 16 12 rfl (by decide) (by decide) (by decide)))
        have m60 : (sI H54 h0 (X.1.2 11 8)).toInt = (sI H47 h0 (X.1.2 11 8)).toInt := congrArg Int32.toInt (up_nI U54 (ne_f E 11 8 12 rfl (by decide) (by decide) (by decide)))
        refine lv_aload_n hx hb dX12_opens_43 rfl (lv_at hl 0 rfl) ?_
        refine q_goV (q_runV (As := []) (rest := []) E hC54 hS54 (m_X12_next l X Γ H54 hC54 h0 g0 ca gca uc) cw_X12_next cl_RX12_228 g0 ⟨rfl, rfl⟩ rfl hl.1 rfl (Nat.zero_le _) (by decide) dX12_opens_44) hS54 (fun H61 locs61 hr61 hC61 hS61 => ?_)
        obtain ⟨hp61, hr61⟩ := hr61
        have hKp61 := hKp54.tr (hp61.mono rfl)
        have m62 : (sI H61 h0 (X.1.2 11 8)).toInt = (sI H54 h0 (X.1.2 11 8)).toInt := congrArg Int32.toInt (kp_I hp61 g0 (k := 8) rfl (by decide) rfl)
        obtain ⟨f61_0, f61_1, f61_2⟩ := hr61
        refine lv_iconst (v := 1) hx hb dX12_opens_47 rfl ?_
        have e63 := (up_nI U54 (ne_f E 11 16 12 rfl (by decide) (by decide) (by decide))).trans e48
        have e64 := (up_nI U47 (ne_f E 11 8 16 rfl (by decide) (by decide) (by decide))).trans e41
        have e65 := (up_nI U54 (ne_f E 11 8 12 rfl (by decide) (by decide) (by decide))).trans e64
        have e66 := (kp_I hp61 g0 (k := 8) rfl (by decide) rfl).trans e65
        have m67 : (sI H61 h0 (X.1.2 11 8)).toInt = 0 := (congrArg Int32.toInt e66).trans (show (0 : Int32).toInt = 0 from by decide)
        exact ret 1 H61 locs61 _ _ dX12_opens_48 (Or.inr rfl) ⟨hKp61, Or.inl ⟨rfl, by omega, by omega, by omega, by omega, by omega⟩⟩ hC61 hS61
      · refine lv_aload_n hx hb dX12_opens_17 rfl (lv_at hl 0 rfl) ?_
        refine lv_iconst (v := 5) hx hb dX12_opens_18 rfl ?_
        refine q_goI (q_runV (As := [.int 5]) (rest := []) E hC0 hS0 (m_X12_no l X Γ H0 hC0 h0 g0 5 (a1 := 5) (by decide) ca gca uc) cw_X12_no cl_RX12_84 g0 ⟨rfl, rfl⟩ rfl hl.1 rfl (Nat.zero_le _) (by decide) dX12_opens_19) hS0 (fun v68 H68 locs68 hr68 hC68 hS68 => ?_)
        obtain ⟨hp68, hr68⟩ := hr68
        have hKp68 := hKp0.tr (hp68.mono rfl)
        have m69 : (sI H68 h0 (X.1.2 11 8)).toInt = (sI H0 h0 (X.1.2 11 8)).toInt := congrArg Int32.toInt (kp_I hp68 g0 (k := 8) rfl (by decide) rfl)
        rcases hr68 with ⟨rfl, f68a⟩ | ⟨rfl, -⟩
        · exact absurd f68a (by decide)
        · have e70 := (kp_I hp68 g0 (k := 8) rfl (by decide) rfl).trans ev24
          have m71 : (sI H68 h0 (X.1.2 11 8)).toInt = v24.toInt := (congrArg Int32.toInt e70).trans rfl
          exact ret 0 H68 locs68 _ _ dX12_opens_22 (Or.inl rfl) ⟨hKp68, Or.inr ⟨rfl, by omega, by omega⟩⟩ hC68 hS68
set_option maxRecDepth 100000 in
set_option maxHeartbeats 4000000 in
theorem m_X12_spelled (l : Launch) (X : xW) (Γ : Nat → Option Nat) (H0 : Heap) (hC0 : Conf X Γ H0) (p0 : Int32) {a0 : Int} (e0 : p0.toInt = a0) (p1 : Int32) {a1 : Int} (e1 : p1.toInt = a1) (p2 : Int32) {a2 : Int} (e2 : p2.toInt = a2) (p3 : Int32) {a3 : Int} (e3 : p3.toInt = a3) (p4 : Int32) {a4 : Int} (e4 : p4.toInt = a4) (p5 : Int32) {a5 : Int} (e5 : p5.toInt = a5) : Ctr l X Γ yX12_spelled cX12_spelled 8 (some .long) 0 [.int p0, .int p1, .int p2, .int p3, .int p4, .int p5] H0 (QJ X Γ (fun v H1 => H1 = H0 ∧ (True))) := by
  refine q_enterJ (own := "SnowFortsModel") (by decide) rfl (Nat.le_of_ble_eq_true rfl) ?_
  intro p e s m args below meth c ls Qz E hl ret hS0
  have hx := E.1; have hb := E.2.1
  have hl : lv_has ls 8 [(0, .int p0), (1, .int p1), (2, .int p2), (3, .int p3), (4, .int p4), (5, .int p5)] := hl
  refine lv_iload_n hx hb dX12_spelled_0 rfl (lv_at hl 0 rfl) ?_
  refine lv_i2l (v := p0.toInt64) hx hb dX12_spelled_1 rfl (lv_topl (fun v21 ev21 => ?_))
  have ev21i : v21.toInt = a0 := l_ofi ev21.symm e0
  refine lv_ldc2 (v := 96) hx hb E.2.2.2.1 (E.2.2.2.2.1 _ w_1507) dX12_spelled_2 ?_
  refine lv_lsub hx hb dX12_spelled_5 (lv_topl (fun v22 ev22 => ?_))
  have c23 := i_rng p0; rw [show p0.toInt = a0 from e0] at c23
  have ev22i : v22.toInt = (a0 - 96) := l_sub ev22 ev21i (show (96 : Int64).toInt = 96 from by decide) (by omega) (by omega)
  refine lv_ldc2 (v := 32) hx hb E.2.2.2.1 (E.2.2.2.2.1 _ w_1506) dX12_spelled_6 ?_
  refine lv_lmul hx hb dX12_spelled_9 (lv_topl (fun v24 ev24 => ?_))
  have ev24i : v24.toInt = ((a0 - 96) * 32) := l_mul ev24 ev22i (show (32 : Int64).toInt = 32 from by decide) (by omega) (by omega)
  refine lv_iload_n hx hb dX12_spelled_10 rfl (lv_at hl 1 rfl) ?_
  refine lv_i2l (v := p1.toInt64) hx hb dX12_spelled_11 rfl (lv_topl (fun v25 ev25 => ?_))
  have ev25i : v25.toInt = a1 := l_ofi ev25.symm e1
  refine lv_ladd hx hb dX12_spelled_12 (lv_topl (fun v26 ev26 => ?_))
  have c27 := i_rng p1; rw [show p1.toInt = a1 from e1] at c27
  have ev26i : v26.toInt = (((a0 - 96) * 32) + a1) := l_add ev26 ev24i ev25i (by omega) (by omega)
  refine lv_ldc2 (v := 96) hx hb E.2.2.2.1 (E.2.2.2.2.1 _ w_1507) dX12_spelled_13 ?_
  refine lv_lsub hx hb dX12_spelled_16 (lv_topl (fun v28 ev28 => ?_))
  have ev28i : v28.toInt = ((((a0 - 96) * 32) + a1) - 96) := l_sub ev28 ev26i (show (96 : Int64).toInt = 96 from by decide) (by omega) (by omega)
  refine lv_lstore hx hb dX12_spelled_17 hl (by decide) rfl (fun ls hl => ?_)
  replace hl : lv_has ls 8 [(6, .long v28), (0, .int p0), (1, .int p1), (2, .int p2), (3, .int p3), (4, .int p4), (5, .int p5)] := hl
  refine lv_iload_n hx hb dX12_spelled_19 rfl (lv_at hl 3 rfl) ?_
  refine q_if_le hx hb (a := a2) e2 (tgt := 39) dX12_spelled_20 rfl (fun c29 => ?_) (fun c29 => ?_)
  · refine lv_lload hx hb dX12_spelled_39 (lv_at hl 0 rfl) ?_
    refine lv_lstore hx hb dX12_spelled_41 hl (by decide) rfl (fun ls hl => ?_)
    replace hl : lv_has ls 8 [(6, .long v28), (0, .int p0), (1, .int p1), (2, .int p2), (3, .int p3), (4, .int p4), (5, .int p5)] := hl
    refine lv_iload_n hx hb dX12_spelled_43 rfl (lv_at hl 4 rfl) ?_
    refine q_if_le hx hb (a := a3) e3 (tgt := 63) dX12_spelled_44 rfl (fun c30 => ?_) (fun c30 => ?_)
    · refine lv_lload hx hb dX12_spelled_63 (lv_at hl 0 rfl) ?_
      refine lv_lstore hx hb dX12_spelled_65 hl (by decide) rfl (fun ls hl => ?_)
      replace hl : lv_has ls 8 [(6, .long v28), (0, .int p0), (1, .int p1), (2, .int p2), (3, .int p3), (4, .int p4), (5, .int p5)] := hl
      refine lv_iload hx hb dX12_spelled_67 (lv_at hl 5 rfl) ?_
      refine q_if_le hx hb (a := a4) e4 (tgt := 89) dX12_spelled_69 rfl (fun c31 => ?_) (fun c31 => ?_)
      · refine lv_lload hx hb dX12_spelled_89 (lv_at hl 0 rfl) ?_
        refine lv_lstore hx hb dX12_spelled_91 hl (by decide) rfl (fun ls hl => ?_)
        replace hl : lv_has ls 8 [(6, .long v28), (0, .int p0), (1, .int p1), (2, .int p2), (3, .int p3), (4, .int p4), (5, .int p5)] := hl
        refine lv_iload hx hb dX12_spelled_93 (lv_at hl 6 rfl) ?_
        refine q_if_le hx hb (a := a5) e5 (tgt := 115) dX12_spelled_95 rfl (fun c32 => ?_) (fun c32 => ?_)
        · refine lv_lload hx hb dX12_spelled_115 (lv_at hl 0 rfl) ?_
          exact ret v28 H0 [] _ _ dX12_spelled_117 ⟨rfl, trivial⟩ hC0 hS0
        · refine lv_lload hx hb dX12_spelled_98 (lv_at hl 0 rfl) ?_
          refine lv_ldc2 (v := 32) hx hb E.2.2.2.1 (E.2.2.2.2.1 _ w_1506) dX12_spelled_100 ?_
          refine lv_lmul hx hb dX12_spelled_103 (lv_topl (fun v33 ev33 => ?_))
          have ev33i : v33.toInt = (((((a0 - 96) * 32) + a1) - 96) * 32) := l_mul ev33 ev28i (show (32 : Int64).toInt = 32 from by decide) (by omega) (by omega)
          refine lv_iload hx hb dX12_spelled_104 (lv_at hl 6 rfl) ?_
          refine lv_i2l (v := p5.toInt64) hx hb dX12_spelled_106 rfl (lv_topl (fun v34 ev34 => ?_))
          have ev34i : v34.toInt = a5 := l_ofi ev34.symm e5
          refine lv_ladd hx hb dX12_spelled_107 (lv_topl (fun v35 ev35 => ?_))
          have c36 := i_rng p5; rw [show p5.toInt = a5 from e5] at c36
          have ev35i : v35.toInt = ((((((a0 - 96) * 32) + a1) - 96) * 32) + a5) := l_add ev35 ev33i ev34i (by omega) (by omega)
          refine lv_ldc2 (v := 96) hx hb E.2.2.2.1 (E.2.2.2.2.1 _ w_1507) dX12_spelled_108 ?_
          refine lv_lsub hx hb dX12_spelled_111 (lv_topl (fun v37 ev37 => ?_))
          have ev37i : v37.toInt = (((((((a0 - 96) * 32) + a1) - 96) * 32) + a5) - 96) := l_sub ev37 ev35i (show (96 : Int64).toInt = 96 from by decide) (by omega) (by omega)
          refine lv_goto (tgt := 117) hx hb dX12_spelled_112 rfl ?_
          exact ret v37 H0 [] _ _ dX12_spelled_117 ⟨rfl, trivial⟩ hC0 hS0
      · refine lv_lload hx hb dX12_spelled_72 (lv_at hl 0 rfl) ?_
        refine lv_ldc2 (v := 32) hx hb E.2.2.2.1 (E.2.2.2.2.1 _ w_1506) dX12_spelled_74 ?_
        refine lv_lmul hx hb dX12_spelled_77 (lv_topl (fun v38 ev38 => ?_))
        have ev38i : v38.toInt = (((((a0 - 96) * 32) + a1) - 96) * 32) := l_mul ev38 ev28i (show (32 : Int64).toInt = 32 from by decide) (by omega) (by omega)
        refine lv_iload hx hb dX12_spelled_78 (lv_at hl 5 rfl) ?_
        refine lv_i2l (v := p4.toInt64) hx hb dX12_spelled_80 rfl (lv_topl (fun v39 ev39 => ?_))
        have ev39i : v39.toInt = a4 := l_ofi ev39.symm e4
        refine lv_ladd hx hb dX12_spelled_81 (lv_topl (fun v40 ev40 => ?_))
        have c41 := i_rng p4; rw [show p4.toInt = a4 from e4] at c41
        have ev40i : v40.toInt = ((((((a0 - 96) * 32) + a1) - 96) * 32) + a4) := l_add ev40 ev38i ev39i (by omega) (by omega)
        refine lv_ldc2 (v := 96) hx hb E.2.2.2.1 (E.2.2.2.2.1 _ w_1507) dX12_spelled_82 ?_
        refine lv_lsub hx hb dX12_spelled_85 (lv_topl (fun v42 ev42 => ?_))
        have ev42i : v42.toInt = (((((((a0 - 96) * 32) + a1) - 96) * 32) + a4) - 96) := l_sub ev42 ev40i (show (96 : Int64).toInt = 96 from by decide) (by omega) (by omega)
        refine lv_goto (tgt := 91) hx hb dX12_spelled_86 rfl ?_
        refine lv_lstore hx hb dX12_spelled_91 hl (by decide) rfl (fun ls hl => ?_)
        replace hl : lv_has ls 8 [(6, .long v42), (0, .int p0), (1, .int p1), (2, .int p2), (3, .int p3), (4, .int p4), (5, .int p5)] := hl
        refine lv_iload hx hb dX12_spelled_93 (lv_at hl 6 rfl) ?_
        refine q_if_le hx hb (a := a5) e5 (tgt := 115) dX12_spelled_95 rfl (fun c43 => ?_) (fun c43 => ?_)
        · refine lv_lload hx hb dX12_spelled_115 (lv_at hl 0 rfl) ?_
          exact ret v42 H0 [] _ _ dX12_spelled_117 ⟨rfl, trivial⟩ hC0 hS0
        · refine lv_lload hx hb dX12_spelled_98 (lv_at hl 0 rfl) ?_
          refine lv_ldc2 (v := 32) hx hb E.2.2.2.1 (E.2.2.2.2.1 _ w_1506) dX12_spelled_100 ?_
          refine lv_lmul hx hb dX12_spelled_103 (lv_topl (fun v44 ev44 => ?_))
          have ev44i : v44.toInt = ((((((((a0 - 96) * 32) + a1) - 96) * 32) + a4) - 96) * 32) := l_mul ev44 ev42i (show (32 : Int64).toInt = 32 from by decide) (by omega) (by omega)
          refine lv_iload hx hb dX12_spelled_104 (lv_at hl 6 rfl) ?_
          refine lv_i2l (v := p5.toInt64) hx hb dX12_spelled_106 rfl (lv_topl (fun v45 ev45 => ?_))
          have ev45i : v45.toInt = a5 := l_ofi ev45.symm e5
          refine lv_ladd hx hb dX12_spelled_107 (lv_topl (fun v46 ev46 => ?_))
          have c47 := i_rng p5; rw [show p5.toInt = a5 from e5] at c47
          have ev46i : v46.toInt = (((((((((a0 - 96) * 32) + a1) - 96) * 32) + a4) - 96) * 32) + a5) := l_add ev46 ev44i ev45i (by omega) (by omega)
          refine lv_ldc2 (v := 96) hx hb E.2.2.2.1 (E.2.2.2.2.1 _ w_1507) dX12_spelled_108 ?_
          refine lv_lsub hx hb dX12_spelled_111 (lv_topl (fun v48 ev48 => ?_))
          have ev48i : v48.toInt = ((((((((((a0 - 96) * 32) + a1) - 96) * 32) + a4) - 96) * 32) + a5) - 96) := l_sub ev48 ev46i (show (96 : Int64).toInt = 96 from by decide) (by omega) (by omega)
          refine lv_goto (tgt := 117) hx hb dX12_spelled_112 rfl ?_
          exact ret v48 H0 [] _ _ dX12_spelled_117 ⟨rfl, trivial⟩ hC0 hS0
    · refine lv_lload hx hb dX12_spelled_47 (lv_at hl 0 rfl) ?_
      refine lv_ldc2 (v := 32) hx hb E.2.2.2.1 (E.2.2.2.2.1 _ w_1506) dX12_spelled_49 ?_
      refine lv_lmul hx hb dX12_spelled_52 (lv_topl (fun v49 ev49 => ?_))
      have ev49i : v49.toInt = (((((a0 - 96) * 32) + a1) - 96) * 32) := l_mul ev49 ev28i (show (32 : Int64).toInt = 32 from by decide) (by omega) (by omega)
      refine lv_iload_n hx hb dX12_spelled_53 rfl (lv_at hl 4 rfl) ?_
      refine lv_i2l (v := p3.toInt64) hx hb dX12_spelled_54 rfl (lv_topl (fun v50 ev50 => ?_))
      have ev50i : v50.toInt = a3 := l_ofi ev50.symm e3
      refine lv_ladd hx hb dX12_spelled_55 (lv_topl (fun v51 ev51 => ?_))
      have c52 := i_rng p3; rw [show p3.toInt = a3 from e3] at c52
      have ev51i : v51.toInt = ((((((a0 - 96) * 32) + a1) - 96) * 32) + a3) := l_add ev51 ev49i ev50i (by omega) (by omega)
      refine lv_ldc2 (v := 96) hx hb E.2.2.2.1 (E.2.2.2.2.1 _ w_1507) dX12_spelled_56 ?_
      refine lv_lsub hx hb dX12_spelled_59 (lv_topl (fun v53 ev53 => ?_))
      have ev53i : v53.toInt = (((((((a0 - 96) * 32) + a1) - 96) * 32) + a3) - 96) := l_sub ev53 ev51i (show (96 : Int64).toInt = 96 from by decide) (by omega) (by omega)
      refine lv_goto (tgt := 65) hx hb dX12_spelled_60 rfl ?_
      refine lv_lstore hx hb dX12_spelled_65 hl (by decide) rfl (fun ls hl => ?_)
      replace hl : lv_has ls 8 [(6, .long v53), (0, .int p0), (1, .int p1), (2, .int p2), (3, .int p3), (4, .int p4), (5, .int p5)] := hl
      refine lv_iload hx hb dX12_spelled_67 (lv_at hl 5 rfl) ?_
      refine q_if_le hx hb (a := a4) e4 (tgt := 89) dX12_spelled_69 rfl (fun c54 => ?_) (fun c54 => ?_)
      · refine lv_lload hx hb dX12_spelled_89 (lv_at hl 0 rfl) ?_
        refine lv_lstore hx hb dX12_spelled_91 hl (by decide) rfl (fun ls hl => ?_)
        replace hl : lv_has ls 8 [(6, .long v53), (0, .int p0), (1, .int p1), (2, .int p2), (3, .int p3), (4, .int p4), (5, .int p5)] := hl
        refine lv_iload hx hb dX12_spelled_93 (lv_at hl 6 rfl) ?_
        refine q_if_le hx hb (a := a5) e5 (tgt := 115) dX12_spelled_95 rfl (fun c55 => ?_) (fun c55 => ?_)
        · refine lv_lload hx hb dX12_spelled_115 (lv_at hl 0 rfl) ?_
          exact ret v53 H0 [] _ _ dX12_spelled_117 ⟨rfl, trivial⟩ hC0 hS0
        · refine lv_lload hx hb dX12_spelled_98 (lv_at hl 0 rfl) ?_
          refine lv_ldc2 (v := 32) hx hb E.2.2.2.1 (E.2.2.2.2.1 _ w_1506) dX12_spelled_100 ?_
          refine lv_lmul hx hb dX12_spelled_103 (lv_topl (fun v56 ev56 => ?_))
          have ev56i : v56.toInt = ((((((((a0 - 96) * 32) + a1) - 96) * 32) + a3) - 96) * 32) := l_mul ev56 ev53i (show (32 : Int64).toInt = 32 from by decide) (by omega) (by omega)
          refine lv_iload hx hb dX12_spelled_104 (lv_at hl 6 rfl) ?_
          refine lv_i2l (v := p5.toInt64) hx hb dX12_spelled_106 rfl (lv_topl (fun v57 ev57 => ?_))
          have ev57i : v57.toInt = a5 := l_ofi ev57.symm e5
          refine lv_ladd hx hb dX12_spelled_107 (lv_topl (fun v58 ev58 => ?_))
          have c59 := i_rng p5; rw [show p5.toInt = a5 from e5] at c59
          have ev58i : v58.toInt = (((((((((a0 - 96) * 32) + a1) - 96) * 32) + a3) - 96) * 32) + a5) := l_add ev58 ev56i ev57i (by omega) (by omega)
          refine lv_ldc2 (v := 96) hx hb E.2.2.2.1 (E.2.2.2.2.1 _ w_1507) dX12_spelled_108 ?_
          refine lv_lsub hx hb dX12_spelled_111 (lv_topl (fun v60 ev60 => ?_))
          have ev60i : v60.toInt = ((((((((((a0 - 96) * 32) + a1) - 96) * 32) + a3) - 96) * 32) + a5) - 96) := l_sub ev60 ev58i (show (96 : Int64).toInt = 96 from by decide) (by omega) (by omega)
          refine lv_goto (tgt := 117) hx hb dX12_spelled_112 rfl ?_
          exact ret v60 H0 [] _ _ dX12_spelled_117 ⟨rfl, trivial⟩ hC0 hS0
      · refine lv_lload hx hb dX12_spelled_72 (lv_at hl 0 rfl) ?_
        refine lv_ldc2 (v := 32) hx hb E.2.2.2.1 (E.2.2.2.2.1 _ w_1506) dX12_spelled_74 ?_
        refine lv_lmul hx hb dX12_spelled_77 (lv_topl (fun v61 ev61 => ?_))
        have ev61i : v61.toInt = ((((((((a0 - 96) * 32) + a1) - 96) * 32) + a3) - 96) * 32) := l_mul ev61 ev53i (show (32 : Int64).toInt = 32 from by decide) (by omega) (by omega)
        refine lv_iload hx hb dX12_spelled_78 (lv_at hl 5 rfl) ?_
        refine lv_i2l (v := p4.toInt64) hx hb dX12_spelled_80 rfl (lv_topl (fun v62 ev62 => ?_))
        have ev62i : v62.toInt = a4 := l_ofi ev62.symm e4
        refine lv_ladd hx hb dX12_spelled_81 (lv_topl (fun v63 ev63 => ?_))
        have c64 := i_rng p4; rw [show p4.toInt = a4 from e4] at c64
        have ev63i : v63.toInt = (((((((((a0 - 96) * 32) + a1) - 96) * 32) + a3) - 96) * 32) + a4) := l_add ev63 ev61i ev62i (by omega) (by omega)
        refine lv_ldc2 (v := 96) hx hb E.2.2.2.1 (E.2.2.2.2.1 _ w_1507) dX12_spelled_82 ?_
        refine lv_lsub hx hb dX12_spelled_85 (lv_topl (fun v65 ev65 => ?_))
        have ev65i : v65.toInt = ((((((((((a0 - 96) * 32) + a1) - 96) * 32) + a3) - 96) * 32) + a4) - 96) := l_sub ev65 ev63i (show (96 : Int64).toInt = 96 from by decide) (by omega) (by omega)
        refine lv_goto (tgt := 91) hx hb dX12_spelled_86 rfl ?_
        refine lv_lstore hx hb dX12_spelled_91 hl (by decide) rfl (fun ls hl => ?_)
        replace hl : lv_has ls 8 [(6, .long v65), (0, .int p0), (1, .int p1), (2, .int p2), (3, .int p3), (4, .int p4), (5, .int p5)] := hl
        refine lv_iload hx hb dX12_spelled_93 (lv_at hl 6 rfl) ?_
        refine q_if_le hx hb (a := a5) e5 (tgt := 115) dX12_spelled_95 rfl (fun c66 => ?_) (fun c66 => ?_)
        · refine lv_lload hx hb dX12_spelled_115 (lv_at hl 0 rfl) ?_
          exact ret v65 H0 [] _ _ dX12_spelled_117 ⟨rfl, trivial⟩ hC0 hS0
        · refine lv_lload hx hb dX12_spelled_98 (lv_at hl 0 rfl) ?_
          refine lv_ldc2 (v := 32) hx hb E.2.2.2.1 (E.2.2.2.2.1 _ w_1506) dX12_spelled_100 ?_
          refine lv_lmul hx hb dX12_spelled_103 (lv_topl (fun v67 ev67 => ?_))
          have ev67i : v67.toInt = (((((((((((a0 - 96) * 32) + a1) - 96) * 32) + a3) - 96) * 32) + a4) - 96) * 32) := l_mul ev67 ev65i (show (32 : Int64).toInt = 32 from by decide) (by omega) (by omega)
          refine lv_iload hx hb dX12_spelled_104 (lv_at hl 6 rfl) ?_
          refine lv_i2l (v := p5.toInt64) hx hb dX12_spelled_106 rfl (lv_topl (fun v68 ev68 => ?_))
          have ev68i : v68.toInt = a5 := l_ofi ev68.symm e5
          refine lv_ladd hx hb dX12_spelled_107 (lv_topl (fun v69 ev69 => ?_))
          have c70 := i_rng p5; rw [show p5.toInt = a5 from e5] at c70
          have ev69i : v69.toInt = ((((((((((((a0 - 96) * 32) + a1) - 96) * 32) + a3) - 96) * 32) + a4) - 96) * 32) + a5) := l_add ev69 ev67i ev68i (by omega) (by omega)
          refine lv_ldc2 (v := 96) hx hb E.2.2.2.1 (E.2.2.2.2.1 _ w_1507) dX12_spelled_108 ?_
          refine lv_lsub hx hb dX12_spelled_111 (lv_topl (fun v71 ev71 => ?_))
          have ev71i : v71.toInt = (((((((((((((a0 - 96) * 32) + a1) - 96) * 32) + a3) - 96) * 32) + a4) - 96) * 32) + a5) - 96) := l_sub ev71 ev69i (show (96 : Int64).toInt = 96 from by decide) (by omega) (by omega)
          refine lv_goto (tgt := 117) hx hb dX12_spelled_112 rfl ?_
          exact ret v71 H0 [] _ _ dX12_spelled_117 ⟨rfl, trivial⟩ hC0 hS0
  · refine lv_lload hx hb dX12_spelled_23 (lv_at hl 0 rfl) ?_
    refine lv_ldc2 (v := 32) hx hb E.2.2.2.1 (E.2.2.2.2.1 _ w_1506) dX12_spelled_25 ?_
    refine lv_lmul hx hb dX12_spelled_28 (lv_topl (fun v72 ev72 => ?_))
    have ev72i : v72.toInt = (((((a0 - 96) * 32) + a1) - 96) * 32) := l_mul ev72 ev28i (show (32 : Int64).toInt = 32 from by decide) (by omega) (by omega)
    refine lv_iload_n hx hb dX12_spelled_29 rfl (lv_at hl 3 rfl) ?_
    refine lv_i2l (v := p2.toInt64) hx hb dX12_spelled_30 rfl (lv_topl (fun v73 ev73 => ?_))
    have ev73i : v73.toInt = a2 := l_ofi ev73.symm e2
    refine lv_ladd hx hb dX12_spelled_31 (lv_topl (fun v74 ev74 => ?_))
    have c75 := i_rng p2; rw [show p2.toInt = a2 from e2] at c75
    have ev74i : v74.toInt = ((((((a0 - 96) * 32) + a1) - 96) * 32) + a2) := l_add ev74 ev72i ev73i (by omega) (by omega)
    refine lv_ldc2 (v := 96) hx hb E.2.2.2.1 (E.2.2.2.2.1 _ w_1507) dX12_spelled_32 ?_
    refine lv_lsub hx hb dX12_spelled_35 (lv_topl (fun v76 ev76 => ?_))
    have ev76i : v76.toInt = (((((((a0 - 96) * 32) + a1) - 96) * 32) + a2) - 96) := l_sub ev76 ev74i (show (96 : Int64).toInt = 96 from by decide) (by omega) (by omega)
    refine lv_goto (tgt := 41) hx hb dX12_spelled_36 rfl ?_
    refine lv_lstore hx hb dX12_spelled_41 hl (by decide) rfl (fun ls hl => ?_)
    replace hl : lv_has ls 8 [(6, .long v76), (0, .int p0), (1, .int p1), (2, .int p2), (3, .int p3), (4, .int p4), (5, .int p5)] := hl
    refine lv_iload_n hx hb dX12_spelled_43 rfl (lv_at hl 4 rfl) ?_
    refine q_if_le hx hb (a := a3) e3 (tgt := 63) dX12_spelled_44 rfl (fun c77 => ?_) (fun c77 => ?_)
    · refine lv_lload hx hb dX12_spelled_63 (lv_at hl 0 rfl) ?_
      refine lv_lstore hx hb dX12_spelled_65 hl (by decide) rfl (fun ls hl => ?_)
      replace hl : lv_has ls 8 [(6, .long v76), (0, .int p0), (1, .int p1), (2, .int p2), (3, .int p3), (4, .int p4), (5, .int p5)] := hl
      refine lv_iload hx hb dX12_spelled_67 (lv_at hl 5 rfl) ?_
      refine q_if_le hx hb (a := a4) e4 (tgt := 89) dX12_spelled_69 rfl (fun c78 => ?_) (fun c78 => ?_)
      · refine lv_lload hx hb dX12_spelled_89 (lv_at hl 0 rfl) ?_
        refine lv_lstore hx hb dX12_spelled_91 hl (by decide) rfl (fun ls hl => ?_)
        replace hl : lv_has ls 8 [(6, .long v76), (0, .int p0), (1, .int p1), (2, .int p2), (3, .int p3), (4, .int p4), (5, .int p5)] := hl
        refine lv_iload hx hb dX12_spelled_93 (lv_at hl 6 rfl) ?_
        refine q_if_le hx hb (a := a5) e5 (tgt := 115) dX12_spelled_95 rfl (fun c79 => ?_) (fun c79 => ?_)
        · refine lv_lload hx hb dX12_spelled_115 (lv_at hl 0 rfl) ?_
          exact ret v76 H0 [] _ _ dX12_spelled_117 ⟨rfl, trivial⟩ hC0 hS0
        · refine lv_lload hx hb dX12_spelled_98 (lv_at hl 0 rfl) ?_
          refine lv_ldc2 (v := 32) hx hb E.2.2.2.1 (E.2.2.2.2.1 _ w_1506) dX12_spelled_100 ?_
          refine lv_lmul hx hb dX12_spelled_103 (lv_topl (fun v80 ev80 => ?_))
          have ev80i : v80.toInt = ((((((((a0 - 96) * 32) + a1) - 96) * 32) + a2) - 96) * 32) := l_mul ev80 ev76i (show (32 : Int64).toInt = 32 from by decide) (by omega) (by omega)
          refine lv_iload hx hb dX12_spelled_104 (lv_at hl 6 rfl) ?_
          refine lv_i2l (v := p5.toInt64) hx hb dX12_spelled_106 rfl (lv_topl (fun v81 ev81 => ?_))
          have ev81i : v81.toInt = a5 := l_ofi ev81.symm e5
          refine lv_ladd hx hb dX12_spelled_107 (lv_topl (fun v82 ev82 => ?_))
          have c83 := i_rng p5; rw [show p5.toInt = a5 from e5] at c83
          have ev82i : v82.toInt = (((((((((a0 - 96) * 32) + a1) - 96) * 32) + a2) - 96) * 32) + a5) := l_add ev82 ev80i ev81i (by omega) (by omega)
          refine lv_ldc2 (v := 96) hx hb E.2.2.2.1 (E.2.2.2.2.1 _ w_1507) dX12_spelled_108 ?_
          refine lv_lsub hx hb dX12_spelled_111 (lv_topl (fun v84 ev84 => ?_))
          have ev84i : v84.toInt = ((((((((((a0 - 96) * 32) + a1) - 96) * 32) + a2) - 96) * 32) + a5) - 96) := l_sub ev84 ev82i (show (96 : Int64).toInt = 96 from by decide) (by omega) (by omega)
          refine lv_goto (tgt := 117) hx hb dX12_spelled_112 rfl ?_
          exact ret v84 H0 [] _ _ dX12_spelled_117 ⟨rfl, trivial⟩ hC0 hS0
      · refine lv_lload hx hb dX12_spelled_72 (lv_at hl 0 rfl) ?_
        refine lv_ldc2 (v := 32) hx hb E.2.2.2.1 (E.2.2.2.2.1 _ w_1506) dX12_spelled_74 ?_
        refine lv_lmul hx hb dX12_spelled_77 (lv_topl (fun v85 ev85 => ?_))
        have ev85i : v85.toInt = ((((((((a0 - 96) * 32) + a1) - 96) * 32) + a2) - 96) * 32) := l_mul ev85 ev76i (show (32 : Int64).toInt = 32 from by decide) (by omega) (by omega)
        refine lv_iload hx hb dX12_spelled_78 (lv_at hl 5 rfl) ?_
        refine lv_i2l (v := p4.toInt64) hx hb dX12_spelled_80 rfl (lv_topl (fun v86 ev86 => ?_))
        have ev86i : v86.toInt = a4 := l_ofi ev86.symm e4
        refine lv_ladd hx hb dX12_spelled_81 (lv_topl (fun v87 ev87 => ?_))
        have c88 := i_rng p4; rw [show p4.toInt = a4 from e4] at c88
        have ev87i : v87.toInt = (((((((((a0 - 96) * 32) + a1) - 96) * 32) + a2) - 96) * 32) + a4) := l_add ev87 ev85i ev86i (by omega) (by omega)
        refine lv_ldc2 (v := 96) hx hb E.2.2.2.1 (E.2.2.2.2.1 _ w_1507) dX12_spelled_82 ?_
        refine lv_lsub hx hb dX12_spelled_85 (lv_topl (fun v89 ev89 => ?_))
        have ev89i : v89.toInt = ((((((((((a0 - 96) * 32) + a1) - 96) * 32) + a2) - 96) * 32) + a4) - 96) := l_sub ev89 ev87i (show (96 : Int64).toInt = 96 from by decide) (by omega) (by omega)
        refine lv_goto (tgt := 91) hx hb dX12_spelled_86 rfl ?_
        refine lv_lstore hx hb dX12_spelled_91 hl (by decide) rfl (fun ls hl => ?_)
        replace hl : lv_has ls 8 [(6, .long v89), (0, .int p0), (1, .int p1), (2, .int p2), (3, .int p3), (4, .int p4), (5, .int p5)] := hl
        refine lv_iload hx hb dX12_spelled_93 (lv_at hl 6 rfl) ?_
        refine q_if_le hx hb (a := a5) e5 (tgt := 115) dX12_spelled_95 rfl (fun c90 => ?_) (fun c90 => ?_)
        · refine lv_lload hx hb dX12_spelled_115 (lv_at hl 0 rfl) ?_
          exact ret v89 H0 [] _ _ dX12_spelled_117 ⟨rfl, trivial⟩ hC0 hS0
        · refine lv_lload hx hb dX12_spelled_98 (lv_at hl 0 rfl) ?_
          refine lv_ldc2 (v := 32) hx hb E.2.2.2.1 (E.2.2.2.2.1 _ w_1506) dX12_spelled_100 ?_
          refine lv_lmul hx hb dX12_spelled_103 (lv_topl (fun v91 ev91 => ?_))
          have ev91i : v91.toInt = (((((((((((a0 - 96) * 32) + a1) - 96) * 32) + a2) - 96) * 32) + a4) - 96) * 32) := l_mul ev91 ev89i (show (32 : Int64).toInt = 32 from by decide) (by omega) (by omega)
          refine lv_iload hx hb dX12_spelled_104 (lv_at hl 6 rfl) ?_
          refine lv_i2l (v := p5.toInt64) hx hb dX12_spelled_106 rfl (lv_topl (fun v92 ev92 => ?_))
          have ev92i : v92.toInt = a5 := l_ofi ev92.symm e5
          refine lv_ladd hx hb dX12_spelled_107 (lv_topl (fun v93 ev93 => ?_))
          have c94 := i_rng p5; rw [show p5.toInt = a5 from e5] at c94
          have ev93i : v93.toInt = ((((((((((((a0 - 96) * 32) + a1) - 96) * 32) + a2) - 96) * 32) + a4) - 96) * 32) + a5) := l_add ev93 ev91i ev92i (by omega) (by omega)
          refine lv_ldc2 (v := 96) hx hb E.2.2.2.1 (E.2.2.2.2.1 _ w_1507) dX12_spelled_108 ?_
          refine lv_lsub hx hb dX12_spelled_111 (lv_topl (fun v95 ev95 => ?_))
          have ev95i : v95.toInt = (((((((((((((a0 - 96) * 32) + a1) - 96) * 32) + a2) - 96) * 32) + a4) - 96) * 32) + a5) - 96) := l_sub ev95 ev93i (show (96 : Int64).toInt = 96 from by decide) (by omega) (by omega)
          refine lv_goto (tgt := 117) hx hb dX12_spelled_112 rfl ?_
          exact ret v95 H0 [] _ _ dX12_spelled_117 ⟨rfl, trivial⟩ hC0 hS0
    · refine lv_lload hx hb dX12_spelled_47 (lv_at hl 0 rfl) ?_
      refine lv_ldc2 (v := 32) hx hb E.2.2.2.1 (E.2.2.2.2.1 _ w_1506) dX12_spelled_49 ?_
      refine lv_lmul hx hb dX12_spelled_52 (lv_topl (fun v96 ev96 => ?_))
      have ev96i : v96.toInt = ((((((((a0 - 96) * 32) + a1) - 96) * 32) + a2) - 96) * 32) := l_mul ev96 ev76i (show (32 : Int64).toInt = 32 from by decide) (by omega) (by omega)
      refine lv_iload_n hx hb dX12_spelled_53 rfl (lv_at hl 4 rfl) ?_
      refine lv_i2l (v := p3.toInt64) hx hb dX12_spelled_54 rfl (lv_topl (fun v97 ev97 => ?_))
      have ev97i : v97.toInt = a3 := l_ofi ev97.symm e3
      refine lv_ladd hx hb dX12_spelled_55 (lv_topl (fun v98 ev98 => ?_))
      have c99 := i_rng p3; rw [show p3.toInt = a3 from e3] at c99
      have ev98i : v98.toInt = (((((((((a0 - 96) * 32) + a1) - 96) * 32) + a2) - 96) * 32) + a3) := l_add ev98 ev96i ev97i (by omega) (by omega)
      refine lv_ldc2 (v := 96) hx hb E.2.2.2.1 (E.2.2.2.2.1 _ w_1507) dX12_spelled_56 ?_
      refine lv_lsub hx hb dX12_spelled_59 (lv_topl (fun v100 ev100 => ?_))
      have ev100i : v100.toInt = ((((((((((a0 - 96) * 32) + a1) - 96) * 32) + a2) - 96) * 32) + a3) - 96) := l_sub ev100 ev98i (show (96 : Int64).toInt = 96 from by decide) (by omega) (by omega)
      refine lv_goto (tgt := 65) hx hb dX12_spelled_60 rfl ?_
      refine lv_lstore hx hb dX12_spelled_65 hl (by decide) rfl (fun ls hl => ?_)
      replace hl : lv_has ls 8 [(6, .long v100), (0, .int p0), (1, .int p1), (2, .int p2), (3, .int p3), (4, .int p4), (5, .int p5)] := hl
      refine lv_iload hx hb dX12_spelled_67 (lv_at hl 5 rfl) ?_
      refine q_if_le hx hb (a := a4) e4 (tgt := 89) dX12_spelled_69 rfl (fun c101 => ?_) (fun c101 => ?_)
      · refine lv_lload hx hb dX12_spelled_89 (lv_at hl 0 rfl) ?_
        refine lv_lstore hx hb dX12_spelled_91 hl (by decide) rfl (fun ls hl => ?_)
        replace hl : lv_has ls 8 [(6, .long v100), (0, .int p0), (1, .int p1), (2, .int p2), (3, .int p3), (4, .int p4), (5, .int p5)] := hl
        refine lv_iload hx hb dX12_spelled_93 (lv_at hl 6 rfl) ?_
        refine q_if_le hx hb (a := a5) e5 (tgt := 115) dX12_spelled_95 rfl (fun c102 => ?_) (fun c102 => ?_)
        · refine lv_lload hx hb dX12_spelled_115 (lv_at hl 0 rfl) ?_
          exact ret v100 H0 [] _ _ dX12_spelled_117 ⟨rfl, trivial⟩ hC0 hS0
        · refine lv_lload hx hb dX12_spelled_98 (lv_at hl 0 rfl) ?_
          refine lv_ldc2 (v := 32) hx hb E.2.2.2.1 (E.2.2.2.2.1 _ w_1506) dX12_spelled_100 ?_
          refine lv_lmul hx hb dX12_spelled_103 (lv_topl (fun v103 ev103 => ?_))
          have ev103i : v103.toInt = (((((((((((a0 - 96) * 32) + a1) - 96) * 32) + a2) - 96) * 32) + a3) - 96) * 32) := l_mul ev103 ev100i (show (32 : Int64).toInt = 32 from by decide) (by omega) (by omega)
          refine lv_iload hx hb dX12_spelled_104 (lv_at hl 6 rfl) ?_
          refine lv_i2l (v := p5.toInt64) hx hb dX12_spelled_106 rfl (lv_topl (fun v104 ev104 => ?_))
          have ev104i : v104.toInt = a5 := l_ofi ev104.symm e5
          refine lv_ladd hx hb dX12_spelled_107 (lv_topl (fun v105 ev105 => ?_))
          have c106 := i_rng p5; rw [show p5.toInt = a5 from e5] at c106
          have ev105i : v105.toInt = ((((((((((((a0 - 96) * 32) + a1) - 96) * 32) + a2) - 96) * 32) + a3) - 96) * 32) + a5) := l_add ev105 ev103i ev104i (by omega) (by omega)
          refine lv_ldc2 (v := 96) hx hb E.2.2.2.1 (E.2.2.2.2.1 _ w_1507) dX12_spelled_108 ?_
          refine lv_lsub hx hb dX12_spelled_111 (lv_topl (fun v107 ev107 => ?_))
          have ev107i : v107.toInt = (((((((((((((a0 - 96) * 32) + a1) - 96) * 32) + a2) - 96) * 32) + a3) - 96) * 32) + a5) - 96) := l_sub ev107 ev105i (show (96 : Int64).toInt = 96 from by decide) (by omega) (by omega)
          refine lv_goto (tgt := 117) hx hb dX12_spelled_112 rfl ?_
          exact ret v107 H0 [] _ _ dX12_spelled_117 ⟨rfl, trivial⟩ hC0 hS0
      · refine lv_lload hx hb dX12_spelled_72 (lv_at hl 0 rfl) ?_
        refine lv_ldc2 (v := 32) hx hb E.2.2.2.1 (E.2.2.2.2.1 _ w_1506) dX12_spelled_74 ?_
        refine lv_lmul hx hb dX12_spelled_77 (lv_topl (fun v108 ev108 => ?_))
        have ev108i : v108.toInt = (((((((((((a0 - 96) * 32) + a1) - 96) * 32) + a2) - 96) * 32) + a3) - 96) * 32) := l_mul ev108 ev100i (show (32 : Int64).toInt = 32 from by decide) (by omega) (by omega)
        refine lv_iload hx hb dX12_spelled_78 (lv_at hl 5 rfl) ?_
        refine lv_i2l (v := p4.toInt64) hx hb dX12_spelled_80 rfl (lv_topl (fun v109 ev109 => ?_))
        have ev109i : v109.toInt = a4 := l_ofi ev109.symm e4
        refine lv_ladd hx hb dX12_spelled_81 (lv_topl (fun v110 ev110 => ?_))
        have c111 := i_rng p4; rw [show p4.toInt = a4 from e4] at c111
        have ev110i : v110.toInt = ((((((((((((a0 - 96) * 32) + a1) - 96) * 32) + a2) - 96) * 32) + a3) - 96) * 32) + a4) := l_add ev110 ev108i ev109i (by omega) (by omega)
        refine lv_ldc2 (v := 96) hx hb E.2.2.2.1 (E.2.2.2.2.1 _ w_1507) dX12_spelled_82 ?_
        refine lv_lsub hx hb dX12_spelled_85 (lv_topl (fun v112 ev112 => ?_))
        have ev112i : v112.toInt = (((((((((((((a0 - 96) * 32) + a1) - 96) * 32) + a2) - 96) * 32) + a3) - 96) * 32) + a4) - 96) := l_sub ev112 ev110i (show (96 : Int64).toInt = 96 from by decide) (by omega) (by omega)
        refine lv_goto (tgt := 91) hx hb dX12_spelled_86 rfl ?_
        refine lv_lstore hx hb dX12_spelled_91 hl (by decide) rfl (fun ls hl => ?_)
        replace hl : lv_has ls 8 [(6, .long v112), (0, .int p0), (1, .int p1), (2, .int p2), (3, .int p3), (4, .int p4), (5, .int p5)] := hl
        refine lv_iload hx hb dX12_spelled_93 (lv_at hl 6 rfl) ?_
        refine q_if_le hx hb (a := a5) e5 (tgt := 115) dX12_spelled_95 rfl (fun c113 => ?_) (fun c113 => ?_)
        · refine lv_lload hx hb dX12_spelled_115 (lv_at hl 0 rfl) ?_
          exact ret v112 H0 [] _ _ dX12_spelled_117 ⟨rfl, trivial⟩ hC0 hS0
        · refine lv_lload hx hb dX12_spelled_98 (lv_at hl 0 rfl) ?_
          refine lv_ldc2 (v := 32) hx hb E.2.2.2.1 (E.2.2.2.2.1 _ w_1506) dX12_spelled_100 ?_
          refine lv_lmul hx hb dX12_spelled_103 (lv_topl (fun v114 ev114 => ?_))
          have ev114i : v114.toInt = ((((((((((((((a0 - 96) * 32) + a1) - 96) * 32) + a2) - 96) * 32) + a3) - 96) * 32) + a4) - 96) * 32) := l_mul ev114 ev112i (show (32 : Int64).toInt = 32 from by decide) (by omega) (by omega)
          refine lv_iload hx hb dX12_spelled_104 (lv_at hl 6 rfl) ?_
          refine lv_i2l (v := p5.toInt64) hx hb dX12_spelled_106 rfl (lv_topl (fun v115 ev115 => ?_))
          have ev115i : v115.toInt = a5 := l_ofi ev115.symm e5
          refine lv_ladd hx hb dX12_spelled_107 (lv_topl (fun v116 ev116 => ?_))
          have c117 := i_rng p5; rw [show p5.toInt = a5 from e5] at c117
          have ev116i : v116.toInt = (((((((((((((((a0 - 96) * 32) + a1) - 96) * 32) + a2) - 96) * 32) + a3) - 96) * 32) + a4) - 96) * 32) + a5) := l_add ev116 ev114i ev115i (by omega) (by omega)
          refine lv_ldc2 (v := 96) hx hb E.2.2.2.1 (E.2.2.2.2.1 _ w_1507) dX12_spelled_108 ?_
          refine lv_lsub hx hb dX12_spelled_111 (lv_topl (fun v118 ev118 => ?_))
          have ev118i : v118.toInt = ((((((((((((((((a0 - 96) * 32) + a1) - 96) * 32) + a2) - 96) * 32) + a3) - 96) * 32) + a4) - 96) * 32) + a5) - 96) := l_sub ev118 ev116i (show (96 : Int64).toInt = 96 from by decide) (by omega) (by omega)
          refine lv_goto (tgt := 117) hx hb dX12_spelled_112 rfl ?_
          exact ret v118 H0 [] _ _ dX12_spelled_117 ⟨rfl, trivial⟩ hC0 hS0
