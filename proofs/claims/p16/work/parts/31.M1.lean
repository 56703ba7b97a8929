set_option maxRecDepth 100000 in
set_option maxHeartbeats 4000000 in
theorem m_X12_isLetter (l : Launch) (X : xW) (Γ : Nat → Option Nat) (H0 : Heap) (hC0 : Conf X Γ H0) (p0 : Int32) {a0 : Int} (e0 : p0.toInt = a0) : Ctr l X Γ yX12_isLetter cX12_isLetter 1 (some .boolean) 0 [.int p0] H0 (QI X Γ (fun v H1 => H1 = H0 ∧ ((v = 1 ∧ (97 ≤ a0 ∧ a0 ≤ 122)) ∨ (v = 0 ∧ (a0 < 97 ∨ 122 < a0))))) := by
  refine q_enterZ (own := "SnowFortsModel") (by decide) rfl (Nat.le_of_ble_eq_true rfl) ?_
  intro p e s m args below meth c ls Qz E hl ret hS0
  have hx := E.1; have hb := E.2.1
  have hl : lv_has ls 1 [(0, .int p0)] := hl
  refine lv_iload_n hx hb dX12_isLetter_0 rfl (lv_at hl 0 rfl) ?_
  refine lv_bipush (v := 97) hx hb dX12_isLetter_1 rfl ?_
  refine q_icmp_lt hx hb (a := a0) (b := 97) e0 (by decide) (tgt := 16) dX12_isLetter_3 rfl (fun c21 => ?_) (fun c21 => ?_)
  · refine lv_iconst (v := 0) hx hb dX12_isLetter_16 rfl ?_
    exact ret 0 H0 [] _ _ dX12_isLetter_17 (Or.inl rfl) ⟨rfl, Or.inr ⟨rfl, by omega⟩⟩ hC0 hS0
  · refine lv_iload_n hx hb dX12_isLetter_6 rfl (lv_at hl 0 rfl) ?_
    refine lv_bipush (v := 122) hx hb dX12_isLetter_7 rfl ?_
    refine q_icmp_gt hx hb (a := a0) (b := 122) e0 (by decide) (tgt := 16) dX12_isLetter_9 rfl (fun c22 => ?_) (fun c22 => ?_)
    · refine lv_iconst (v := 0) hx hb dX12_isLetter_16 rfl ?_
      exact ret 0 H0 [] _ _ dX12_isLetter_17 (Or.inl rfl) ⟨rfl, Or.inr ⟨rfl, by omega⟩⟩ hC0 hS0
    · refine lv_iconst (v := 1) hx hb dX12_isLetter_12 rfl ?_
      refine lv_goto (tgt := 17) hx hb dX12_isLetter_13 rfl ?_
      exact ret 1 H0 [] _ _ dX12_isLetter_17 (Or.inr rfl) ⟨rfl, Or.inl ⟨rfl, by omega, by omega⟩⟩ hC0 hS0
set_option maxRecDepth 100000 in
set_option maxHeartbeats 4000000 in
theorem m_X12_isDigit (l : Launch) (X : xW) (Γ : Nat → Option Nat) (H0 : Heap) (hC0 : Conf X Γ H0) (p0 : Int32) {a0 : Int} (e0 : p0.toInt = a0) : Ctr l X Γ yX12_isDigit cX12_isDigit 1 (some .boolean) 0 [.int p0] H0 (QI X Γ (fun v H1 => H1 = H0 ∧ ((v = 1 ∧ (48 ≤ a0 ∧ a0 ≤ 57)) ∨ (v = 0 ∧ (a0 < 48 ∨ 57 < a0))))) := by
  refine q_enterZ (own := "SnowFortsModel") (by decide) rfl (Nat.le_of_ble_eq_true rfl) ?_
  intro p e s m args below meth c ls Qz E hl ret hS0
  have hx := E.1; have hb := E.2.1
  have hl : lv_has ls 1 [(0, .int p0)] := hl
  refine lv_iload_n hx hb dX12_isDigit_0 rfl (lv_at hl 0 rfl) ?_
  refine lv_bipush (v := 48) hx hb dX12_isDigit_1 rfl ?_
  refine q_icmp_lt hx hb (a := a0) (b := 48) e0 (by decide) (tgt := 16) dX12_isDigit_3 rfl (fun c21 => ?_) (fun c21 => ?_)
  · refine lv_iconst (v := 0) hx hb dX12_isDigit_16 rfl ?_
    exact ret 0 H0 [] _ _ dX12_isDigit_17 (Or.inl rfl) ⟨rfl, Or.inr ⟨rfl, by omega⟩⟩ hC0 hS0
  · refine lv_iload_n hx hb dX12_isDigit_6 rfl (lv_at hl 0 rfl) ?_
    refine lv_bipush (v := 57) hx hb dX12_isDigit_7 rfl ?_
    refine q_icmp_gt hx hb (a := a0) (b := 57) e0 (by decide) (tgt := 16) dX12_isDigit_9 rfl (fun c22 => ?_) (fun c22 => ?_)
    · refine lv_iconst (v := 0) hx hb dX12_isDigit_16 rfl ?_
      exact ret 0 H0 [] _ _ dX12_isDigit_17 (Or.inl rfl) ⟨rfl, Or.inr ⟨rfl, by omega⟩⟩ hC0 hS0
    · refine lv_iconst (v := 1) hx hb dX12_isDigit_12 rfl ?_
      refine lv_goto (tgt := 17) hx hb dX12_isDigit_13 rfl ?_
      exact ret 1 H0 [] _ _ dX12_isDigit_17 (Or.inr rfl) ⟨rfl, Or.inl ⟨rfl, by omega, by omega⟩⟩ hC0 hS0
set_option maxRecDepth 100000 in
set_option maxHeartbeats 4000000 in
theorem m_X12_isSignByte (l : Launch) (X : xW) (Γ : Nat → Option Nat) (H0 : Heap) (hC0 : Conf X Γ H0) (h0 : Nat) (g0 : Γ h0 = some 11) (p1 : Int32) {a1 : Int} (e1 : p1.toInt = a1) (ca : Nat) (gca : Γ ca = some 64) (uc : ∀ a, Γ a = some 64 → a = ca) : Ctr l X Γ yX12_isSignByte cX12_isSignByte 2 (some .boolean) 0 [.ref h0, .int p1] H0 (QI X Γ (fun v H1 => H1 = H0 ∧ ((v = 1 ∧ (59 ≤ a1 ∧ a1 ≤ 62)) ∨ (v = 0 ∧ (a1 < 59 ∨ 62 < a1))))) := by
  refine q_enterZ (own := "SnowFortsModel") (by decide) rfl (Nat.le_of_ble_eq_true rfl) ?_
  intro p e s m args below meth c ls Qz E hl ret hS0
  have hx := E.1; have hb := E.2.1
  have hl : lv_has ls 2 [(0, .ref h0), (1, .int p1)] := hl
  refine lv_iload_n hx hb dX12_isSignByte_0 rfl (lv_at hl 1 rfl) ?_
  refine lv_bipush (v := 59) hx hb dX12_isSignByte_1 rfl ?_
  refine q_icmp_eq hx hb (a := a1) (b := 59) e1 (by decide) (tgt := 24) dX12_isSignByte_3 rfl (fun c21 => ?_) (fun c21 => ?_)
  · refine lv_iconst (v := 1) hx hb dX12_isSignByte_24 rfl ?_
    refine lv_goto (tgt := 29) hx hb dX12_isSignByte_25 rfl ?_
    exact ret 1 H0 [] _ _ dX12_isSignByte_29 (Or.inr rfl) ⟨rfl, Or.inl ⟨rfl, by omega, by omega⟩⟩ hC0 hS0
  · refine lv_iload_n hx hb dX12_isSignByte_6 rfl (lv_at hl 1 rfl) ?_
    refine lv_bipush (v := 60) hx hb dX12_isSignByte_7 rfl ?_
    refine q_icmp_eq hx hb (a := a1) (b := 60) e1 (by decide) (tgt := 24) dX12_isSignByte_9 rfl (fun c22 => ?_) (fun c22 => ?_)
    · refine lv_iconst (v := 1) hx hb dX12_isSignByte_24 rfl ?_
      refine lv_goto (tgt := 29) hx hb dX12_isSignByte_25 rfl ?_
      exact ret 1 H0 [] _ _ dX12_isSignByte_29 (Or.inr rfl) ⟨rfl, Or.inl ⟨rfl, by omega, by omega⟩⟩ hC0 hS0
    · refine lv_iload_n hx hb dX12_isSignByte_12 rfl (lv_at hl 1 rfl) ?_
      refine lv_bipush (v := 62) hx hb dX12_isSignByte_13 rfl ?_
      refine q_icmp_eq hx hb (a := a1) (b := 62) e1 (by decide) (tgt := 24) dX12_isSignByte_15 rfl (fun c23 => ?_) (fun c23 => ?_)
      · refine lv_iconst (v := 1) hx hb dX12_isSignByte_24 rfl ?_
        refine lv_goto (tgt := 29) hx hb dX12_isSignByte_25 rfl ?_
        exact ret 1 H0 [] _ _ dX12_isSignByte_29 (Or.inr rfl) ⟨rfl, Or.inl ⟨rfl, by omega, by omega⟩⟩ hC0 hS0
      · refine lv_iload_n hx hb dX12_isSignByte_18 rfl (lv_at hl 1 rfl) ?_
        refine lv_bipush (v := 61) hx hb dX12_isSignByte_19 rfl ?_
        refine q_icmp_ne hx hb (a := a1) (b := 61) e1 (by decide) (tgt := 28) dX12_isSignByte_21 rfl (fun c24 => ?_) (fun c24 => ?_)
        · refine lv_iconst (v := 0) hx hb dX12_isSignByte_28 rfl ?_
          exact ret 0 H0 [] _ _ dX12_isSignByte_29 (Or.inl rfl) ⟨rfl, Or.inr ⟨rfl, by omega⟩⟩ hC0 hS0
        · refine lv_iconst (v := 1) hx hb dX12_isSignByte_24 rfl ?_
          refine lv_goto (tgt := 29) hx hb dX12_isSignByte_25 rfl ?_
          exact ret 1 H0 [] _ _ dX12_isSignByte_29 (Or.inr rfl) ⟨rfl, Or.inl ⟨rfl, by omega, by omega⟩⟩ hC0 hS0
set_option maxRecDepth 100000 in
set_option maxHeartbeats 4000000 in
theorem m_X12_next (l : Launch) (X : xW) (Γ : Nat → Option Nat) (H0 : Heap) (hC0 : Conf X Γ H0) (h0 : Nat) (g0 : Γ h0 = some 11) (ca : Nat) (gca : Γ ca = some 64) (uc : ∀ a, Γ a = some 64 → a = ca) (tq : Nat) (htq : sR H0 h0 (X.1.2 11 7) = some tq) (gtq : Γ tq = some 63) : Ctr l X Γ yX12_next cX12_next 2 none 1 [.ref h0] H0 (QV X Γ (fun H1 => Kp X Γ [1, 6, 7, 8, 9, 10, 11, 12, 14, 15, 16, 17, 19, 22, 24, 26, 28, 30, 35, 38] H0 H1 ∧ (((sI H0 h0 (X.1.2 11 16)).toInt ≤ (sI H1 h0 (X.1.2 11 16)).toInt) ∧ ((sI H0 h0 (X.1.2 11 16)).toInt < (sI H1 h0 (X.1.2 11 16)).toInt + tk (sI H1 h0 (X.1.2 11 14)).toInt) ∧ ((sI H1 h0 (X.1.2 11 12)).toInt = (sI H0 h0 (X.1.2 11 12)).toInt) ∧ (TKM (bf H0 tq) (sI H0 h0 (X.1.2 11 9)).toInt (sI H0 h0 (X.1.2 11 16)).toInt (sI H1 h0 (X.1.2 11 15)).toInt (sI H1 h0 (X.1.2 11 16)).toInt (sI H1 h0 (X.1.2 11 14)).toInt (sI H1 h0 (X.1.2 11 17)).toInt (sI H1 h0 (X.1.2 11 18)).toInt (sJ H1 h0 (X.1.2 11 19)).toInt) ∧ ((sI H1 h0 (X.1.2 11 9)).toInt = (sI H0 h0 (X.1.2 11 9)).toInt) ∧ (∀ (kd vl w3 : Nat → Int) (pos : Nat → Nat) (N i : Nat), MC X H0 h0 tq kd vl w3 pos N i → kd i ≠ 0 → MC X H1 h0 tq kd vl w3 pos N (i + 1))))) := by
  refine q_enterV (own := "SnowFortsModel") (by decide) rfl (Nat.le_of_ble_eq_true rfl) ?_
  intro p e s m args below meth c ls Qz E hl ret hS0
  have hx := E.1; have hb := E.2.1
  have hKp0 : Kp X Γ [1, 6, 7, 8, 9, 10, 11, 12, 14, 15, 16, 17, 19, 22, 24, 26, 28, 30, 35, 38] H0 H0 := Kp.rf
  have hl : lv_has ls 2 [(0, .ref h0)] := hl
  have hz3 := f_bd hC0 g0 (ci := 11) (k := 9) rfl rfl
  have hz4 := f_bd hC0 g0 (ci := 11) (k := 16) rfl rfl
  have tqt : ∀ j, sI H0 tq j = sI H0 tq j := fun _ => rfl
  refine lv_aload_n hx hb dX12_next_0 rfl (lv_at hl 0 rfl) ?_
  refine lv_aload_n hx hb dX12_next_1 rfl (lv_at hl 0 rfl) ?_
  refine q_getI E hC0 g0 fa_RX12_111 dX12_next_2 (fun v21 ev21 lv21 uv21 => ?_)
  have m22 : (sI H0 h0 (X.1.2 11 16)).toInt = v21.toInt := (congrArg Int32.toInt ev21).trans rfl
  refine q_put E hC0 hS0 g0 fp_RX12_114 (tv_I rfl (by omega) (by omega)) rfl rfl dX12_next_5 (fun H23 locs23 hC23 hS23 U23 => ?_)
  have hKp23 := Kp.upO E g0 fp_RX12_114 rfl U23 hKp0
  have e24 := up_I U23
  have m25 : (sI H23 h0 (X.1.2 11 15)).toInt = v21.toInt := (congrArg Int32.toInt e24).trans rfl
  have tqt : ∀ j, sI H23 tq j = sI H0 tq j := fun j => (up_nI U23 (ne_k gtq g0 (by decide))).trans (tqt j)
  have m26 : (sI H23 h0 (X.1.2 11 12)).toInt = (sI H0 h0 (X.1.2 11 12)).toInt := congrArg Int32.toInt (up_nI U23 (ne_f E 11 12 15 rfl (by decide) (by decide) (by decide)))
  have m27 : (sI H23 h0 (X.1.2 11 14)).toInt = (sI H0 h0 (X.1.2 11 14)).toInt := congrArg Int32.toInt (up_nI U23 (ne_f E 11 14 15 rfl (by decide) (by decide) (by decide)))
  have m28 := congrArg tk m27
  have m29 : (sI H23 h0 (X.1.2 11 16)).toInt = (sI H0 h0 (X.1.2 11 16)).toInt := congrArg Int32.toInt (up_nI U23 (ne_f E 11 16 15 rfl (by decide) (by decide) (by decide)))
  have m30 : (sI H23 h0 (X.1.2 11 9)).toInt = (sI H0 h0 (X.1.2 11 9)).toInt := congrArg Int32.toInt (up_nI U23 (ne_f E 11 9 15 rfl (by decide) (by decide) (by decide)))
  have m31 : (sI H23 h0 (X.1.2 11 17)).toInt = (sI H0 h0 (X.1.2 11 17)).toInt := congrArg Int32.toInt (up_nI U23 (ne_f E 11 17 15 rfl (by decide) (by decide) (by decide)))
  have m32 : (sI H23 h0 (X.1.2 11 18)).toInt = (sI H0 h0 (X.1.2 11 18)).toInt := congrArg Int32.toInt (up_nI U23 (ne_f E 11 18 15 rfl (by decide) (by decide) (by decide)))
  have L8 : ∀ (n33 : Nat) (H33 : Heap) (locs33 : List Loc) (ls : Array Slot), ((sI H33 h0 (X.1.2 11 9)).toInt - (sI H33 h0 (X.1.2 11 15)).toInt).toNat < n33 → (sI H0 h0 (X.1.2 11 16)).toInt ≤ (sI H33 h0 (X.1.2 11 15)).toInt → (sI H33 h0 (X.1.2 11 16)).toInt = (sI H0 h0 (X.1.2 11 16)).toInt → (sI H33 h0 (X.1.2 11 12)).toInt = (sI H0 h0 (X.1.2 11 12)).toInt → (sI H33 h0 (X.1.2 11 9)).toInt = (sI H0 h0 (X.1.2 11 9)).toInt → SpP isBl (bf H0 tq) (sI H0 h0 (X.1.2 11 9)).toInt (sI H0 h0 (X.1.2 11 16)).toInt (sI H33 h0 (X.1.2 11 15)).toInt → Conf X Γ H33 → va_S (AΓ Γ) H0 H33 locs33 → Kp X Γ [1, 6, 7, 8, 9, 10, 11, 12, 14, 15, 16, 17, 19, 22, 24, 26, 28, 30, 35, 38] H0 H33 → (∀ j, sI H33 tq j = sI H0 tq j) → lv_has ls 2 [(0, .ref h0)] → W p l e (rmL 1) s m args below meth c H33 locs33 0 0 Qz (F0 m 8 ls []) := by
    intro n33
    induction n33 with
    | zero => intro H33 locs33 ls hm33 iv33_0 iv33_1 iv33_2 iv33_3 iv33_4 hC33 hS33 hKp33 tqt hl; exact absurd hm33 (Nat.not_lt_zero _)
    | succ n33 ih33 =>
      intro H33 locs33 ls hm33 iv33_0 iv33_1 iv33_2 iv33_3 iv33_4 hC33 hS33 hKp33 tqt hl
      have hsp := iv33_4
      refine lv_aload_n hx hb dX12_next_8 rfl (lv_at hl 0 rfl) ?_
      refine q_getI E hC33 g0 fa_RX12_114 dX12_next_9 (fun v34 ev34 lv34 uv34 => ?_)
      have m35 : (sI H33 h0 (X.1.2 11 15)).toInt = v34.toInt := (congrArg Int32.toInt ev34).trans rfl
      refine lv_aload_n hx hb dX12_next_12 rfl (lv_at hl 0 rfl) ?_
      refine q_getI E hC33 g0 fa_RX12_108 dX12_next_13 (fun v36 ev36 lv36 uv36 => ?_)
      have m37 : (sI H33 h0 (X.1.2 11 9)).toInt = v36.toInt := (congrArg Int32.toInt ev36).trans rfl
      refine q_icmp_ge hx hb (a := v34.toInt) (b := v36.toInt) rfl rfl (tgt := 58) dX12_next_16 rfl (fun c38 => ?_) (fun c38 => ?_)
      · have hsz0 : SpZ isBl (bf H0 tq) (sI H0 h0 (X.1.2 11 9)).toInt (sI H0 h0 (X.1.2 11 16)).toInt (sI H33 h0 (X.1.2 11 15)).toInt := by first | exact ⟨hsp, fun q => absurd q.1 (by omega)⟩ | exact ⟨hsp, fun q => by have q2 := q.2; unfold isBl at q2; omega⟩
        obtain ⟨sq, hsq⟩ : ∃ z, z = (sI H33 h0 (X.1.2 11 15)).toInt := ⟨_, rfl⟩
        have hsz := hsz0.cast rfl rfl hsq.symm
        refine lv_aload_n hx hb dX12_next_58 rfl (lv_at hl 0 rfl) ?_
        refine lv_aload_n hx hb dX12_next_59 rfl (lv_at hl 0 rfl) ?_
        refine q_getI E hC33 g0 fa_RX12_114 dX12_next_60 (fun v39 ev39 lv39 uv39 => ?_)
        have qv39 := ev34.symm.trans ev39; subst qv39
        refine q_put E hC33 hS33 g0 fp_RX12_111 (tv_I rfl (by omega) (by omega)) rfl rfl dX12_next_63 (fun H40 locs40 hC40 hS40 U40 => ?_)
        have hKp40 := Kp.upO E g0 fp_RX12_111 rfl U40 hKp33
        have e41 := up_I U40
        have m42 : (sI H40 h0 (X.1.2 11 16)).toInt = v34.toInt := (congrArg Int32.toInt e41).trans rfl
        have tqt : ∀ j, sI H40 tq j = sI H0 tq j := fun j => (up_nI U40 (ne_k gtq g0 (by decide))).trans (tqt j)
        have m43 : (sI H40 h0 (X.1.2 11 12)).toInt = (sI H33 h0 (X.1.2 11 12)).toInt := congrArg Int32.toInt (up_nI U40 (ne_f E 11 12 16 rfl (by decide) (by decide) (by decide)))
        have m44 : (sI H40 h0 (X.1.2 11 14)).toInt = (sI H33 h0 (X.1.2 11 14)).toInt := congrArg Int32.toInt (up_nI U40 (ne_f E 11 14 16 rfl (by decide) (by decide) (by decide)))
        have m45 := congrArg tk m44
        have m46 : (sI H40 h0 (X.1.2 11 15)).toInt = (sI H33 h0 (X.1.2 11 15)).toInt := congrArg Int32.toInt (up_nI U40 (ne_f E 11 15 16 rfl (by decide) (by decide) (by decide)))
        have m47 : (sI H40 h0 (X.1.2 11 9)).toInt = (sI H33 h0 (X.1.2 11 9)).toInt := congrArg Int32.toInt (up_nI U40 (ne_f E 11 9 16 rfl (by decide) (by decide) (by decide)))
        have m48 : (sI H40 h0 (X.1.2 11 17)).toInt = (sI H33 h0 (X.1.2 11 17)).toInt := congrArg Int32.toInt (up_nI U40 (ne_f E 11 17 16 rfl (by decide) (by decide) (by decide)))
        have m49 : (sI H40 h0 (X.1.2 11 18)).toInt = (sI H33 h0 (X.1.2 11 18)).toInt := congrArg Int32.toInt (up_nI U40 (ne_f E 11 18 16 rfl (by decide) (by decide) (by decide)))
        refine lv_aload_n hx hb dX12_next_66 rfl (lv_at hl 0 rfl) ?_
        have e51 := (up_nI U40 (ne_f E 11 15 16 rfl (by decide) (by decide) (by decide))).trans ev34
        refine q_getI E hC40 g0 fa_RX12_114 dX12_next_67 (fun v50 ev50 lv50 uv50 => ?_)
        have qv50 := e51.symm.trans ev50; subst qv50
        have m52 : (sI H40 h0 (X.1.2 11 15)).toInt = v34.toInt := (congrArg Int32.toInt ev50).trans rfl
        refine lv_aload_n hx hb dX12_next_70 rfl (lv_at hl 0 rfl) ?_
        have e54 := (up_nI U40 (ne_f E 11 9 16 rfl (by decide) (by decide) (by decide))).trans ev36
        refine q_getI E hC40 g0 fa_RX12_108 dX12_next_71 (fun v53 ev53 lv53 uv53 => ?_)
        have qv53 := e54.symm.trans ev53; subst qv53
        have m55 : (sI H40 h0 (X.1.2 11 9)).toInt = v36.toInt := (congrArg Int32.toInt ev53).trans rfl
        refine q_icmp_lt hx hb (a := v34.toInt) (b := v36.toInt) rfl rfl (tgt := 83) dX12_next_74 rfl (fun c56 => ?_) (fun c56 => ?_)
        · refine lv_aload_n hx hb dX12_next_83 rfl (lv_at hl 0 rfl) ?_
          refine lv_aload_n hx hb dX12_next_84 rfl (lv_at hl 0 rfl) ?_
          refine q_getI E hC40 g0 fa_RX12_114 dX12_next_85 (fun v57 ev57 lv57 uv57 => ?_)
          have qv57 := e51.symm.trans ev57; subst qv57
          refine q_goIp (q_runV (As := [.int v34]) (rest := []) E hC40 hS40 (m_X12_look2 l X Γ H40 hC40 h0 g0 v34 (a1 := v34.toInt) rfl ca gca uc tq ((kp_R hKp40 g0 (ci := 11) (k := 7) rfl (by decide) rfl).trans htq) gtq (by omega)) cw_X12_look2 cl_RX12_117 g0 ⟨rfl, rfl⟩ rfl hl.1 rfl (Nat.zero_le _) (by decide) dX12_next_88) hS40 (fun v58 locs58 hr58 hS58 => ?_)
          obtain ⟨f58_0, f58_1⟩ := hr58
          have hxx := LK.cv f58_1 tqt (n2 := (sI H0 h0 (X.1.2 11 9)).toInt) (a2 := sq) (by omega) (by omega)
          have hr1 := br_of hC0 gtq (j := sq.toNat) (by omega)
          refine lv_istore_n hx hb dX12_next_91 rfl hl (by decide) rfl (fun ls hl => ?_)
          have hl : lv_has ls 2 [(1, .int v58), (0, .ref h0)] := hl
          refine lv_iload_n hx hb dX12_next_92 rfl (lv_at hl 0 rfl) ?_
          refine q_goIp (q_runS (As := [.int v58]) (rest := []) E hS58 (m_X12_isLetter l X Γ H40 hC40 v58 (a0 := v58.toInt) rfl) cw_X12_isLetter cl_RX12_123 rfl hl.1 rfl (Nat.zero_le _) (by decide) dX12_next_93) hS58 (fun v59 locs59 hr59 hS59 => ?_)
          rcases hr59 with ⟨rfl, f59a0, f59a1⟩ | ⟨rfl, f59b⟩
          · refine q_if_eq hx hb (a := 1) (by decide) (tgt := 198) dX12_next_96 rfl (fun c60 => absurd c60 (by omega)) (fun c60 => ?_)
            have hls : isLt (bf H0 tq sq.toNat) := by unfold isLt; omega
            refine lv_aload_n hx hb dX12_next_99 rfl (lv_at hl 1 rfl) ?_
            refine lv_iconst (v := 1) hx hb dX12_next_100 rfl ?_
            refine q_put E hC40 hS59 g0 fp_RX12_120 tv_F rfl rfl dX12_next_101 (fun H61 locs61 hC61 hS61 U61 => ?_)
            have hKp61 := Kp.upO E g0 fp_RX12_120 rfl U61 hKp40
            have e62 := up_I U61
            have m63 : (sI H61 h0 (X.1.2 11 14)).toInt = 1 := (congrArg Int32.toInt e62).trans (show (1 : Int32).toInt = 1 from by decide)
            have tqt : ∀ j, sI H61 tq j = sI H0 tq j := fun j => (up_nI U61 (ne_k gtq g0 (by decide))).trans (tqt j)
            have m64 : (sI H61 h0 (X.1.2 11 12)).toInt = (sI H40 h0 (X.1.2 11 12)).toInt := congrArg Int32.toInt (up_nI U61 (ne_f E 11 12 14 rfl (by decide) (by decide) (by decide)))
            have m65 : (sI H61 h0 (X.1.2 11 16)).toInt = (sI H40 h0 (X.1.2 11 16)).toInt := congrArg Int32.toInt (up_nI U61 (ne_f E 11 16 14 rfl (by decide) (by decide) (by decide)))
            have m66 : (sI H61 h0 (X.1.2 11 15)).toInt = (sI H40 h0 (X.1.2 11 15)).toInt := congrArg Int32.toInt (up_nI U61 (ne_f E 11 15 14 rfl (by decide) (by decide) (by decide)))
            have m67 : (sI H61 h0 (X.1.2 11 9)).toInt = (sI H40 h0 (X.1.2 11 9)).toInt := congrArg Int32.toInt (up_nI U61 (ne_f E 11 9 14 rfl (by decide) (by decide) (by decide)))
            have m68 : (sI H61 h0 (X.1.2 11 17)).toInt = (sI H40 h0 (X.1.2 11 17)).toInt := congrArg Int32.toInt (up_nI U61 (ne_f E 11 17 14 rfl (by decide) (by decide) (by decide)))
            have m69 : (sI H61 h0 (X.1.2 11 18)).toInt = (sI H40 h0 (X.1.2 11 18)).toInt := congrArg Int32.toInt (up_nI U61 (ne_f E 11 18 14 rfl (by decide) (by decide) (by decide)))
            refine lv_aload_n hx hb dX12_next_104 rfl (lv_at hl 1 rfl) ?_
            refine lv_lconst (v := 0) hx hb dX12_next_105 rfl ?_
            refine q_put E hC61 hS61 g0 fp_RX12_126 tv_J rfl rfl dX12_next_106 (fun H70 locs70 hC70 hS70 U70 => ?_)
            have hKp70 := Kp.upO E g0 fp_RX12_126 rfl U70 hKp61
            have tqt : ∀ j, sI H70 tq j = sI H0 tq j := fun j => (up_nI U70 (ne_k gtq g0 (by decide))).trans (tqt j)
            have m71 : (sI H70 h0 (X.1.2 11 12)).toInt = (sI H61 h0 (X.1.2 11 12)).toInt := congrArg Int32.toInt (up_nI U70 (ne_f E 11 12 19 rfl (by decide) (by decide) (by decide)))
            have m72 : (sI H70 h0 (X.1.2 11 14)).toInt = (sI H61 h0 (X.1.2 11 14)).toInt := congrArg Int32.toInt (up_nI U70 (ne_f E 11 14 19 rfl (by decide) (by decide) (by decide)))
            have m73 := congrArg tk m72
            have m74 : (sI H70 h0 (X.1.2 11 16)).toInt = (sI H61 h0 (X.1.2 11 16)).toInt := congrArg Int32.toInt (up_nI U70 (ne_f E 11 16 19 rfl (by decide) (by decide) (by decide)))
            have m75 : (sI H70 h0 (X.1.2 11 15)).toInt = (sI H61 h0 (X.1.2 11 15)).toInt := congrArg Int32.toInt (up_nI U70 (ne_f E 11 15 19 rfl (by decide) (by decide) (by decide)))
            have m76 : (sI H70 h0 (X.1.2 11 9)).toInt = (sI H61 h0 (X.1.2 11 9)).toInt := congrArg Int32.toInt (up_nI U70 (ne_f E 11 9 19 rfl (by decide) (by decide) (by decide)))
            have m77 : (sI H70 h0 (X.1.2 11 17)).toInt = (sI H61 h0 (X.1.2 11 17)).toInt := congrArg Int32.toInt (up_nI U70 (ne_f E 11 17 19 rfl (by decide) (by decide) (by decide)))
            have m78 : (sI H70 h0 (X.1.2 11 18)).toInt = (sI H61 h0 (X.1.2 11 18)).toInt := congrArg Int32.toInt (up_nI U70 (ne_f E 11 18 19 rfl (by decide) (by decide) (by decide)))
            have hw0 : (sJ H70 h0 (X.1.2 11 19)).toInt = 0 := (congrArg Int64.toInt (up_J U70)).trans (by decide)
            have L109 : ∀ (n79 : Nat) (H79 : Heap) (locs79 : List Loc) (ls : Array Slot), (900 - (sI H79 h0 (X.1.2 11 16)).toInt).toNat < n79 → (sI H0 h0 (X.1.2 11 16)).toInt ≤ (sI H79 h0 (X.1.2 11 15)).toInt → (sI H79 h0 (X.1.2 11 15)).toInt ≤ (sI H79 h0 (X.1.2 11 16)).toInt → (sI H79 h0 (X.1.2 11 12)).toInt = (sI H0 h0 (X.1.2 11 12)).toInt → (sI H79 h0 (X.1.2 11 14)).toInt = 1 → (sI H79 h0 (X.1.2 11 9)).toInt = (sI H0 h0 (X.1.2 11 9)).toInt → (sI H79 h0 (X.1.2 11 15)).toInt = sq → SpP isLt (bf H0 tq) (sI H0 h0 (X.1.2 11 9)).toInt sq (sI H79 h0 (X.1.2 11 16)).toInt → WWI (bf H0 tq) sq (sI H79 h0 (X.1.2 11 16)).toInt (sJ H79 h0 (X.1.2 11 19)).toInt → Conf X Γ H79 → va_S (AΓ Γ) H0 H79 locs79 → Kp X Γ [1, 6, 7, 8, 9, 10, 11, 12, 14, 15, 16, 17, 19, 22, 24, 26, 28, 30, 35, 38] H0 H79 → (∀ j, sI H79 tq j = sI H0 tq j) → lv_has ls 2 [(1, .int v58), (0, .ref h0)] → W p l e (rmL 1) s m args below meth c H79 locs79 0 0 Qz (F0 m 109 ls []) := by
              intro n79
              induction n79 with
              | zero => intro H79 locs79 ls hm79 iv79_0 iv79_1 iv79_2 iv79_3 iv79_4 iv79_5 iv79_6 iv79_7 hC79 hS79 hKp79 tqt hl; exact absurd hm79 (Nat.not_lt_zero _)
              | succ n79 ih79 =>
                intro H79 locs79 ls hm79 iv79_0 iv79_1 iv79_2 iv79_3 iv79_4 iv79_5 iv79_6 iv79_7 hC79 hS79 hKp79 tqt hl
                have hsw := iv79_6
                have hww := iv79_7
                refine lv_aload_n hx hb dX12_next_109 rfl (lv_at hl 1 rfl) ?_
                refine lv_aload_n hx hb dX12_next_110 rfl (lv_at hl 1 rfl) ?_
                refine q_getI E hC79 g0 fa_RX12_111 dX12_next_111 (fun v80 ev80 lv80 uv80 => ?_)
                have m81 : (sI H79 h0 (X.1.2 11 16)).toInt = v80.toInt := (congrArg Int32.toInt ev80).trans rfl
                refine q_goIp (q_runV (As := [.int v80]) (rest := []) E hC79 hS79 (m_X12_look2 l X Γ H79 hC79 h0 g0 v80 (a1 := v80.toInt) rfl ca gca uc tq ((kp_R hKp79 g0 (ci := 11) (k := 7) rfl (by decide) rfl).trans htq) gtq (by omega)) cw_X12_look2 cl_RX12_117 g0 ⟨rfl, rfl⟩ rfl hl.1 rfl (Nat.zero_le _) (by decide) dX12_next_114) hS79 (fun v82 locs82 hr82 hS82 => ?_)
                obtain ⟨f82_0, f82_1⟩ := hr82
                have hl3 := LK.cv f82_1 tqt (n2 := (sI H0 h0 (X.1.2 11 9)).toInt) (a2 := (sI H79 h0 (X.1.2 11 16)).toInt) (by omega) (by omega)
                refine q_goIp (q_runS (As := [.int v82]) (rest := []) E hS82 (m_X12_isLetter l X Γ H79 hC79 v82 (a0 := v82.toInt) rfl) cw_X12_isLetter cl_RX12_123 rfl hl.1 rfl (Nat.zero_le _) (by decide) dX12_next_117) hS82 (fun v83 locs83 hr83 hS83 => ?_)
                rcases hr83 with ⟨rfl, f83a0, f83a1⟩ | ⟨rfl, f83b⟩
                · refine q_if_eq hx hb (a := 1) (by decide) (tgt := 182) dX12_next_120 rfl (fun c84 => absurd c84 (by omega)) (fun c84 => ?_)
                  have hbr3 := br_of hC0 gtq (j := ((sI H79 h0 (X.1.2 11 16)).toInt : Int).toNat) (by omega)
                  have hil : isLt (bf H0 tq ((sI H79 h0 (X.1.2 11 16)).toInt : Int).toNat) := by unfold isLt; omega
                  refine lv_aload_n hx hb dX12_next_123 rfl (lv_at hl 1 rfl) ?_
                  refine lv_aload_n hx hb dX12_next_124 rfl (lv_at hl 1 rfl) ?_
                  refine q_getI E hC79 g0 fa_RX12_111 dX12_next_125 (fun v85 ev85 lv85 uv85 => ?_)
                  have qv85 := ev80.symm.trans ev85; subst qv85
                  refine lv_aload_n hx hb dX12_next_128 rfl (lv_at hl 1 rfl) ?_
                  refine q_getI E hC79 g0 fa_RX12_114 dX12_next_129 (fun v86 ev86 lv86 uv86 => ?_)
                  have m87 : (sI H79 h0 (X.1.2 11 15)).toInt = v86.toInt := (congrArg Int32.toInt ev86).trans rfl
                  refine lv_isub hx hb dX12_next_132 (lv_topi (fun v88 ev88 => ?_))
                  have ev88i : v88.toInt = (v80.toInt - v86.toInt) := i_sub ev88 rfl rfl (by omega) (by omega)
                  refine lv_bipush (v := 8) hx hb dX12_next_133 rfl ?_
                  refine q_icmp_ge hx hb (a := (v80.toInt - v86.toInt)) (b := 8) ev88i (by decide) (tgt := 163) dX12_next_135 rfl (fun c89 => ?_) (fun c89 => ?_)
                  · refine lv_ldc2 (v := (-1)) hx hb E.2.2.2.1 (E.2.2.2.2.1 _ w_1470) dX12_next_163 ?_
                    refine q_put E hC79 hS83 g0 fp_RX12_126 tv_J rfl rfl dX12_next_166 (fun H90 locs90 hC90 hS90 U90 => ?_)
                    have hKp90 := Kp.upO E g0 fp_RX12_126 rfl U90 hKp79
                    have tqt : ∀ j, sI H90 tq j = sI H0 tq j := fun j => (up_nI U90 (ne_k gtq g0 (by decide))).trans (tqt j)
                    have m91 : (sI H90 h0 (X.1.2 11 12)).toInt = (sI H79 h0 (X.1.2 11 12)).toInt := congrArg Int32.toInt (up_nI U90 (ne_f E 11 12 19 rfl (by decide) (by decide) (by decide)))
                    have m92 : (sI H90 h0 (X.1.2 11 14)).toInt = (sI H79 h0 (X.1.2 11 14)).toInt := congrArg Int32.toInt (up_nI U90 (ne_f E 11 14 19 rfl (by decide) (by decide) (by decide)))
                    have m93 := congrArg tk m92
                    have m94 : (sI H90 h0 (X.1.2 11 16)).toInt = (sI H79 h0 (X.1.2 11 16)).toInt := congrArg Int32.toInt (up_nI U90 (ne_f E 11 16 19 rfl (by decide) (by decide) (by decide)))
                    have m95 : (sI H90 h0 (X.1.2 11 15)).toInt = (sI H79 h0 (X.1.2 11 15)).toInt := congrArg Int32.toInt (up_nI U90 (ne_f E 11 15 19 rfl (by decide) (by decide) (by decide)))
                    have m96 : (sI H90 h0 (X.1.2 11 9)).toInt = (sI H79 h0 (X.1.2 11 9)).toInt := congrArg Int32.toInt (up_nI U90 (ne_f E 11 9 19 rfl (by decide) (by decide) (by decide)))
                    have m97 : (sI H90 h0 (X.1.2 11 17)).toInt = (sI H79 h0 (X.1.2 11 17)).toInt := congrArg Int32.toInt (up_nI U90 (ne_f E 11 17 19 rfl (by decide) (by decide) (by decide)))
                    have m98 : (sI H90 h0 (X.1.2 11 18)).toInt = (sI H79 h0 (X.1.2 11 18)).toInt := congrArg Int32.toInt (up_nI U90 (ne_f E 11 18 19 rfl (by decide) (by decide) (by decide)))
                    have wj : (sJ H90 h0 (X.1.2 11 19)).toInt = (-1) := (congrArg Int64.toInt (up_J U90)).trans (show ((-1) : Int64).toInt = (-1) from by decide)
                    have hww2 := by first | exact WWI.step qm1 qm2 qm3 qb2 hil4 hwe hww hwb4 hsw (by omega) (by omega) | exact (WWI.out (b := (bf H0 tq)) (p := sq) (q := (sI H90 h0 (X.1.2 11 16)).toInt) (by omega))
                    refine lv_aload_n hx hb dX12_next_169 rfl (lv_at hl 1 rfl) ?_
                    refine lv_dup hx hb dX12_next_170 rfl ?_
                    have e100 := (up_nI U90 (ne_f E 11 16 19 rfl (by decide) (by decide) (by decide))).trans ev80
                    refine q_getI E hC90 g0 fa_RX12_111 dX12_next_171 (fun v99 ev99 lv99 uv99 => ?_)
                    have qv99 := e100.symm.trans ev99; subst qv99
                    have m101 : (sI H90 h0 (X.1.2 11 16)).toInt = v80.toInt := (congrArg Int32.toInt ev99).trans rfl
                    refine lv_iconst (v := 1) hx hb dX12_next_174 rfl ?_
                    refine lv_iadd hx hb dX12_next_175 (lv_topi (fun v102 ev102 => ?_))
                    have ev102i : v102.toInt = (v80.toInt + 1) := i_add ev102 rfl (by decide) (by omega) (by omega)
                    refine q_put E hC90 hS90 g0 fp_RX12_111 (tv_I ev102i (by omega) (by omega)) rfl rfl dX12_next_176 (fun H103 locs103 hC103 hS103 U103 => ?_)
                    have hKp103 := Kp.upO E g0 fp_RX12_111 rfl U103 hKp90
                    have e104 := up_I U103
                    have m105 : (sI H103 h0 (X.1.2 11 16)).toInt = (v80.toInt + 1) := (congrArg Int32.toInt e104).trans ev102i
                    have tqt : ∀ j, sI H103 tq j = sI H0 tq j := fun j => (up_nI U103 (ne_k gtq g0 (by decide))).trans (tqt j)
                    have wj : (sJ H103 h0 (X.1.2 11 19)).toInt = (-1) := (congrArg Int64.toInt (up_nJ U103 (ne_f E 11 19 16 rfl (by decide) (by decide) (by decide)))).trans wj
                    have m106 : (sI H103 h0 (X.1.2 11 12)).toInt = (sI H90 h0 (X.1.2 11 12)).toInt := congrArg Int32.toInt (up_nI U103 (ne_f E 11 12 16 rfl (by decide) (by decide) (by decide)))
                    have m107 : (sI H103 h0 (X.1.2 11 14)).toInt = (sI H90 h0 (X.1.2 11 14)).toInt := congrArg Int32.toInt (up_nI U103 (ne_f E 11 14 16 rfl (by decide) (by decide) (by decide)))
                    have m108 := congrArg tk m107
                    have m109 : (sI H103 h0 (X.1.2 11 15)).toInt = (sI H90 h0 (X.1.2 11 15)).toInt := congrArg Int32.toInt (up_nI U103 (ne_f E 11 15 16 rfl (by decide) (by decide) (by decide)))
                    have m110 : (sI H103 h0 (X.1.2 11 9)).toInt = (sI H90 h0 (X.1.2 11 9)).toInt := congrArg Int32.toInt (up_nI U103 (ne_f E 11 9 16 rfl (by decide) (by decide) (by decide)))
                    have m111 : (sI H103 h0 (X.1.2 11 17)).toInt = (sI H90 h0 (X.1.2 11 17)).toInt := congrArg Int32.toInt (up_nI U103 (ne_f E 11 17 16 rfl (by decide) (by decide) (by decide)))
                    have m112 : (sI H103 h0 (X.1.2 11 18)).toInt = (sI H90 h0 (X.1.2 11 18)).toInt := congrArg Int32.toInt (up_nI U103 (ne_f E 11 18 16 rfl (by decide) (by decide) (by decide)))
                    refine lv_goto (tgt := 109) hx hb dX12_next_179 rfl ?_
                    have m1_behind : (sI H79 h0 (X.1.2 11 16)).toInt = v80.toInt := (congrArg Int32.toInt ev80).trans rfl
                    have m2_behind : (sI H103 h0 (X.1.2 11 16)).toInt = (v80.toInt + 1) := (congrArg Int32.toInt e104).trans ev102i
                    exact ih79 H103 locs103 ls (by omega) (by omega) (by omega) (by omega) (by omega) (by omega) (by omega) (SpP.cast (hsw.step (by omega) (by omega) hil) (by omega)) (hww2.cast (by omega) wj.symm) hC103 hS103 hKp103 tqt hl
                  · refine lv_aload_n hx hb dX12_next_138 rfl (lv_at hl 1 rfl) ?_
                    refine q_getJ E hC79 g0 fa_RX12_126 dX12_next_139 (fun v113 ev113 => ?_)
                    have hwe : v113.toInt = (sJ H79 h0 (X.1.2 11 19)).toInt := by rw [← ev113]
                    refine lv_ldc2 (v := 32) hx hb E.2.2.2.1 (E.2.2.2.2.1 _ w_1506) dX12_next_142 ?_
                    refine lv_lmul hx hb dX12_next_145 (lv_topl (fun v114 ev114 => ?_))
                    have qm1 := ev114
                    refine lv_aload_n hx hb dX12_next_146 rfl (lv_at hl 1 rfl) ?_
                    refine lv_aload_n hx hb dX12_next_147 rfl (lv_at hl 1 rfl) ?_
                    refine q_getI E hC79 g0 fa_RX12_111 dX12_next_148 (fun v115 ev115 lv115 uv115 => ?_)
                    have qv115 := ev80.symm.trans ev115; subst qv115
                    refine q_goIp (q_runV (As := [.int v80]) (rest := [.long v114, .ref h0]) E hC79 hS83 (m_X12_look2 l X Γ H79 hC79 h0 g0 v80 (a1 := v80.toInt) rfl ca gca uc tq ((kp_R hKp79 g0 (ci := 11) (k := 7) rfl (by decide) rfl).trans htq) gtq (by omega)) cw_X12_look2 cl_RX12_117 g0 ⟨rfl, rfl⟩ rfl hl.1 rfl (show _ ≤ _ from by simp [Value.category]) (by decide) dX12_next_151) hS83 (fun v116 locs116 hr116 hS116 => ?_)
                    obtain ⟨f116_0, f116_1⟩ := hr116
                    have hl4 := LK.cv f116_1 tqt (n2 := (sI H0 h0 (X.1.2 11 9)).toInt) (a2 := (sI H79 h0 (X.1.2 11 16)).toInt) (by omega) (by omega)
                    have hil4 : isLt (v116 : Int32).toInt := by unfold isLt; omega
                    have hwb4 : (v116 : Int32).toInt = bf H0 tq ((sI H79 h0 (X.1.2 11 16)).toInt : Int).toNat := by omega
                    refine lv_i2l (v := v116.toInt64) hx hb dX12_next_154 rfl (lv_topl (fun v117 ev117 => ?_))
                    have ev117i : v117.toInt = v116.toInt := l_ofi ev117.symm rfl
                    refine lv_ladd hx hb dX12_next_155 (lv_topl (fun v118 ev118 => ?_))
                    have qm2 := ev118; have qb2 := ev117i
                    refine lv_ldc2 (v := 96) hx hb E.2.2.2.1 (E.2.2.2.2.1 _ w_1507) dX12_next_156 ?_
                    refine lv_lsub hx hb dX12_next_159 (lv_topl (fun v119 ev119 => ?_))
                    have qm3 := ev119
                    refine lv_goto (tgt := 166) hx hb dX12_next_160 rfl ?_
                    refine q_put E hC79 hS116 g0 fp_RX12_126 tv_J rfl rfl dX12_next_166 (fun H120 locs120 hC120 hS120 U120 => ?_)
                    have hKp120 := Kp.upO E g0 fp_RX12_126 rfl U120 hKp79
                    have tqt : ∀ j, sI H120 tq j = sI H0 tq j := fun j => (up_nI U120 (ne_k gtq g0 (by decide))).trans (tqt j)
                    have m121 : (sI H120 h0 (X.1.2 11 12)).toInt = (sI H79 h0 (X.1.2 11 12)).toInt := congrArg Int32.toInt (up_nI U120 (ne_f E 11 12 19 rfl (by decide) (by decide) (by decide)))
                    have m122 : (sI H120 h0 (X.1.2 11 14)).toInt = (sI H79 h0 (X.1.2 11 14)).toInt := congrArg Int32.toInt (up_nI U120 (ne_f E 11 14 19 rfl (by decide) (by decide) (by decide)))
                    have m123 := congrArg tk m122
                    have m124 : (sI H120 h0 (X.1.2 11 16)).toInt = (sI H79 h0 (X.1.2 11 16)).toInt := congrArg Int32.toInt (up_nI U120 (ne_f E 11 16 19 rfl (by decide) (by decide) (by decide)))
                    have m125 : (sI H120 h0 (X.1.2 11 15)).toInt = (sI H79 h0 (X.1.2 11 15)).toInt := congrArg Int32.toInt (up_nI U120 (ne_f E 11 15 19 rfl (by decide) (by decide) (by decide)))
                    have m126 : (sI H120 h0 (X.1.2 11 9)).toInt = (sI H79 h0 (X.1.2 11 9)).toInt := congrArg Int32.toInt (up_nI U120 (ne_f E 11 9 19 rfl (by decide) (by decide) (by decide)))
                    have m127 : (sI H120 h0 (X.1.2 11 17)).toInt = (sI H79 h0 (X.1.2 11 17)).toInt := congrArg Int32.toInt (up_nI U120 (ne_f E 11 17 19 rfl (by decide) (by decide) (by decide)))
                    have m128 : (sI H120 h0 (X.1.2 11 18)).toInt = (sI H79 h0 (X.1.2 11 18)).toInt := congrArg Int32.toInt (up_nI U120 (ne_f E 11 18 19 rfl (by decide) (by decide) (by decide)))
                    have wj : (sJ H120 h0 (X.1.2 11 19)).toInt = v119.toInt := (congrArg Int64.toInt (up_J U120)).trans rfl
                    have hww2 := by first | exact WWI.step qm1 qm2 qm3 qb2 hil4 hwe hww hwb4 hsw (by omega) (by omega) | exact (WWI.out (b := (bf H0 tq)) (p := sq) (q := (sI H120 h0 (X.1.2 11 16)).toInt) (by omega))
                    refine lv_aload_n hx hb dX12_next_169 rfl (lv_at hl 1 rfl) ?_
                    refine lv_dup hx hb dX12_next_170 rfl ?_
                    have e130 := (up_nI U120 (ne_f E 11 16 19 rfl (by decide) (by decide) (by decide))).trans ev80
                    refine q_getI E hC120 g0 fa_RX12_111 dX12_next_171 (fun v129 ev129 lv129 uv129 => ?_)
                    have qv129 := e130.symm.trans ev129; subst qv129
                    have m131 : (sI H120 h0 (X.1.2 11 16)).toInt = v80.toInt := (congrArg Int32.toInt ev129).trans rfl
                    refine lv_iconst (v := 1) hx hb dX12_next_174 rfl ?_
                    refine lv_iadd hx hb dX12_next_175 (lv_topi (fun v132 ev132 => ?_))
                    have ev132i : v132.toInt = (v80.toInt + 1) := i_add ev132 rfl (by decide) (by omega) (by omega)
                    refine q_put E hC120 hS120 g0 fp_RX12_111 (tv_I ev132i (by omega) (by omega)) rfl rfl dX12_next_176 (fun H133 locs133 hC133 hS133 U133 => ?_)
                    have hKp133 := Kp.upO E g0 fp_RX12_111 rfl U133 hKp120
                    have e134 := up_I U133
                    have m135 : (sI H133 h0 (X.1.2 11 16)).toInt = (v80.toInt + 1) := (congrArg Int32.toInt e134).trans ev132i
                    have tqt : ∀ j, sI H133 tq j = sI H0 tq j := fun j => (up_nI U133 (ne_k gtq g0 (by decide))).trans (tqt j)
                    have wj : (sJ H133 h0 (X.1.2 11 19)).toInt = v119.toInt := (congrArg Int64.toInt (up_nJ U133 (ne_f E 11 19 16 rfl (by decide) (by decide) (by decide)))).trans wj
                    have m136 : (sI H133 h0 (X.1.2 11 12)).toInt = (sI H120 h0 (X.1.2 11 12)).toInt := congrArg Int32.toInt (up_nI U133 (ne_f E 11 12 16 rfl (by decide) (by decide) (by decide)))
                    have m137 : (sI H133 h0 (X.1.2 11 14)).toInt = (sI H120 h0 (X.1.2 11 14)).toInt := congrArg Int32.toInt (up_nI U133 (ne_f E 11 14 16 rfl (by decide) (by decide) (by decide)))
                    have m138 := congrArg tk m137
                    have m139 : (sI H133 h0 (X.1.2 11 15)).toInt = (sI H120 h0 (X.1.2 11 15)).toInt := congrArg Int32.toInt (up_nI U133 (ne_f E 11 15 16 rfl (by decide) (by decide) (by decide)))
                    have m140 : (sI H133 h0 (X.1.2 11 9)).toInt = (sI H120 h0 (X.1.2 11 9)).toInt := congrArg Int32.toInt (up_nI U133 (ne_f E 11 9 16 rfl (by decide) (by decide) (by decide)))
                    have m141 : (sI H133 h0 (X.1.2 11 17)).toInt = (sI H120 h0 (X.1.2 11 17)).toInt := congrArg Int32.toInt (up_nI U133 (ne_f E 11 17 16 rfl (by decide) (by decide) (by decide)))
                    have m142 : (sI H133 h0 (X.1.2 11 18)).toInt = (sI H120 h0 (X.1.2 11 18)).toInt := congrArg Int32.toInt (up_nI U133 (ne_f E 11 18 16 rfl (by decide) (by decide) (by decide)))
                    refine lv_goto (tgt := 109) hx hb dX12_next_179 rfl ?_
                    have m1_behind : (sI H79 h0 (X.1.2 11 16)).toInt = v80.toInt := (congrArg Int32.toInt ev80).trans rfl
                    have m2_behind : (sI H133 h0 (X.1.2 11 16)).toInt = (v80.toInt + 1) := (congrArg Int32.toInt e134).trans ev132i
                    exact ih79 H133 locs133 ls (by omega) (by omega) (by omega) (by omega) (by omega) (by omega) (by omega) (SpP.cast (hsw.step (by omega) (by omega) hil) (by omega)) (hww2.cast (by omega) wj.symm) hC133 hS133 hKp133 tqt hl
                · refine q_if_eq hx hb (a := 0) (by decide) (tgt := 182) dX12_next_120 rfl (fun c143 => ?_) (fun c143 => absurd c143 (by omega))
                  have hfw : ¬ ((sI H79 h0 (X.1.2 11 16)).toInt < (sI H0 h0 (X.1.2 11 9)).toInt ∧ isLt (bf H0 tq ((sI H79 h0 (X.1.2 11 16)).toInt : Int).toNat)) := fun q => by have hb9 := br_of hC0 gtq (j := ((sI H79 h0 (X.1.2 11 16)).toInt : Int).toNat) (by omega); have q2 := q.2; unfold isLt at q2; omega
                  refine lv_aload_n hx hb dX12_next_182 rfl (lv_at hl 1 rfl) ?_
                  refine lv_aload_n hx hb dX12_next_183 rfl (lv_at hl 1 rfl) ?_
                  refine q_getI E hC79 g0 fa_RX12_111 dX12_next_184 (fun v144 ev144 lv144 uv144 => ?_)
                  have qv144 := ev80.symm.trans ev144; subst qv144
                  refine lv_aload_n hx hb dX12_next_187 rfl (lv_at hl 1 rfl) ?_
                  refine q_getI E hC79 g0 fa_RX12_114 dX12_next_188 (fun v145 ev145 lv145 uv145 => ?_)
                  have m146 : (sI H79 h0 (X.1.2 11 15)).toInt = v145.toInt := (congrArg Int32.toInt ev145).trans rfl
                  refine lv_isub hx hb dX12_next_191 (lv_topi (fun v147 ev147 => ?_))
                  have ev147i : v147.toInt = (v80.toInt - v145.toInt) := i_sub ev147 rfl rfl (by omega) (by omega)
                  refine q_put E hC79 hS83 g0 fp_RX12_133 tv_F rfl rfl dX12_next_192 (fun H148 locs148 hC148 hS148 U148 => ?_)
                  have hKp148 := Kp.upO E g0 fp_RX12_133 rfl U148 hKp79
                  have e149 := up_I U148
                  have m150 : (sI H148 h0 (X.1.2 11 18)).toInt = (v80.toInt - v145.toInt) := (congrArg Int32.toInt e149).trans ev147i
                  have tqt : ∀ j, sI H148 tq j = sI H0 tq j := fun j => (up_nI U148 (ne_k gtq g0 (by decide))).trans (tqt j)
                  have m151 : (sI H148 h0 (X.1.2 11 12)).toInt = (sI H79 h0 (X.1.2 11 12)).toInt := congrArg Int32.toInt (up_nI U148 (ne_f E 11 12 18 rfl (by decide) (by decide) (by decide)))
                  have m152 : (sI H148 h0 (X.1.2 11 14)).toInt = (sI H79 h0 (X.1.2 11 14)).toInt := congrArg Int32.toInt (up_nI U148 (ne_f E 11 14 18 rfl (by decide) (by decide) (by decide)))
                  have m153 := congrArg tk m152
                  have m154 : (sI H148 h0 (X.1.2 11 16)).toInt = (sI H79 h0 (X.1.2 11 16)).toInt := congrArg Int32.toInt (up_nI U148 (ne_f E 11 16 18 rfl (by decide) (by decide) (by decide)))
                  have m155 : (sI H148 h0 (X.1.2 11 15)).toInt = (sI H79 h0 (X.1.2 11 15)).toInt := congrArg Int32.toInt (up_nI U148 (ne_f E 11 15 18 rfl (by decide) (by decide) (by decide)))
                  have m156 : (sI H148 h0 (X.1.2 11 9)).toInt = (sI H79 h0 (X.1.2 11 9)).toInt := congrArg Int32.toInt (up_nI U148 (ne_f E 11 9 18 rfl (by decide) (by decide) (by decide)))
                  have m157 : (sI H148 h0 (X.1.2 11 17)).toInt = (sI H79 h0 (X.1.2 11 17)).toInt := congrArg Int32.toInt (up_nI U148 (ne_f E 11 17 18 rfl (by decide) (by decide) (by decide)))
                  have hwq : (sJ H148 h0 (X.1.2 11 19)).toInt = (sJ H79 h0 (X.1.2 11 19)).toInt := congrArg Int64.toInt (up_nJ U148 (ne_f E 11 19 18 rfl (by decide) (by decide) (by decide)))
                  have hT : TKM (bf H0 tq) (sI H0 h0 (X.1.2 11 9)).toInt (sI H0 h0 (X.1.2 11 16)).toInt (sI H148 h0 (X.1.2 11 15)).toInt (sI H148 h0 (X.1.2 11 16)).toInt (sI H148 h0 (X.1.2 11 14)).toInt (sI H148 h0 (X.1.2 11 17)).toInt (sI H148 h0 (X.1.2 11 18)).toInt (sJ H148 h0 (X.1.2 11 19)).toInt := (TKM.wordT (tok := (sI H148 h0 (X.1.2 11 14)).toInt) (lett := (sI H148 h0 (X.1.2 11 18)).toInt) hsz (by omega) hls ⟨hsw, hfw⟩ (by omega) (by omega) (by omega) hww).cast (by omega) (by omega) rfl rfl rfl hwq.symm
                  refine lv_goto (tgt := 330) hx hb dX12_next_195 rfl ?_
                  have hz9 := tk_or (sI H148 h0 (X.1.2 11 14)).toInt
                  exact ret H148 locs148 _ _ dX12_next_330 ⟨hKp148, ⟨by omega, by omega, by omega, hT, by omega, fun kd vl w3 pos N i mc h0 => mc.next h0 tqt (by omega) hT⟩⟩ hC148 hS148
            exact L109 _ H70 locs70 ls (Nat.lt_succ_self _) (by omega) (by omega) (by omega) (by omega) (by omega) (by omega) (SpP.cast SpP.nil (by omega)) (WWI.cast (p := sq) WWI.nil (by omega) hw0.symm) hC70 hS70 hKp70 tqt hl
          · refine q_if_eq hx hb (a := 0) (by decide) (tgt := 198) dX12_next_96 rfl (fun c158 => ?_) (fun c158 => absurd c158 (by omega))
            have hnl : ¬ isLt (bf H0 tq sq.toNat) := fun q => by unfold isLt at q; omega
            refine lv_iload_n hx hb dX12_next_198 rfl (lv_at hl 0 rfl) ?_
            refine q_goIp (q_runS (As := [.int v58]) (rest := []) E hS59 (m_X12_isDigit l X Γ H40 hC40 v58 (a0 := v58.toInt) rfl) cw_X12_isDigit cl_RX12_136 rfl hl.1 rfl (Nat.zero_le _) (by decide) dX12_next_199) hS59 (fun v159 locs159 hr159 hS159 => ?_)
            rcases hr159 with ⟨rfl, f159a0, f159a1⟩ | ⟨rfl, f159b⟩
            · refine q_if_eq hx hb (a := 1) (by decide) (tgt := 298) dX12_next_202 rfl (fun c160 => absurd c160 (by omega)) (fun c160 => ?_)
              have hds : isDg (bf H0 tq sq.toNat) := by unfold isDg; omega
              refine lv_aload_n hx hb dX12_next_205 rfl (lv_at hl 1 rfl) ?_
              refine lv_iconst (v := 0) hx hb dX12_next_206 rfl ?_
              refine q_put E hC40 hS159 g0 fp_RX12_139 tv_F rfl rfl dX12_next_207 (fun H161 locs161 hC161 hS161 U161 => ?_)
              have hKp161 := Kp.upO E g0 fp_RX12_139 rfl U161 hKp40
              have e162 := up_I U161
              have m163 : (sI H161 h0 (X.1.2 11 17)).toInt = 0 := (congrArg Int32.toInt e162).trans (show (0 : Int32).toInt = 0 from by decide)
              have tqt : ∀ j, sI H161 tq j = sI H0 tq j := fun j => (up_nI U161 (ne_k gtq g0 (by decide))).trans (tqt j)
              have m164 : (sI H161 h0 (X.1.2 11 12)).toInt = (sI H40 h0 (X.1.2 11 12)).toInt := congrArg Int32.toInt (up_nI U161 (ne_f E 11 12 17 rfl (by decide) (by decide) (by decide)))
              have m165 : (sI H161 h0 (X.1.2 11 14)).toInt = (sI H40 h0 (X.1.2 11 14)).toInt := congrArg Int32.toInt (up_nI U161 (ne_f E 11 14 17 rfl (by decide) (by decide) (by decide)))
              have m166 := congrArg tk m165
              have m167 : (sI H161 h0 (X.1.2 11 16)).toInt = (sI H40 h0 (X.1.2 11 16)).toInt := congrArg Int32.toInt (up_nI U161 (ne_f E 11 16 17 rfl (by decide) (by decide) (by decide)))
              have m168 : (sI H161 h0 (X.1.2 11 15)).toInt = (sI H40 h0 (X.1.2 11 15)).toInt := congrArg Int32.toInt (up_nI U161 (ne_f E 11 15 17 rfl (by decide) (by decide) (by decide)))
              have m169 : (sI H161 h0 (X.1.2 11 9)).toInt = (sI H40 h0 (X.1.2 11 9)).toInt := congrArg Int32.toInt (up_nI U161 (ne_f E 11 9 17 rfl (by decide) (by decide) (by decide)))
              have m170 : (sI H161 h0 (X.1.2 11 18)).toInt = (sI H40 h0 (X.1.2 11 18)).toInt := congrArg Int32.toInt (up_nI U161 (ne_f E 11 18 17 rfl (by decide) (by decide) (by decide)))
              have L210 : ∀ (n171 : Nat) (H171 : Heap) (locs171 : List Loc) (ls : Array Slot), (900 - (sI H171 h0 (X.1.2 11 16)).toInt).toNat < n171 → (sI H0 h0 (X.1.2 11 16)).toInt ≤ (sI H171 h0 (X.1.2 11 15)).toInt → (sI H171 h0 (X.1.2 11 15)).toInt ≤ (sI H171 h0 (X.1.2 11 16)).toInt → (sI H171 h0 (X.1.2 11 12)).toInt = (sI H0 h0 (X.1.2 11 12)).toInt → (sI H171 h0 (X.1.2 11 9)).toInt = (sI H0 h0 (X.1.2 11 9)).toInt → (sI H171 h0 (X.1.2 11 15)).toInt = sq → SpP isDg (bf H0 tq) (sI H0 h0 (X.1.2 11 9)).toInt sq (sI H171 h0 (X.1.2 11 16)).toInt → PNI (bf H0 tq) sq (sI H171 h0 (X.1.2 11 16)).toInt (sI H171 h0 (X.1.2 11 17)).toInt → 0 ≤ (sI H171 h0 (X.1.2 11 17)).toInt → (sI H171 h0 (X.1.2 11 17)).toInt ≤ 9999 → Conf X Γ H171 → va_S (AΓ Γ) H0 H171 locs171 → Kp X Γ [1, 6, 7, 8, 9, 10, 11, 12, 14, 15, 16, 17, 19, 22, 24, 26, 28, 30, 35, 38] H0 H171 → (∀ j, sI H171 tq j = sI H0 tq j) → lv_has ls 2 [(1, .int v58), (0, .ref h0)] → W p l e (rmL 1) s m args below meth c H171 locs171 0 0 Qz (F0 m 210 ls []) := by
                intro n171
                induction n171 with
                | zero => intro H171 locs171 ls hm171 iv171_0 iv171_1 iv171_2 iv171_3 iv171_4 iv171_5 iv171_6 iv171_7 iv171_8 hC171 hS171 hKp171 tqt hl; exact absurd hm171 (Nat.not_lt_zero _)
                | succ n171 ih171 =>
                  intro H171 locs171 ls hm171 iv171_0 iv171_1 iv171_2 iv171_3 iv171_4 iv171_5 iv171_6 iv171_7 iv171_8 hC171 hS171 hKp171 tqt hl
                  have hsn := iv171_5
                  have hpn := iv171_6
                  refine lv_aload_n hx hb dX12_next_210 rfl (lv_at hl 1 rfl) ?_
                  refine lv_aload_n hx hb dX12_next_211 rfl (lv_at hl 1 rfl) ?_
                  refine q_getI E hC171 g0 fa_RX12_111 dX12_next_212 (fun v172 ev172 lv172 uv172 => ?_)
                  have m173 : (sI H171 h0 (X.1.2 11 16)).toInt = v172.toInt := (congrArg Int32.toInt ev172).trans rfl
                  refine q_goIp (q_runV (As := [.int v172]) (rest := []) E hC171 hS171 (m_X12_look2 l X Γ H171 hC171 h0 g0 v172 (a1 := v172.toInt) rfl ca gca uc tq ((kp_R hKp171 g0 (ci := 11) (k := 7) rfl (by decide) rfl).trans htq) gtq (by omega)) cw_X12_look2 cl_RX12_117 g0 ⟨rfl, rfl⟩ rfl hl.1 rfl (Nat.zero_le _) (by decide) dX12_next_215) hS171 (fun v174 locs174 hr174 hS174 => ?_)
                  obtain ⟨f174_0, f174_1⟩ := hr174
                  have hl5 := LK.cv f174_1 tqt (n2 := (sI H0 h0 (X.1.2 11 9)).toInt) (a2 := (sI H171 h0 (X.1.2 11 16)).toInt) (by omega) (by omega)
                  refine q_goIp (q_runS (As := [.int v174]) (rest := []) E hS174 (m_X12_isDigit l X Γ H171 hC171 v174 (a0 := v174.toInt) rfl) cw_X12_isDigit cl_RX12_136 rfl hl.1 rfl (Nat.zero_le _) (by decide) dX12_next_218) hS174 (fun v175 locs175 hr175 hS175 => ?_)
                  rcases hr175 with ⟨rfl, f175a0, f175a1⟩ | ⟨rfl, f175b⟩
                  · refine q_if_eq hx hb (a := 1) (by decide) (tgt := 273) dX12_next_221 rfl (fun c176 => absurd c176 (by omega)) (fun c176 => ?_)
                    have hbr3 := br_of hC0 gtq (j := ((sI H171 h0 (X.1.2 11 16)).toInt : Int).toNat) (by omega)
                    have hdg : isDg (bf H0 tq ((sI H171 h0 (X.1.2 11 16)).toInt : Int).toNat) := by unfold isDg; omega
                    refine lv_aload_n hx hb dX12_next_224 rfl (lv_at hl 1 rfl) ?_
                    refine q_getI E hC171 g0 fa_RX12_111 dX12_next_225 (fun v177 ev177 lv177 uv177 => ?_)
                    have qv177 := ev172.symm.trans ev177; subst qv177
                    refine lv_aload_n hx hb dX12_next_228 rfl (lv_at hl 1 rfl) ?_
                    refine q_getI E hC171 g0 fa_RX12_114 dX12_next_229 (fun v178 ev178 lv178 uv178 => ?_)
                    have m179 : (sI H171 h0 (X.1.2 11 15)).toInt = v178.toInt := (congrArg Int32.toInt ev178).trans rfl
                    refine lv_isub hx hb dX12_next_232 (lv_topi (fun v180 ev180 => ?_))
                    have ev180i : v180.toInt = (v172.toInt - v178.toInt) := i_sub ev180 rfl rfl (by omega) (by omega)
                    refine lv_iconst (v := 4) hx hb dX12_next_233 rfl ?_
                    refine q_icmp_ge hx hb (a := (v172.toInt - v178.toInt)) (b := 4) ev180i (by decide) (tgt := 260) dX12_next_234 rfl (fun c181 => ?_) (fun c181 => ?_)
                    · have hpn2 : PNI (bf H0 tq) sq ((sI H171 h0 (X.1.2 11 16)).toInt + 1) (sI H171 h0 (X.1.2 11 17)).toInt := by first | exact PNI.out (by omega) | exact (PNI.step hpn hsn (by omega) hv4 (by omega) (by omega)).cast (by omega)
                      refine lv_aload_n hx hb dX12_next_260 rfl (lv_at hl 1 rfl) ?_
                      refine lv_dup hx hb dX12_next_261 rfl ?_
                      refine q_getI E hC171 g0 fa_RX12_111 dX12_next_262 (fun v182 ev182 lv182 uv182 => ?_)
                      have qv182 := ev172.symm.trans ev182; subst qv182
                      refine lv_iconst (v := 1) hx hb dX12_next_265 rfl ?_
                      refine lv_iadd hx hb dX12_next_266 (lv_topi (fun v183 ev183 => ?_))
                      have ev183i : v183.toInt = (v172.toInt + 1) := i_add ev183 rfl (by decide) (by omega) (by omega)
                      refine q_put E hC171 hS175 g0 fp_RX12_111 (tv_I ev183i (by omega) (by omega)) rfl rfl dX12_next_267 (fun H184 locs184 hC184 hS184 U184 => ?_)
                      have hKp184 := Kp.upO E g0 fp_RX12_111 rfl U184 hKp171
                      have e185 := up_I U184
                      have m186 : (sI H184 h0 (X.1.2 11 16)).toInt = (v172.toInt + 1) := (congrArg Int32.toInt e185).trans ev183i
                      have tqt : ∀ j, sI H184 tq j = sI H0 tq j := fun j => (up_nI U184 (ne_k gtq g0 (by decide))).trans (tqt j)
                      have m187 : (sI H184 h0 (X.1.2 11 12)).toInt = (sI H171 h0 (X.1.2 11 12)).toInt := congrArg Int32.toInt (up_nI U184 (ne_f E 11 12 16 rfl (by decide) (by decide) (by decide)))
                      have m188 : (sI H184 h0 (X.1.2 11 14)).toInt = (sI H171 h0 (X.1.2 11 14)).toInt := congrArg Int32.toInt (up_nI U184 (ne_f E 11 14 16 rfl (by decide) (by decide) (by decide)))
                      have m189 := congrArg tk m188
                      have m190 : (sI H184 h0 (X.1.2 11 15)).toInt = (sI H171 h0 (X.1.2 11 15)).toInt := congrArg Int32.toInt (up_nI U184 (ne_f E 11 15 16 rfl (by decide) (by decide) (by decide)))
                      have m191 : (sI H184 h0 (X.1.2 11 9)).toInt = (sI H171 h0 (X.1.2 11 9)).toInt := congrArg Int32.toInt (up_nI U184 (ne_f E 11 9 16 rfl (by decide) (by decide) (by decide)))
                      have m192 : (sI H184 h0 (X.1.2 11 17)).toInt = (sI H171 h0 (X.1.2 11 17)).toInt := congrArg Int32.toInt (up_nI U184 (ne_f E 11 17 16 rfl (by decide) (by decide) (by decide)))
                      have m193 : (sI H184 h0 (X.1.2 11 18)).toInt = (sI H171 h0 (X.1.2 11 18)).toInt := congrArg Int32.toInt (up_nI U184 (ne_f E 11 18 16 rfl (by decide) (by decide) (by decide)))
                      refine lv_goto (tgt := 210) hx hb dX12_next_270 rfl ?_
                      have m1_behind : (sI H171 h0 (X.1.2 11 16)).toInt = v172.toInt := (congrArg Int32.toInt ev172).trans rfl
                      have m2_behind : (sI H184 h0 (X.1.2 11 16)).toInt = (v172.toInt + 1) := (congrArg Int32.toInt e185).trans ev183i
                      exact ih171 H184 locs184 ls (by omega) (by omega) (by omega) (by omega) (by omega) (by omega) (SpP.cast (hsn.step (by omega) (by omega) hdg) (by omega)) (hpn2.cast2 (by omega) (by omega)) (by omega) (by omega) hC184 hS184 hKp184 tqt hl
                    · have hbd := hpn.bd hsn (by omega) (by omega)
                      refine lv_aload_n hx hb dX12_next_237 rfl (lv_at hl 1 rfl) ?_
                      refine lv_bipush (v := 10) hx hb dX12_next_238 rfl ?_
                      refine lv_aload_n hx hb dX12_next_240 rfl (lv_at hl 1 rfl) ?_
                      refine q_getI E hC171 g0 fa_RX12_139 dX12_next_241 (fun v194 ev194 _ _ => ?_)
                      have m195 : (sI H171 h0 (X.1.2 11 17)).toInt = v194.toInt := (congrArg Int32.toInt ev194).trans rfl
                      refine lv_imul hx hb dX12_next_244 (lv_topi (fun v196 ev196 => ?_))
                      have ev196i : v196.toInt = (10 * v194.toInt) := i_mul ev196 (by decide) rfl (by omega) (by omega)
                      refine lv_aload_n hx hb dX12_next_245 rfl (lv_at hl 1 rfl) ?_
                      refine lv_aload_n hx hb dX12_next_246 rfl (lv_at hl 1 rfl) ?_
                      refine q_getI E hC171 g0 fa_RX12_111 dX12_next_247 (fun v197 ev197 lv197 uv197 => ?_)
                      have qv197 := ev172.symm.trans ev197; subst qv197
                      refine q_goIp (q_runV (As := [.int v172]) (rest := [.int v196, .ref h0]) E hC171 hS175 (m_X12_look2 l X Γ H171 hC171 h0 g0 v172 (a1 := v172.toInt) rfl ca gca uc tq ((kp_R hKp171 g0 (ci := 11) (k := 7) rfl (by decide) rfl).trans htq) gtq (by omega)) cw_X12_look2 cl_RX12_117 g0 ⟨rfl, rfl⟩ rfl hl.1 rfl (show _ ≤ _ from by simp [Value.category]) (by decide) dX12_next_250) hS175 (fun v198 locs198 hr198 hS198 => ?_)
                      obtain ⟨f198_0, f198_1⟩ := hr198
                      have hl6 := LK.cv f198_1 tqt (n2 := (sI H0 h0 (X.1.2 11 9)).toInt) (a2 := (sI H171 h0 (X.1.2 11 16)).toInt) (by omega) (by omega)
                      have hv4 : v198.toInt = bf H0 tq ((sI H171 h0 (X.1.2 11 16)).toInt : Int).toNat := by omega
                      refine lv_iadd hx hb dX12_next_253 (lv_topi (fun v199 ev199 => ?_))
                      have ev199i : v199.toInt = ((10 * v194.toInt) + v198.toInt) := i_add ev199 ev196i rfl (by omega) (by omega)
                      refine lv_bipush (v := 48) hx hb dX12_next_254 rfl ?_
                      refine lv_isub hx hb dX12_next_256 (lv_topi (fun v200 ev200 => ?_))
                      have ev200i : v200.toInt = (((10 * v194.toInt) + v198.toInt) - 48) := i_sub ev200 ev199i (by decide) (by omega) (by omega)
                      refine q_put E hC171 hS198 g0 fp_RX12_139 tv_F rfl rfl dX12_next_257 (fun H201 locs201 hC201 hS201 U201 => ?_)
                      have hKp201 := Kp.upO E g0 fp_RX12_139 rfl U201 hKp171
                      have e202 := up_I U201
                      have m203 : (sI H201 h0 (X.1.2 11 17)).toInt = (((10 * v194.toInt) + v198.toInt) - 48) := (congrArg Int32.toInt e202).trans ev200i
                      have tqt : ∀ j, sI H201 tq j = sI H0 tq j := fun j => (up_nI U201 (ne_k gtq g0 (by decide))).trans (tqt j)
                      have m204 : (sI H201 h0 (X.1.2 11 12)).toInt = (sI H171 h0 (X.1.2 11 12)).toInt := congrArg Int32.toInt (up_nI U201 (ne_f E 11 12 17 rfl (by decide) (by decide) (by decide)))
                      have m205 : (sI H201 h0 (X.1.2 11 14)).toInt = (sI H171 h0 (X.1.2 11 14)).toInt := congrArg Int32.toInt (up_nI U201 (ne_f E 11 14 17 rfl (by decide) (by decide) (by decide)))
                      have m206 := congrArg tk m205
                      have m207 : (sI H201 h0 (X.1.2 11 16)).toInt = (sI H171 h0 (X.1.2 11 16)).toInt := congrArg Int32.toInt (up_nI U201 (ne_f E 11 16 17 rfl (by decide) (by decide) (by decide)))
                      have m208 : (sI H201 h0 (X.1.2 11 15)).toInt = (sI H171 h0 (X.1.2 11 15)).toInt := congrArg Int32.toInt (up_nI U201 (ne_f E 11 15 17 rfl (by decide) (by decide) (by decide)))
                      have m209 : (sI H201 h0 (X.1.2 11 9)).toInt = (sI H171 h0 (X.1.2 11 9)).toInt := congrArg Int32.toInt (up_nI U201 (ne_f E 11 9 17 rfl (by decide) (by decide) (by decide)))
                      have m210 : (sI H201 h0 (X.1.2 11 18)).toInt = (sI H171 h0 (X.1.2 11 18)).toInt := congrArg Int32.toInt (up_nI U201 (ne_f E 11 18 17 rfl (by decide) (by decide) (by decide)))
                      have hpn2 : PNI (bf H0 tq) sq ((sI H201 h0 (X.1.2 11 16)).toInt + 1) (sI H201 h0 (X.1.2 11 17)).toInt := by first | exact PNI.out (by omega) | exact (PNI.step hpn hsn (by omega) hv4 (by omega) (by omega)).cast (by omega)
                      refine lv_aload_n hx hb dX12_next_260 rfl (lv_at hl 1 rfl) ?_
                      refine lv_dup hx hb dX12_next_261 rfl ?_
                      have e212 := (up_nI U201 (ne_f E 11 16 17 rfl (by decide) (by decide) (by decide))).trans ev172
                      refine q_getI E hC201 g0 fa_RX12_111 dX12_next_262 (fun v211 ev211 lv211 uv211 => ?_)
                      have qv211 := e212.symm.trans ev211; subst qv211
                      have m213 : (sI H201 h0 (X.1.2 11 16)).toInt = v172.toInt := (congrArg Int32.toInt ev211).trans rfl
                      refine lv_iconst (v := 1) hx hb dX12_next_265 rfl ?_
                      refine lv_iadd hx hb dX12_next_266 (lv_topi (fun v214 ev214 => ?_))
                      have ev214i : v214.toInt = (v172.toInt + 1) := i_add ev214 rfl (by decide) (by omega) (by omega)
                      refine q_put E hC201 hS201 g0 fp_RX12_111 (tv_I ev214i (by omega) (by omega)) rfl rfl dX12_next_267 (fun H215 locs215 hC215 hS215 U215 => ?_)
                      have hKp215 := Kp.upO E g0 fp_RX12_111 rfl U215 hKp201
                      have e216 := up_I U215
                      have m217 : (sI H215 h0 (X.1.2 11 16)).toInt = (v172.toInt + 1) := (congrArg Int32.toInt e216).trans ev214i
                      have tqt : ∀ j, sI H215 tq j = sI H0 tq j := fun j => (up_nI U215 (ne_k gtq g0 (by decide))).trans (tqt j)
                      have m218 : (sI H215 h0 (X.1.2 11 12)).toInt = (sI H201 h0 (X.1.2 11 12)).toInt := congrArg Int32.toInt (up_nI U215 (ne_f E 11 12 16 rfl (by decide) (by decide) (by decide)))
                      have m219 : (sI H215 h0 (X.1.2 11 14)).toInt = (sI H201 h0 (X.1.2 11 14)).toInt := congrArg Int32.toInt (up_nI U215 (ne_f E 11 14 16 rfl (by decide) (by decide) (by decide)))
                      have m220 := congrArg tk m219
                      have m221 : (sI H215 h0 (X.1.2 11 15)).toInt = (sI H201 h0 (X.1.2 11 15)).toInt := congrArg Int32.toInt (up_nI U215 (ne_f E 11 15 16 rfl (by decide) (by decide) (by decide)))
                      have m222 : (sI H215 h0 (X.1.2 11 9)).toInt = (sI H201 h0 (X.1.2 11 9)).toInt := congrArg Int32.toInt (up_nI U215 (ne_f E 11 9 16 rfl (by decide) (by decide) (by decide)))
                      have m223 : (sI H215 h0 (X.1.2 11 17)).toInt = (sI H201 h0 (X.1.2 11 17)).toInt := congrArg Int32.toInt (up_nI U215 (ne_f E 11 17 16 rfl (by decide) (by decide) (by decide)))
                      have m224 : (sI H215 h0 (X.1.2 11 18)).toInt = (sI H201 h0 (X.1.2 11 18)).toInt := congrArg Int32.toInt (up_nI U215 (ne_f E 11 18 16 rfl (by decide) (by decide) (by decide)))
                      refine lv_goto (tgt := 210) hx hb dX12_next_270 rfl ?_
                      have m1_behind : (sI H171 h0 (X.1.2 11 16)).toInt = v172.toInt := (congrArg Int32.toInt ev172).trans rfl
                      have m2_behind : (sI H215 h0 (X.1.2 11 16)).toInt = (v172.toInt + 1) := (congrArg Int32.toInt e216).trans ev214i
                      exact ih171 H215 locs215 ls (by omega) (by omega) (by omega) (by omega) (by omega) (by omega) (SpP.cast (hsn.step (by omega) (by omega) hdg) (by omega)) (hpn2.cast2 (by omega) (by omega)) (by omega) (by omega) hC215 hS215 hKp215 tqt hl
                  · refine q_if_eq hx hb (a := 0) (by decide) (tgt := 273) dX12_next_221 rfl (fun c225 => ?_) (fun c225 => absurd c225 (by omega))
                    have hfn : ¬ ((sI H171 h0 (X.1.2 11 16)).toInt < (sI H0 h0 (X.1.2 11 9)).toInt ∧ isDg (bf H0 tq ((sI H171 h0 (X.1.2 11 16)).toInt : Int).toNat)) := fun q => by have hb9 := br_of hC0 gtq (j := ((sI H171 h0 (X.1.2 11 16)).toInt : Int).toNat) (by omega); have q2 := q.2; unfold isDg at q2; omega
                    refine lv_aload_n hx hb dX12_next_273 rfl (lv_at hl 1 rfl) ?_
                    refine lv_aload_n hx hb dX12_next_274 rfl (lv_at hl 1 rfl) ?_
                    refine q_getI E hC171 g0 fa_RX12_111 dX12_next_275 (fun v226 ev226 lv226 uv226 => ?_)
                    have qv226 := ev172.symm.trans ev226; subst qv226
                    refine lv_aload_n hx hb dX12_next_278 rfl (lv_at hl 1 rfl) ?_
                    refine q_getI E hC171 g0 fa_RX12_114 dX12_next_279 (fun v227 ev227 lv227 uv227 => ?_)
                    have m228 : (sI H171 h0 (X.1.2 11 15)).toInt = v227.toInt := (congrArg Int32.toInt ev227).trans rfl
                    refine lv_isub hx hb dX12_next_282 (lv_topi (fun v229 ev229 => ?_))
                    have ev229i : v229.toInt = (v172.toInt - v227.toInt) := i_sub ev229 rfl rfl (by omega) (by omega)
                    refine lv_iconst (v := 4) hx hb dX12_next_283 rfl ?_
                    refine q_icmp_le hx hb (a := (v172.toInt - v227.toInt)) (b := 4) ev229i (by decide) (tgt := 291) dX12_next_284 rfl (fun c230 => ?_) (fun c230 => ?_)
                    · refine lv_iconst (v := 2) hx hb dX12_next_291 rfl ?_
                      refine q_put E hC171 hS175 g0 fp_RX12_120 tv_F rfl rfl dX12_next_292 (fun H231 locs231 hC231 hS231 U231 => ?_)
                      have hKp231 := Kp.upO E g0 fp_RX12_120 rfl U231 hKp171
                      have e232 := up_I U231
                      have m233 : (sI H231 h0 (X.1.2 11 14)).toInt = 2 := (congrArg Int32.toInt e232).trans (show (2 : Int32).toInt = 2 from by decide)
                      have tqt : ∀ j, sI H231 tq j = sI H0 tq j := fun j => (up_nI U231 (ne_k gtq g0 (by decide))).trans (tqt j)
                      have m234 : (sI H231 h0 (X.1.2 11 12)).toInt = (sI H171 h0 (X.1.2 11 12)).toInt := congrArg Int32.toInt (up_nI U231 (ne_f E 11 12 14 rfl (by decide) (by decide) (by decide)))
                      have m235 : (sI H231 h0 (X.1.2 11 16)).toInt = (sI H171 h0 (X.1.2 11 16)).toInt := congrArg Int32.toInt (up_nI U231 (ne_f E 11 16 14 rfl (by decide) (by decide) (by decide)))
                      have m236 : (sI H231 h0 (X.1.2 11 15)).toInt = (sI H171 h0 (X.1.2 11 15)).toInt := congrArg Int32.toInt (up_nI U231 (ne_f E 11 15 14 rfl (by decide) (by decide) (by decide)))
                      have m237 : (sI H231 h0 (X.1.2 11 9)).toInt = (sI H171 h0 (X.1.2 11 9)).toInt := congrArg Int32.toInt (up_nI U231 (ne_f E 11 9 14 rfl (by decide) (by decide) (by decide)))
                      have m238 : (sI H231 h0 (X.1.2 11 17)).toInt = (sI H171 h0 (X.1.2 11 17)).toInt := congrArg Int32.toInt (up_nI U231 (ne_f E 11 17 14 rfl (by decide) (by decide) (by decide)))
                      have m239 : (sI H231 h0 (X.1.2 11 18)).toInt = (sI H171 h0 (X.1.2 11 18)).toInt := congrArg Int32.toInt (up_nI U231 (ne_f E 11 18 14 rfl (by decide) (by decide) (by decide)))
                      have hT : TKM (bf H0 tq) (sI H0 h0 (X.1.2 11 9)).toInt (sI H0 h0 (X.1.2 11 16)).toInt (sI H231 h0 (X.1.2 11 15)).toInt (sI H231 h0 (X.1.2 11 16)).toInt (sI H231 h0 (X.1.2 11 14)).toInt (sI H231 h0 (X.1.2 11 17)).toInt (sI H231 h0 (X.1.2 11 18)).toInt (sJ H231 h0 (X.1.2 11 19)).toInt := by first | exact (TKM.numT (tok := (sI H231 h0 (X.1.2 11 14)).toInt) (num := _) hsz (by omega) hds ⟨hsn, hfn⟩ (by omega) (by omega) (by omega) hpn).cast (by omega) (by omega) rfl (by omega) rfl rfl | exact (TKM.long (tok := (sI H231 h0 (X.1.2 11 14)).toInt) hsz (by omega) hds ⟨hsn, hfn⟩ (by omega) (by omega) (by omega)).cast (by omega) (by omega) rfl rfl rfl rfl
                      refine lv_goto (tgt := 330) hx hb dX12_next_295 rfl ?_
                      have hz9 := tk_or (sI H231 h0 (X.1.2 11 14)).toInt
                      exact ret H231 locs231 _ _ dX12_next_330 ⟨hKp231, ⟨by omega, by omega, by omega, hT, by omega, fun kd vl w3 pos N i mc h0 => mc.next h0 tqt (by omega) hT⟩⟩ hC231 hS231
                    · refine lv_iconst (v := 4) hx hb dX12_next_287 rfl ?_
                      refine lv_goto (tgt := 292) hx hb dX12_next_288 rfl ?_
                      refine q_put E hC171 hS175 g0 fp_RX12_120 tv_F rfl rfl dX12_next_292 (fun H240 locs240 hC240 hS240 U240 => ?_)
                      have hKp240 := Kp.upO E g0 fp_RX12_120 rfl U240 hKp171
                      have e241 := up_I U240
                      have m242 : (sI H240 h0 (X.1.2 11 14)).toInt = 4 := (congrArg Int32.toInt e241).trans (show (4 : Int32).toInt = 4 from by decide)
                      have tqt : ∀ j, sI H240 tq j = sI H0 tq j := fun j => (up_nI U240 (ne_k gtq g0 (by decide))).trans (tqt j)
                      have m243 : (sI H240 h0 (X.1.2 11 12)).toInt = (sI H171 h0 (X.1.2 11 12)).toInt := congrArg Int32.toInt (up_nI U240 (ne_f E 11 12 14 rfl (by decide) (by decide) (by decide)))
                      have m244 : (sI H240 h0 (X.1.2 11 16)).toInt = (sI H171 h0 (X.1.2 11 16)).toInt := congrArg Int32.toInt (up_nI U240 (ne_f E 11 16 14 rfl (by decide) (by decide) (by decide)))
                      have m245 : (sI H240 h0 (X.1.2 11 15)).toInt = (sI H171 h0 (X.1.2 11 15)).toInt := congrArg Int32.toInt (up_nI U240 (ne_f E 11 15 14 rfl (by decide) (by decide) (by decide)))
                      have m246 : (sI H240 h0 (X.1.2 11 9)).toInt = (sI H171 h0 (X.1.2 11 9)).toInt := congrArg Int32.toInt (up_nI U240 (ne_f E 11 9 14 rfl (by decide) (by decide) (by decide)))
                      have m247 : (sI H240 h0 (X.1.2 11 17)).toInt = (sI H171 h0 (X.1.2 11 17)).toInt := congrArg Int32.toInt (up_nI U240 (ne_f E 11 17 14 rfl (by decide) (by decide) (by decide)))
                      have m248 : (sI H240 h0 (X.1.2 11 18)).toInt = (sI H171 h0 (X.1.2 11 18)).toInt := congrArg Int32.toInt (up_nI U240 (ne_f E 11 18 14 rfl (by decide) (by decide) (by decide)))
                      have hT : TKM (bf H0 tq) (sI H0 h0 (X.1.2 11 9)).toInt (sI H0 h0 (X.1.2 11 16)).toInt (sI H240 h0 (X.1.2 11 15)).toInt (sI H240 h0 (X.1.2 11 16)).toInt (sI H240 h0 (X.1.2 11 14)).toInt (sI H240 h0 (X.1.2 11 17)).toInt (sI H240 h0 (X.1.2 11 18)).toInt (sJ H240 h0 (X.1.2 11 19)).toInt := by first | exact (TKM.numT (tok := (sI H240 h0 (X.1.2 11 14)).toInt) (num := _) hsz (by omega) hds ⟨hsn, hfn⟩ (by omega) (by omega) (by omega) hpn).cast (by omega) (by omega) rfl (by omega) rfl rfl | exact (TKM.long (tok := (sI H240 h0 (X.1.2 11 14)).toInt) hsz (by omega) hds ⟨hsn, hfn⟩ (by omega) (by omega) (by omega)).cast (by omega) (by omega) rfl rfl rfl rfl
                      refine lv_goto (tgt := 330) hx hb dX12_next_295 rfl ?_
                      have hz9 := tk_or (sI H240 h0 (X.1.2 11 14)).toInt
                      exact ret H240 locs240 _ _ dX12_next_330 ⟨hKp240, ⟨by omega, by omega, by omega, hT, by omega, fun kd vl w3 pos N i mc h0 => mc.next h0 tqt (by omega) hT⟩⟩ hC240 hS240
              exact L210 _ H161 locs161 ls (Nat.lt_succ_self _) (by omega) (by omega) (by omega) (by omega) (by omega) (SpP.cast SpP.nil (by omega)) (fun _ => by rw [show (sI H161 h0 (X.1.2 11 16)).toInt = sq by omega, Int.sub_self, show (sI H161 h0 (X.1.2 11 17)).toInt = 0 by omega]; rfl) (by omega) (by omega) hC161 hS161 hKp161 tqt hl
            · refine q_if_eq hx hb (a := 0) (by decide) (tgt := 298) dX12_next_202 rfl (fun c249 => ?_) (fun c249 => absurd c249 (by omega))
              have hnd : ¬ isDg (bf H0 tq sq.toNat) := fun q => by unfold isDg at q; omega
              refine lv_aload_n hx hb dX12_next_298 rfl (lv_at hl 1 rfl) ?_
              refine lv_aload_n hx hb dX12_next_299 rfl (lv_at hl 1 rfl) ?_
              refine q_getI E hC40 g0 fa_RX12_114 dX12_next_300 (fun v250 ev250 lv250 uv250 => ?_)
              have qv250 := e51.symm.trans ev250; subst qv250
              refine lv_iconst (v := 1) hx hb dX12_next_303 rfl ?_
              refine lv_iadd hx hb dX12_next_304 (lv_topi (fun v251 ev251 => ?_))
              have ev251i : v251.toInt = (v34.toInt + 1) := i_add ev251 rfl (by decide) (by omega) (by omega)
              refine q_put E hC40 hS159 g0 fp_RX12_111 (tv_I ev251i (by omega) (by omega)) rfl rfl dX12_next_305 (fun H252 locs252 hC252 hS252 U252 => ?_)
              have hKp252 := Kp.upO E g0 fp_RX12_111 rfl U252 hKp40
              have e253 := up_I U252
              have m254 : (sI H252 h0 (X.1.2 11 16)).toInt = (v34.toInt + 1) := (congrArg Int32.toInt e253).trans ev251i
              have tqt : ∀ j, sI H252 tq j = sI H0 tq j := fun j => (up_nI U252 (ne_k gtq g0 (by decide))).trans (tqt j)
              have m255 : (sI H252 h0 (X.1.2 11 12)).toInt = (sI H40 h0 (X.1.2 11 12)).toInt := congrArg Int32.toInt (up_nI U252 (ne_f E 11 12 16 rfl (by decide) (by decide) (by decide)))
              have m256 : (sI H252 h0 (X.1.2 11 14)).toInt = (sI H40 h0 (X.1.2 11 14)).toInt := congrArg Int32.toInt (up_nI U252 (ne_f E 11 14 16 rfl (by decide) (by decide) (by decide)))
              have m257 := congrArg tk m256
              have m258 : (sI H252 h0 (X.1.2 11 15)).toInt = (sI H40 h0 (X.1.2 11 15)).toInt := congrArg Int32.toInt (up_nI U252 (ne_f E 11 15 16 rfl (by decide) (by decide) (by decide)))
              have m259 : (sI H252 h0 (X.1.2 11 9)).toInt = (sI H40 h0 (X.1.2 11 9)).toInt := congrArg Int32.toInt (up_nI U252 (ne_f E 11 9 16 rfl (by decide) (by decide) (by decide)))
              have m260 : (sI H252 h0 (X.1.2 11 17)).toInt = (sI H40 h0 (X.1.2 11 17)).toInt := congrArg Int32.toInt (up_nI U252 (ne_f E 11 17 16 rfl (by decide) (by decide) (by decide)))
              have m261 : (sI H252 h0 (X.1.2 11 18)).toInt = (sI H40 h0 (X.1.2 11 18)).toInt := congrArg Int32.toInt (up_nI U252 (ne_f E 11 18 16 rfl (by decide) (by decide) (by decide)))
              refine lv_aload_n hx hb dX12_next_308 rfl (lv_at hl 1 rfl) ?_
              refine lv_iload_n hx hb dX12_next_309 rfl (lv_at hl 0 rfl) ?_
              refine q_put E hC252 hS252 g0 fp_RX12_139 tv_F rfl rfl dX12_next_310 (fun H262 locs262 hC262 hS262 U262 => ?_)
              have hKp262 := Kp.upO E g0 fp_RX12_139 rfl U262 hKp252
              have e263 := up_I U262
              have m264 : (sI H262 h0 (X.1.2 11 17)).toInt = v58.toInt := (congrArg Int32.toInt e263).trans rfl
              have tqt : ∀ j, sI H262 tq j = sI H0 tq j := fun j => (up_nI U262 (ne_k gtq g0 (by decide))).trans (tqt j)
              have m265 : (sI H262 h0 (X.1.2 11 12)).toInt = (sI H252 h0 (X.1.2 11 12)).toInt := congrArg Int32.toInt (up_nI U262 (ne_f E 11 12 17 rfl (by decide) (by decide) (by decide)))
              have m266 : (sI H262 h0 (X.1.2 11 14)).toInt = (sI H252 h0 (X.1.2 11 14)).toInt := congrArg Int32.toInt (up_nI U262 (ne_f E 11 14 17 rfl (by decide) (by decide) (by decide)))
              have m267 := congrArg tk m266
              have m268 : (sI H262 h0 (X.1.2 11 16)).toInt = (sI H252 h0 (X.1.2 11 16)).toInt := congrArg Int32.toInt (up_nI U262 (ne_f E 11 16 17 rfl (by decide) (by decide) (by decide)))
              have m269 : (sI H262 h0 (X.1.2 11 15)).toInt = (sI H252 h0 (X.1.2 11 15)).toInt := congrArg Int32.toInt (up_nI U262 (ne_f E 11 15 17 rfl (by decide) (by decide) (by decide)))
              have m270 : (sI H262 h0 (X.1.2 11 9)).toInt = (sI H252 h0 (X.1.2 11 9)).toInt := congrArg Int32.toInt (up_nI U262 (ne_f E 11 9 17 rfl (by decide) (by decide) (by decide)))
              have m271 : (sI H262 h0 (X.1.2 11 18)).toInt = (sI H252 h0 (X.1.2 11 18)).toInt := congrArg Int32.toInt (up_nI U262 (ne_f E 11 18 17 rfl (by decide) (by decide) (by decide)))
              refine lv_aload_n hx hb dX12_next_313 rfl (lv_at hl 1 rfl) ?_
              refine lv_aload_n hx hb dX12_next_314 rfl (lv_at hl 1 rfl) ?_
              refine lv_iload_n hx hb dX12_next_315 rfl (lv_at hl 0 rfl) ?_
              refine q_goIp (q_runV (As := [.int v58]) (rest := [.ref h0]) E hC262 hS262 (m_X12_isSignByte l X Γ H262 hC262 h0 g0 v58 (a1 := v58.toInt) rfl ca gca uc) cw_X12_isSignByte cl_RX12_142 g0 ⟨rfl, rfl⟩ rfl hl.1 rfl (show _ ≤ _ from by simp [Value.category]) (by decide) dX12_next_316) hS262 (fun v272 locs272 hr272 hS272 => ?_)
              rcases hr272 with ⟨rfl, f272a0, f272a1⟩ | ⟨rfl, f272b⟩
              · refine q_if_eq hx hb (a := 1) (by decide) (tgt := 326) dX12_next_319 rfl (fun c273 => absurd c273 (by omega)) (fun c273 => ?_)
                refine lv_iconst (v := 3) hx hb dX12_next_322 rfl ?_
                refine lv_goto (tgt := 327) hx hb dX12_next_323 rfl ?_
                refine q_put E hC262 hS272 g0 fp_RX12_120 tv_F rfl rfl dX12_next_327 (fun H274 locs274 hC274 hS274 U274 => ?_)
                have hKp274 := Kp.upO E g0 fp_RX12_120 rfl U274 hKp262
                have e275 := up_I U274
                have m276 : (sI H274 h0 (X.1.2 11 14)).toInt = 3 := (congrArg Int32.toInt e275).trans (show (3 : Int32).toInt = 3 from by decide)
                have tqt : ∀ j, sI H274 tq j = sI H0 tq j := fun j => (up_nI U274 (ne_k gtq g0 (by decide))).trans (tqt j)
                have m277 : (sI H274 h0 (X.1.2 11 12)).toInt = (sI H262 h0 (X.1.2 11 12)).toInt := congrArg Int32.toInt (up_nI U274 (ne_f E 11 12 14 rfl (by decide) (by decide) (by decide)))
                have m278 : (sI H274 h0 (X.1.2 11 16)).toInt = (sI H262 h0 (X.1.2 11 16)).toInt := congrArg Int32.toInt (up_nI U274 (ne_f E 11 16 14 rfl (by decide) (by decide) (by decide)))
                have m279 : (sI H274 h0 (X.1.2 11 15)).toInt = (sI H262 h0 (X.1.2 11 15)).toInt := congrArg Int32.toInt (up_nI U274 (ne_f E 11 15 14 rfl (by decide) (by decide) (by decide)))
                have m280 : (sI H274 h0 (X.1.2 11 9)).toInt = (sI H262 h0 (X.1.2 11 9)).toInt := congrArg Int32.toInt (up_nI U274 (ne_f E 11 9 14 rfl (by decide) (by decide) (by decide)))
                have m281 : (sI H274 h0 (X.1.2 11 17)).toInt = (sI H262 h0 (X.1.2 11 17)).toInt := congrArg Int32.toInt (up_nI U274 (ne_f E 11 17 14 rfl (by decide) (by decide) (by decide)))
                have m282 : (sI H274 h0 (X.1.2 11 18)).toInt = (sI H262 h0 (X.1.2 11 18)).toInt := congrArg Int32.toInt (up_nI U274 (ne_f E 11 18 14 rfl (by decide) (by decide) (by decide)))
                have hT : TKM (bf H0 tq) (sI H0 h0 (X.1.2 11 9)).toInt (sI H0 h0 (X.1.2 11 16)).toInt (sI H274 h0 (X.1.2 11 15)).toInt (sI H274 h0 (X.1.2 11 16)).toInt (sI H274 h0 (X.1.2 11 14)).toInt (sI H274 h0 (X.1.2 11 17)).toInt (sI H274 h0 (X.1.2 11 18)).toInt (sJ H274 h0 (X.1.2 11 19)).toInt := by first | exact (TKM.sign (q := sq + 1) (tok := (sI H274 h0 (X.1.2 11 14)).toInt) (num := (sI H274 h0 (X.1.2 11 17)).toInt) hsz (by omega) hnl hnd (by omega) rfl (by omega) (by omega) (by omega) (by omega)).cast (by omega) (by omega) rfl rfl rfl rfl | exact (TKM.bad (q := sq + 1) (tok := (sI H274 h0 (X.1.2 11 14)).toInt) hsz (by omega) hnl hnd (by omega) rfl (by omega) (by omega)).cast (by omega) (by omega) rfl rfl rfl rfl
                have hz9 := tk_or (sI H274 h0 (X.1.2 11 14)).toInt
                exact ret H274 locs274 _ _ dX12_next_330 ⟨hKp274, ⟨by omega, by omega, by omega, hT, by omega, fun kd vl w3 pos N i mc h0 => mc.next h0 tqt (by omega) hT⟩⟩ hC274 hS274
              · refine q_if_eq hx hb (a := 0) (by decide) (tgt := 326) dX12_next_319 rfl (fun c283 => ?_) (fun c283 => absurd c283 (by omega))
                refine lv_iconst (v := 4) hx hb dX12_next_326 rfl ?_
                refine q_put E hC262 hS272 g0 fp_RX12_120 tv_F rfl rfl dX12_next_327 (fun H284 locs284 hC284 hS284 U284 => ?_)
                have hKp284 := Kp.upO E g0 fp_RX12_120 rfl U284 hKp262
                have e285 := up_I U284
                have m286 : (sI H284 h0 (X.1.2 11 14)).toInt = 4 := (congrArg Int32.toInt e285).trans (show (4 : Int32).toInt = 4 from by decide)
                have tqt : ∀ j, sI H284 tq j = sI H0 tq j := fun j => (up_nI U284 (ne_k gtq g0 (by decide))).trans (tqt j)
                have m287 : (sI H284 h0 (X.1.2 11 12)).toInt = (sI H262 h0 (X.1.2 11 12)).toInt := congrArg Int32.toInt (up_nI U284 (ne_f E 11 12 14 rfl (by decide) (by decide) (by decide)))
                have m288 : (sI H284 h0 (X.1.2 11 16)).toInt = (sI H262 h0 (X.1.2 11 16)).toInt := congrArg Int32.toInt (up_nI U284 (ne_f E 11 16 14 rfl (by decide) (by decide) (by decide)))
                have m289 : (sI H284 h0 (X.1.2 11 15)).toInt = (sI H262 h0 (X.1.2 11 15)).toInt := congrArg Int32.toInt (up_nI U284 (ne_f E 11 15 14 rfl (by decide) (by decide) (by decide)))
                have m290 : (sI H284 h0 (X.1.2 11 9)).toInt = (sI H262 h0 (X.1.2 11 9)).toInt := congrArg Int32.toInt (up_nI U284 (ne_f E 11 9 14 rfl (by decide) (by decide) (by decide)))
                have m291 : (sI H284 h0 (X.1.2 11 17)).toInt = (sI H262 h0 (X.1.2 11 17)).toInt := congrArg Int32.toInt (up_nI U284 (ne_f E 11 17 14 rfl (by decide) (by decide) (by decide)))
                have m292 : (sI H284 h0 (X.1.2 11 18)).toInt = (sI H262 h0 (X.1.2 11 18)).toInt := congrArg Int32.toInt (up_nI U284 (ne_f E 11 18 14 rfl (by decide) (by decide) (by decide)))
                have hT : TKM (bf H0 tq) (sI H0 h0 (X.1.2 11 9)).toInt (sI H0 h0 (X.1.2 11 16)).toInt (sI H284 h0 (X.1.2 11 15)).toInt (sI H284 h0 (X.1.2 11 16)).toInt (sI H284 h0 (X.1.2 11 14)).toInt (sI H284 h0 (X.1.2 11 17)).toInt (sI H284 h0 (X.1.2 11 18)).toInt (sJ H284 h0 (X.1.2 11 19)).toInt := by first | exact (TKM.sign (q := sq + 1) (tok := (sI H284 h0 (X.1.2 11 14)).toInt) (num := (sI H284 h0 (X.1.2 11 17)).toInt) hsz (by omega) hnl hnd (by omega) rfl (by omega) (by omega) (by omega) (by omega)).cast (by omega) (by omega) rfl rfl rfl rfl | exact (TKM.bad (q := sq + 1) (tok := (sI H284 h0 (X.1.2 11 14)).toInt) hsz (by omega) hnl hnd (by omega) rfl (by omega) (by omega)).cast (by omega) (by omega) rfl rfl rfl rfl
                have hz9 := tk_or (sI H284 h0 (X.1.2 11 14)).toInt
                exact ret H284 locs284 _ _ dX12_next_330 ⟨hKp284, ⟨by omega, by omega, by omega, hT, by omega, fun kd vl w3 pos N i mc h0 => mc.next h0 tqt (by omega) hT⟩⟩ hC284 hS284
        · refine lv_aload_n hx hb dX12_next_77 rfl (lv_at hl 0 rfl) ?_
          refine lv_iconst (v := 0) hx hb dX12_next_78 rfl ?_
          refine q_put E hC40 hS40 g0 fp_RX12_120 tv_F rfl rfl dX12_next_79 (fun H293 locs293 hC293 hS293 U293 => ?_)
          have hKp293 := Kp.upO E g0 fp_RX12_120 rfl U293 hKp40
          have e294 := up_I U293
          have m295 : (sI H293 h0 (X.1.2 11 14)).toInt = 0 := (congrArg Int32.toInt e294).trans (show (0 : Int32).toInt = 0 from by decide)
          have tqt : ∀ j, sI H293 tq j = sI H0 tq j := fun j => (up_nI U293 (ne_k gtq g0 (by decide))).trans (tqt j)
          have m296 : (sI H293 h0 (X.1.2 11 12)).toInt = (sI H40 h0 (X.1.2 11 12)).toInt := congrArg Int32.toInt (up_nI U293 (ne_f E 11 12 14 rfl (by decide) (by decide) (by decide)))
          have m297 : (sI H293 h0 (X.1.2 11 16)).toInt = (sI H40 h0 (X.1.2 11 16)).toInt := congrArg Int32.toInt (up_nI U293 (ne_f E 11 16 14 rfl (by decide) (by decide) (by decide)))
          have m298 : (sI H293 h0 (X.1.2 11 15)).toInt = (sI H40 h0 (X.1.2 11 15)).toInt := congrArg Int32.toInt (up_nI U293 (ne_f E 11 15 14 rfl (by decide) (by decide) (by decide)))
          have m299 : (sI H293 h0 (X.1.2 11 9)).toInt = (sI H40 h0 (X.1.2 11 9)).toInt := congrArg Int32.toInt (up_nI U293 (ne_f E 11 9 14 rfl (by decide) (by decide) (by decide)))
          have m300 : (sI H293 h0 (X.1.2 11 17)).toInt = (sI H40 h0 (X.1.2 11 17)).toInt := congrArg Int32.toInt (up_nI U293 (ne_f E 11 17 14 rfl (by decide) (by decide) (by decide)))
          have m301 : (sI H293 h0 (X.1.2 11 18)).toInt = (sI H40 h0 (X.1.2 11 18)).toInt := congrArg Int32.toInt (up_nI U293 (ne_f E 11 18 14 rfl (by decide) (by decide) (by decide)))
          have hT : TKM (bf H0 tq) (sI H0 h0 (X.1.2 11 9)).toInt (sI H0 h0 (X.1.2 11 16)).toInt (sI H293 h0 (X.1.2 11 15)).toInt (sI H293 h0 (X.1.2 11 16)).toInt (sI H293 h0 (X.1.2 11 14)).toInt (sI H293 h0 (X.1.2 11 17)).toInt (sI H293 h0 (X.1.2 11 18)).toInt (sJ H293 h0 (X.1.2 11 19)).toInt := (TKM.fin (q := (sI H293 h0 (X.1.2 11 16)).toInt) hsz (by omega) (by omega) (by omega) (by omega) rfl).cast (by omega) rfl (by omega) rfl rfl rfl
          have hz9 := tk_or (sI H293 h0 (X.1.2 11 14)).toInt
          exact ret H293 locs293 _ _ dX12_next_82 ⟨hKp293, ⟨by omega, by omega, by omega, hT, by omega, fun kd vl w3 pos N i mc h0 => mc.next h0 tqt (by omega) hT⟩⟩ hC293 hS293
      · refine lv_aload_n hx hb dX12_next_19 rfl (lv_at hl 0 rfl) ?_
        refine lv_aload_n hx hb dX12_next_20 rfl (lv_at hl 0 rfl) ?_
        refine q_getI E hC33 g0 fa_RX12_114 dX12_next_21 (fun v302 ev302 lv302 uv302 => ?_)
        have qv302 := ev34.symm.trans ev302; subst qv302
        refine q_goIp (q_runV (As := [.int v34]) (rest := []) E hC33 hS33 (m_X12_look2 l X Γ H33 hC33 h0 g0 v34 (a1 := v34.toInt) rfl ca gca uc tq ((kp_R hKp33 g0 (ci := 11) (k := 7) rfl (by decide) rfl).trans htq) gtq (by omega)) cw_X12_look2 cl_RX12_117 g0 ⟨rfl, rfl⟩ rfl hl.1 rfl (Nat.zero_le _) (by decide) dX12_next_24) hS33 (fun v303 locs303 hr303 hS303 => ?_)
        obtain ⟨f303_0, f303_1⟩ := hr303
        have hl1 := LK.cv f303_1 tqt (n2 := (sI H0 h0 (X.1.2 11 9)).toInt) (a2 := (sI H33 h0 (X.1.2 11 15)).toInt) (by omega) (by omega)
        have hr1 := br_of hC0 gtq (j := ((sI H33 h0 (X.1.2 11 15)).toInt : Int).toNat) (by omega)
        have hst := fun hP => hsp.step (by omega) (by omega) (show isBl (bf H0 tq ((sI H33 h0 (X.1.2 11 15)).toInt : Int).toNat) from hP)
        refine lv_bipush (v := 10) hx hb dX12_next_27 rfl ?_
        refine q_icmp_eq hx hb (a := v303.toInt) (b := 10) rfl (by decide) (tgt := 45) dX12_next_29 rfl (fun c304 => ?_) (fun c304 => ?_)
        · refine lv_aload_n hx hb dX12_next_45 rfl (lv_at hl 0 rfl) ?_
          refine lv_dup hx hb dX12_next_46 rfl ?_
          refine q_getI E hC33 g0 fa_RX12_114 dX12_next_47 (fun v305 ev305 lv305 uv305 => ?_)
          have qv305 := ev34.symm.trans ev305; subst qv305
          refine lv_iconst (v := 1) hx hb dX12_next_50 rfl ?_
          refine lv_iadd hx hb dX12_next_51 (lv_topi (fun v306 ev306 => ?_))
          have ev306i : v306.toInt = (v34.toInt + 1) := i_add ev306 rfl (by decide) (by omega) (by omega)
          refine q_put E hC33 hS303 g0 fp_RX12_114 (tv_I ev306i (by omega) (by omega)) rfl rfl dX12_next_52 (fun H307 locs307 hC307 hS307 U307 => ?_)
          have hKp307 := Kp.upO E g0 fp_RX12_114 rfl U307 hKp33
          have e308 := up_I U307
          have m309 : (sI H307 h0 (X.1.2 11 15)).toInt = (v34.toInt + 1) := (congrArg Int32.toInt e308).trans ev306i
          have tqt : ∀ j, sI H307 tq j = sI H0 tq j := fun j => (up_nI U307 (ne_k gtq g0 (by decide))).trans (tqt j)
          have m310 : (sI H307 h0 (X.1.2 11 12)).toInt = (sI H33 h0 (X.1.2 11 12)).toInt := congrArg Int32.toInt (up_nI U307 (ne_f E 11 12 15 rfl (by decide) (by decide) (by decide)))
          have m311 : (sI H307 h0 (X.1.2 11 14)).toInt = (sI H33 h0 (X.1.2 11 14)).toInt := congrArg Int32.toInt (up_nI U307 (ne_f E 11 14 15 rfl (by decide) (by decide) (by decide)))
          have m312 := congrArg tk m311
          have m313 : (sI H307 h0 (X.1.2 11 16)).toInt = (sI H33 h0 (X.1.2 11 16)).toInt := congrArg Int32.toInt (up_nI U307 (ne_f E 11 16 15 rfl (by decide) (by decide) (by decide)))
          have m314 : (sI H307 h0 (X.1.2 11 9)).toInt = (sI H33 h0 (X.1.2 11 9)).toInt := congrArg Int32.toInt (up_nI U307 (ne_f E 11 9 15 rfl (by decide) (by decide) (by decide)))
          have m315 : (sI H307 h0 (X.1.2 11 17)).toInt = (sI H33 h0 (X.1.2 11 17)).toInt := congrArg Int32.toInt (up_nI U307 (ne_f E 11 17 15 rfl (by decide) (by decide) (by decide)))
          have m316 : (sI H307 h0 (X.1.2 11 18)).toInt = (sI H33 h0 (X.1.2 11 18)).toInt := congrArg Int32.toInt (up_nI U307 (ne_f E 11 18 15 rfl (by decide) (by decide) (by decide)))
          refine lv_goto (tgt := 8) hx hb dX12_next_55 rfl ?_
          have m1_at : (sI H33 h0 (X.1.2 11 15)).toInt = v34.toInt := (congrArg Int32.toInt ev34).trans rfl
          have m2_at : (sI H307 h0 (X.1.2 11 15)).toInt = (v34.toInt + 1) := (congrArg Int32.toInt e308).trans ev306i
          have m1_textEnd : (sI H33 h0 (X.1.2 11 9)).toInt = v36.toInt := (congrArg Int32.toInt ev36).trans rfl
          have e317 := (up_nI U307 (ne_f E 11 9 15 rfl (by decide) (by decide) (by decide))).trans ev36
          have m2_textEnd : (sI H307 h0 (X.1.2 11 9)).toInt = v36.toInt := (congrArg Int32.toInt e317).trans rfl
          exact ih33 H307 locs307 ls (by omega) (by omega) (by omega) (by omega) (by omega) (SpP.cast (hst (by unfold isBl; omega)) (by omega)) hC307 hS307 hKp307 tqt hl
        · refine lv_aload_n hx hb dX12_next_32 rfl (lv_at hl 0 rfl) ?_
          refine lv_aload_n hx hb dX12_next_33 rfl (lv_at hl 0 rfl) ?_
          refine q_getI E hC33 g0 fa_RX12_114 dX12_next_34 (fun v318 ev318 lv318 uv318 => ?_)
          have qv318 := ev34.symm.trans ev318; subst qv318
          refine q_goIp (q_runV (As := [.int v34]) (rest := []) E hC33 hS303 (m_X12_look2 l X Γ H33 hC33 h0 g0 v34 (a1 := v34.toInt) rfl ca gca uc tq ((kp_R hKp33 g0 (ci := 11) (k := 7) rfl (by decide) rfl).trans htq) gtq (by omega)) cw_X12_look2 cl_RX12_117 g0 ⟨rfl, rfl⟩ rfl hl.1 rfl (Nat.zero_le _) (by decide) dX12_next_37) hS303 (fun v319 locs319 hr319 hS319 => ?_)
          obtain ⟨f319_0, f319_1⟩ := hr319
          have hl2 := LK.cv f319_1 tqt (n2 := (sI H0 h0 (X.1.2 11 9)).toInt) (a2 := (sI H33 h0 (X.1.2 11 15)).toInt) (by omega) (by omega)
          refine lv_bipush (v := 32) hx hb dX12_next_40 rfl ?_
          refine q_icmp_ne hx hb (a := v319.toInt) (b := 32) rfl (by decide) (tgt := 58) dX12_next_42 rfl (fun c320 => ?_) (fun c320 => ?_)
          · have hsz0 : SpZ isBl (bf H0 tq) (sI H0 h0 (X.1.2 11 9)).toInt (sI H0 h0 (X.1.2 11 16)).toInt (sI H33 h0 (X.1.2 11 15)).toInt := by first | exact ⟨hsp, fun q => absurd q.1 (by omega)⟩ | exact ⟨hsp, fun q => by have q2 := q.2; unfold isBl at q2; omega⟩
            obtain ⟨sq, hsq⟩ : ∃ z, z = (sI H33 h0 (X.1.2 11 15)).toInt := ⟨_, rfl⟩
            have hsz := hsz0.cast rfl rfl hsq.symm
            refine lv_aload_n hx hb dX12_next_58 rfl (lv_at hl 0 rfl) ?_
            refine lv_aload_n hx hb dX12_next_59 rfl (lv_at hl 0 rfl) ?_
            refine q_getI E hC33 g0 fa_RX12_114 dX12_next_60 (fun v321 ev321 lv321 uv321 => ?_)
            have qv321 := ev34.symm.trans ev321; subst qv321
            refine q_put E hC33 hS319 g0 fp_RX12_111 (tv_I rfl (by omega) (by omega)) rfl rfl dX12_next_63 (fun H322 locs322 hC322 hS322 U322 => ?_)
            have hKp322 := Kp.upO E g0 fp_RX12_111 rfl U322 hKp33
            have e323 := up_I U322
            have m324 : (sI H322 h0 (X.1.2 11 16)).toInt = v34.toInt := (congrArg Int32.toInt e323).trans rfl
            have tqt : ∀ j, sI H322 tq j = sI H0 tq j := fun j => (up_nI U322 (ne_k gtq g0 (by decide))).trans (tqt j)
            have m325 : (sI H322 h0 (X.1.2 11 12)).toInt = (sI H33 h0 (X.1.2 11 12)).toInt := congrArg Int32.toInt (up_nI U322 (ne_f E 11 12 16 rfl (by decide) (by decide) (by decide)))
            have m326 : (sI H322 h0 (X.1.2 11 14)).toInt = (sI H33 h0 (X.1.2 11 14)).toInt := congrArg Int32.toInt (up_nI U322 (ne_f E 11 14 16 rfl (by decide) (by decide) (by decide)))
            have m327 := congrArg tk m326
            have m328 : (sI H322 h0 (X.1.2 11 15)).toInt = (sI H33 h0 (X.1.2 11 15)).toInt := congrArg Int32.toInt (up_nI U322 (ne_f E 11 15 16 rfl (by decide) (by decide) (by decide)))
            have m329 : (sI H322 h0 (X.1.2 11 9)).toInt = (sI H33 h0 (X.1.2 11 9)).toInt := congrArg Int32.toInt (up_nI U322 (ne_f E 11 9 16 rfl (by decide) (by decide) (by decide)))
            have m330 : (sI H322 h0 (X.1.2 11 17)).toInt = (sI H33 h0 (X.1.2 11 17)).toInt := congrArg Int32.toInt (up_nI U322 (ne_f E 11 17 16 rfl (by decide) (by decide) (by decide)))
            have m331 : (sI H322 h0 (X.1.2 11 18)).toInt = (sI H33 h0 (X.1.2 11 18)).toInt := congrArg Int32.toInt (up_nI U322 (ne_f E 11 18 16 rfl (by decide) (by decide) (by decide)))
            refine lv_aload_n hx hb dX12_next_66 rfl (lv_at hl 0 rfl) ?_
            have e333 := (up_nI U322 (ne_f E 11 15 16 rfl (by decide) (by decide) (by decide))).trans ev34
            refine q_getI E hC322 g0 fa_RX12_114 dX12_next_67 (fun v332 ev332 lv332 uv332 => ?_)
            have qv332 := e333.symm.trans ev332; subst qv332
            have m334 : (sI H322 h0 (X.1.2 11 15)).toInt = v34.toInt := (congrArg Int32.toInt ev332).trans rfl
            refine lv_aload_n hx hb dX12_next_70 rfl (lv_at hl 0 rfl) ?_
            have e336 := (up_nI U322 (ne_f E 11 9 16 rfl (by decide) (by decide) (by decide))).trans ev36
            refine q_getI E hC322 g0 fa_RX12_108 dX12_next_71 (fun v335 ev335 lv335 uv335 => ?_)
            have qv335 := e336.symm.trans ev335; subst qv335
            have m337 : (sI H322 h0 (X.1.2 11 9)).toInt = v36.toInt := (congrArg Int32.toInt ev335).trans rfl
            refine q_icmp_lt hx hb (a := v34.toInt) (b := v36.toInt) rfl rfl (tgt := 83) dX12_next_74 rfl (fun c338 => ?_) (fun c338 => ?_)
            · refine lv_aload_n hx hb dX12_next_83 rfl (lv_at hl 0 rfl) ?_
              refine lv_aload_n hx hb dX12_next_84 rfl (lv_at hl 0 rfl) ?_
              refine q_getI E hC322 g0 fa_RX12_114 dX12_next_85 (fun v339 ev339 lv339 uv339 => ?_)
              have qv339 := e333.symm.trans ev339; subst qv339
              refine q_goIp (q_runV (As := [.int v34]) (rest := []) E hC322 hS322 (m_X12_look2 l X Γ H322 hC322 h0 g0 v34 (a1 := v34.toInt) rfl ca gca uc tq ((kp_R hKp322 g0 (ci := 11) (k := 7) rfl (by decide) rfl).trans htq) gtq (by omega)) cw_X12_look2 cl_RX12_117 g0 ⟨rfl, rfl⟩ rfl hl.1 rfl (Nat.zero_le _) (by decide) dX12_next_88) hS322 (fun v340 locs340 hr340 hS340 => ?_)
              obtain ⟨f340_0, f340_1⟩ := hr340
              have hxx := LK.cv f340_1 tqt (n2 := (sI H0 h0 (X.1.2 11 9)).toInt) (a2 := sq) (by omega) (by omega)
              have hr1 := br_of hC0 gtq (j := sq.toNat) (by omega)
              refine lv_istore_n hx hb dX12_next_91 rfl hl (by decide) rfl (fun ls hl => ?_)
              have hl : lv_has ls 2 [(1, .int v340), (0, .ref h0)] := hl
              refine lv_iload_n hx hb dX12_next_92 rfl (lv_at hl 0 rfl) ?_
              refine q_goIp (q_runS (As := [.int v340]) (rest := []) E hS340 (m_X12_isLetter l X Γ H322 hC322 v340 (a0 := v340.toInt) rfl) cw_X12_isLetter cl_RX12_123 rfl hl.1 rfl (Nat.zero_le _) (by decide) dX12_next_93) hS340 (fun v341 locs341 hr341 hS341 => ?_)
              rcases hr341 with ⟨rfl, f341a0, f341a1⟩ | ⟨rfl, f341b⟩
              · refine q_if_eq hx hb (a := 1) (by decide) (tgt := 198) dX12_next_96 rfl (fun c342 => absurd c342 (by omega)) (fun c342 => ?_)
                have hls : isLt (bf H0 tq sq.toNat) := by unfold isLt; omega
                refine lv_aload_n hx hb dX12_next_99 rfl (lv_at hl 1 rfl) ?_
                refine lv_iconst (v := 1) hx hb dX12_next_100 rfl ?_
                refine q_put E hC322 hS341 g0 fp_RX12_120 tv_F rfl rfl dX12_next_101 (fun H343 locs343 hC343 hS343 U343 => ?_)
                have hKp343 := Kp.upO E g0 fp_RX12_120 rfl U343 hKp322
                have e344 := up_I U343
                have m345 : (sI H343 h0 (X.1.2 11 14)).toInt = 1 := (congrArg Int32.toInt e344).trans (show (1 : Int32).toInt = 1 from by decide)
                have tqt : ∀ j, sI H343 tq j = sI H0 tq j := fun j => (up_nI U343 (ne_k gtq g0 (by decide))).trans (tqt j)
                have m346 : (sI H343 h0 (X.1.2 11 12)).toInt = (sI H322 h0 (X.1.2 11 12)).toInt := congrArg Int32.toInt (up_nI U343 (ne_f E 11 12 14 rfl (by decide) (by decide) (by decide)))
                have m347 : (sI H343 h0 (X.1.2 11 16)).toInt = (sI H322 h0 (X.1.2 11 16)).toInt := congrArg Int32.toInt (up_nI U343 (ne_f E 11 16 14 rfl (by decide) (by decide) (by decide)))
                have m348 : (sI H343 h0 (X.1.2 11 15)).toInt = (sI H322 h0 (X.1.2 11 15)).toInt := congrArg Int32.toInt (up_nI U343 (ne_f E 11 15 14 rfl (by decide) (by decide) (by decide)))
                have m349 : (sI H343 h0 (X.1.2 11 9)).toInt = (sI H322 h0 (X.1.2 11 9)).toInt := congrArg Int32.toInt (up_nI U343 (ne_f E 11 9 14 rfl (by decide) (by decide) (by decide)))
                have m350 : (sI H343 h0 (X.1.2 11 17)).toInt = (sI H322 h0 (X.1.2 11 17)).toInt := congrArg Int32.toInt (up_nI U343 (ne_f E 11 17 14 rfl (by decide) (by decide) (by decide)))
                have m351 : (sI H343 h0 (X.1.2 11 18)).toInt = (sI H322 h0 (X.1.2 11 18)).toInt := congrArg Int32.toInt (up_nI U343 (ne_f E 11 18 14 rfl (by decide) (by decide) (by decide)))
                refine lv_aload_n hx hb dX12_next_104 rfl (lv_at hl 1 rfl) ?_
                refine lv_lconst (v := 0) hx hb dX12_next_105 rfl ?_
                refine q_put E hC343 hS343 g0 fp_RX12_126 tv_J rfl rfl dX12_next_106 (fun H352 locs352 hC352 hS352 U352 => ?_)
                have hKp352 := Kp.upO E g0 fp_RX12_126 rfl U352 hKp343
                have tqt : ∀ j, sI H352 tq j = sI H0 tq j := fun j => (up_nI U352 (ne_k gtq g0 (by decide))).trans (tqt j)
                have m353 : (sI H352 h0 (X.1.2 11 12)).toInt = (sI H343 h0 (X.1.2 11 12)).toInt := congrArg Int32.toInt (up_nI U352 (ne_f E 11 12 19 rfl (by decide) (by decide) (by decide)))
                have m354 : (sI H352 h0 (X.1.2 11 14)).toInt = (sI H343 h0 (X.1.2 11 14)).toInt := congrArg Int32.toInt (up_nI U352 (ne_f E 11 14 19 rfl (by decide) (by decide) (by decide)))
                have m355 := congrArg tk m354
                have m356 : (sI H352 h0 (X.1.2 11 16)).toInt = (sI H343 h0 (X.1.2 11 16)).toInt := congrArg Int32.toInt (up_nI U352 (ne_f E 11 16 19 rfl (by decide) (by decide) (by decide)))
                have m357 : (sI H352 h0 (X.1.2 11 15)).toInt = (sI H343 h0 (X.1.2 11 15)).toInt := congrArg Int32.toInt (up_nI U352 (ne_f E 11 15 19 rfl (by decide) (by decide) (by decide)))
                have m358 : (sI H352 h0 (X.1.2 11 9)).toInt = (sI H343 h0 (X.1.2 11 9)).toInt := congrArg Int32.toInt (up_nI U352 (ne_f E 11 9 19 rfl (by decide) (by decide) (by decide)))
                have m359 : (sI H352 h0 (X.1.2 11 17)).toInt = (sI H343 h0 (X.1.2 11 17)).toInt := congrArg Int32.toInt (up_nI U352 (ne_f E 11 17 19 rfl (by decide) (by decide) (by decide)))
                have m360 : (sI H352 h0 (X.1.2 11 18)).toInt = (sI H343 h0 (X.1.2 11 18)).toInt := congrArg Int32.toInt (up_nI U352 (ne_f E 11 18 19 rfl (by decide) (by decide) (by decide)))
                have hw0 : (sJ H352 h0 (X.1.2 11 19)).toInt = 0 := (congrArg Int64.toInt (up_J U352)).trans (by decide)
                have L109 : ∀ (n361 : Nat) (H361 : Heap) (locs361 : List Loc) (ls : Array Slot), (900 - (sI H361 h0 (X.1.2 11 16)).toInt).toNat < n361 → (sI H0 h0 (X.1.2 11 16)).toInt ≤ (sI H361 h0 (X.1.2 11 15)).toInt → (sI H361 h0 (X.1.2 11 15)).toInt ≤ (sI H361 h0 (X.1.2 11 16)).toInt → (sI H361 h0 (X.1.2 11 12)).toInt = (sI H0 h0 (X.1.2 11 12)).toInt → (sI H361 h0 (X.1.2 11 14)).toInt = 1 → (sI H361 h0 (X.1.2 11 9)).toInt = (sI H0 h0 (X.1.2 11 9)).toInt → (sI H361 h0 (X.1.2 11 15)).toInt = sq → SpP isLt (bf H0 tq) (sI H0 h0 (X.1.2 11 9)).toInt sq (sI H361 h0 (X.1.2 11 16)).toInt → WWI (bf H0 tq) sq (sI H361 h0 (X.1.2 11 16)).toInt (sJ H361 h0 (X.1.2 11 19)).toInt → Conf X Γ H361 → va_S (AΓ Γ) H0 H361 locs361 → Kp X Γ [1, 6, 7, 8, 9, 10, 11, 12, 14, 15, 16, 17, 19, 22, 24, 26, 28, 30, 35, 38] H0 H361 → (∀ j, sI H361 tq j = sI H0 tq j) → lv_has ls 2 [(1, .int v340), (0, .ref h0)] → W p l e (rmL 1) s m args below meth c H361 locs361 0 0 Qz (F0 m 109 ls []) := by
                  intro n361
                  induction n361 with
                  | zero => intro H361 locs361 ls hm361 iv361_0 iv361_1 iv361_2 iv361_3 iv361_4 iv361_5 iv361_6 iv361_7 hC361 hS361 hKp361 tqt hl; exact absurd hm361 (Nat.not_lt_zero _)
                  | succ n361 ih361 =>
                    intro H361 locs361 ls hm361 iv361_0 iv361_1 iv361_2 iv361_3 iv361_4 iv361_5 iv361_6 iv361_7 hC361 hS361 hKp361 tqt hl
                    have hsw := iv361_6
                    have hww := iv361_7
                    refine lv_aload_n hx hb dX12_next_109 rfl (lv_at hl 1 rfl) ?_
                    refine lv_aload_n hx hb dX12_next_110 rfl (lv_at hl 1 rfl) ?_
                    refine q_getI E hC361 g0 fa_RX12_111 dX12_next_111 (fun v362 ev362 lv362 uv362 => ?_)
                    have m363 : (sI H361 h0 (X.1.2 11 16)).toInt = v362.toInt := (congrArg Int32.toInt ev362).trans rfl
                    refine q_goIp (q_runV (As := [.int v362]) (rest := []) E hC361 hS361 (m_X12_look2 l X Γ H361 hC361 h0 g0 v362 (a1 := v362.toInt) rfl ca gca uc tq ((kp_R hKp361 g0 (ci := 11) (k := 7) rfl (by decide) rfl).trans htq) gtq (by omega)) cw_X12_look2 cl_RX12_117 g0 ⟨rfl, rfl⟩ rfl hl.1 rfl (Nat.zero_le _) (by decide) dX12_next_114) hS361 (fun v364 locs364 hr364 hS364 => ?_)
                    obtain ⟨f364_0, f364_1⟩ := hr364
                    have hl3 := LK.cv f364_1 tqt (n2 := (sI H0 h0 (X.1.2 11 9)).toInt) (a2 := (sI H361 h0 (X.1.2 11 16)).toInt) (by omega) (by omega)
                    refine q_goIp (q_runS (As := [.int v364]) (rest := []) E hS364 (m_X12_isLetter l X Γ H361 hC361 v364 (a0 := v364.toInt) rfl) cw_X12_isLetter cl_RX12_123 rfl hl.1 rfl (Nat.zero_le _) (by decide) dX12_next_117) hS364 (fun v365 locs365 hr365 hS365 => ?_)
                    rcases hr365 with ⟨rfl, f365a0, f365a1⟩ | ⟨rfl, f365b⟩
                    · refine q_if_eq hx hb (a := 1) (by decide) (tgt := 182) dX12_next_120 rfl (fun c366 => absurd c366 (by omega)) (fun c366 => ?_)
                      have hbr3 := br_of hC0 gtq (j := ((sI H361 h0 (X.1.2 11 16)).toInt : Int).toNat) (by omega)
                      have hil : isLt (bf H0 tq ((sI H361 h0 (X.1.2 11 16)).toInt : Int).toNat) := by unfold isLt; omega
                      refine lv_aload_n hx hb dX12_next_123 rfl (lv_at hl 1 rfl) ?_
                      refine lv_aload_n hx hb dX12_next_124 rfl (lv_at hl 1 rfl) ?_
                      refine q_getI E hC361 g0 fa_RX12_111 dX12_next_125 (fun v367 ev367 lv367 uv367 => ?_)
                      have qv367 := ev362.symm.trans ev367; subst qv367
                      refine lv_aload_n hx hb dX12_next_128 rfl (lv_at hl 1 rfl) ?_
                      refine q_getI E hC361 g0 fa_RX12_114 dX12_next_129 (fun v368 ev368 lv368 uv368 => ?_)
                      have m369 : (sI H361 h0 (X.1.2 11 15)).toInt = v368.toInt := (congrArg Int32.toInt ev368).trans rfl
                      refine lv_isub hx hb dX12_next_132 (lv_topi (fun v370 ev370 => ?_))
                      have ev370i : v370.toInt = (v362.toInt - v368.toInt) := i_sub ev370 rfl rfl (by omega) (by omega)
                      refine lv_bipush (v := 8) hx hb dX12_next_133 rfl ?_
                      refine q_icmp_ge hx hb (a := (v362.toInt - v368.toInt)) (b := 8) ev370i (by decide) (tgt := 163) dX12_next_135 rfl (fun c371 => ?_) (fun c371 => ?_)
                      · refine lv_ldc2 (v := (-1)) hx hb E.2.2.2.1 (E.2.2.2.2.1 _ w_1470) dX12_next_163 ?_
                        refine q_put E hC361 hS365 g0 fp_RX12_126 tv_J rfl rfl dX12_next_166 (fun H372 locs372 hC372 hS372 U372 => ?_)
                        have hKp372 := Kp.upO E g0 fp_RX12_126 rfl U372 hKp361
                        have tqt : ∀ j, sI H372 tq j = sI H0 tq j := fun j => (up_nI U372 (ne_k gtq g0 (by decide))).trans (tqt j)
                        have m373 : (sI H372 h0 (X.1.2 11 12)).toInt = (sI H361 h0 (X.1.2 11 12)).toInt := congrArg Int32.toInt (up_nI U372 (ne_f E 11 12 19 rfl (by decide) (by decide) (by decide)))
                        have m374 : (sI H372 h0 (X.1.2 11 14)).toInt = (sI H361 h0 (X.1.2 11 14)).toInt := congrArg Int32.toInt (up_nI U372 (ne_f E 11 14 19 rfl (by decide) (by decide) (by decide)))
                        have m375 := congrArg tk m374
                        have m376 : (sI H372 h0 (X.1.2 11 16)).toInt = (sI H361 h0 (X.1.2 11 16)).toInt := congrArg Int32.toInt (up_nI U372 (ne_f E 11 16 19 rfl (by decide) (by decide) (by decide)))
                        have m377 : (sI H372 h0 (X.1.2 11 15)).toInt = (sI H361 h0 (X.1.2 11 15)).toInt := congrArg Int32.toInt (up_nI U372 (ne_f E 11 15 19 rfl (by decide) (by decide) (by decide)))
                        have m378 : (sI H372 h0 (X.1.2 11 9)).toInt = (sI H361 h0 (X.1.2 11 9)).toInt := congrArg Int32.toInt (up_nI U372 (ne_f E 11 9 19 rfl (by decide) (by decide) (by decide)))
                        have m379 : (sI H372 h0 (X.1.2 11 17)).toInt = (sI H361 h0 (X.1.2 11 17)).toInt := congrArg Int32.toInt (up_nI U372 (ne_f E 11 17 19 rfl (by decide) (by decide) (by decide)))
                        have m380 : (sI H372 h0 (X.1.2 11 18)).toInt = (sI H361 h0 (X.1.2 11 18)).toInt := congrArg Int32.toInt (up_nI U372 (ne_f E 11 18 19 rfl (by decide) (by decide) (by decide)))
                        have wj : (sJ H372 h0 (X.1.2 11 19)).toInt = (-1) := (congrArg Int64.toInt (up_J U372)).trans (show ((-1) : Int64).toInt = (-1) from by decide)
                        have hww2 := by first | exact WWI.step qm1 qm2 qm3 qb2 hil4 hwe hww hwb4 hsw (by omega) (by omega) | exact (WWI.out (b := (bf H0 tq)) (p := sq) (q := (sI H372 h0 (X.1.2 11 16)).toInt) (by omega))
                        refine lv_aload_n hx hb dX12_next_169 rfl (lv_at hl 1 rfl) ?_
                        refine lv_dup hx hb dX12_next_170 rfl ?_
                        have e382 := (up_nI U372 (ne_f E 11 16 19 rfl (by decide) (by decide) (by decide))).trans ev362
                        refine q_getI E hC372 g0 fa_RX12_111 dX12_next_171 (fun v381 ev381 lv381 uv381 => ?_)
                        have qv381 := e382.symm.trans ev381; subst qv381
                        have m383 : (sI H372 h0 (X.1.2 11 16)).toInt = v362.toInt := (congrArg Int32.toInt ev381).trans rfl
                        refine lv_iconst (v := 1) hx hb dX12_next_174 rfl ?_
                        refine lv_iadd hx hb dX12_next_175 (lv_topi (fun v384 ev384 => ?_))
                        have ev384i : v384.toInt = (v362.toInt + 1) := i_add ev384 rfl (by decide) (by omega) (by omega)
                        refine q_put E hC372 hS372 g0 fp_RX12_111 (tv_I ev384i (by omega) (by omega)) rfl rfl dX12_next_176 (fun H385 locs385 hC385 hS385 U385 => ?_)
                        have hKp385 := Kp.upO E g0 fp_RX12_111 rfl U385 hKp372
                        have e386 := up_I U385
                        have m387 : (sI H385 h0 (X.1.2 11 16)).toInt = (v362.toInt + 1) := (congrArg Int32.toInt e386).trans ev384i
                        have tqt : ∀ j, sI H385 tq j = sI H0 tq j := fun j => (up_nI U385 (ne_k gtq g0 (by decide))).trans (tqt j)
                        have wj : (sJ H385 h0 (X.1.2 11 19)).toInt = (-1) := (congrArg Int64.toInt (up_nJ U385 (ne_f E 11 19 16 rfl (by decide) (by decide) (by decide)))).trans wj
                        have m388 : (sI H385 h0 (X.1.2 11 12)).toInt = (sI H372 h0 (X.1.2 11 12)).toInt := congrArg Int32.toInt (up_nI U385 (ne_f E 11 12 16 rfl (by decide) (by decide) (by decide)))
                        have m389 : (sI H385 h0 (X.1.2 11 14)).toInt = (sI H372 h0 (X.1.2 11 14)).toInt := congrArg Int32.toInt (up_nI U385 (ne_f E 11 14 16 rfl (by decide) (by decide) (by decide)))
                        have m390 := congrArg tk m389
                        have m391 : (sI H385 h0 (X.1.2 11 15)).toInt = (sI H372 h0 (X.1.2 11 15)).toInt := congrArg Int32.toInt (up_nI U385 (ne_f E 11 15 16 rfl (by decide) (by decide) (by decide)))
                        have m392 : (sI H385 h0 (X.1.2 11 9)).toInt = (sI H372 h0 (X.1.2 11 9)).toInt := congrArg Int32.toInt (up_nI U385 (ne_f E 11 9 16 rfl (by decide) (by decide) (by decide)))
                        have m393 : (sI H385 h0 (X.1.2 11 17)).toInt = (sI H372 h0 (X.1.2 11 17)).toInt := congrArg Int32.toInt (up_nI U385 (ne_f E 11 17 16 rfl (by decide) (by decide) (by decide)))
                        have m394 : (sI H385 h0 (X.1.2 11 18)).toInt = (sI H372 h0 (X.1.2 11 18)).toInt := congrArg Int32.toInt (up_nI U385 (ne_f E 11 18 16 rfl (by decide) (by decide) (by decide)))
                        refine lv_goto (tgt := 109) hx hb dX12_next_179 rfl ?_
                        have m1_behind : (sI H361 h0 (X.1.2 11 16)).toInt = v362.toInt := (congrArg Int32.toInt ev362).trans rfl
                        have m2_behind : (sI H385 h0 (X.1.2 11 16)).toInt = (v362.toInt + 1) := (congrArg Int32.toInt e386).trans ev384i
                        exact ih361 H385 locs385 ls (by omega) (by omega) (by omega) (by omega) (by omega) (by omega) (by omega) (SpP.cast (hsw.step (by omega) (by omega) hil) (by omega)) (hww2.cast (by omega) wj.symm) hC385 hS385 hKp385 tqt hl
                      · refine lv_aload_n hx hb dX12_next_138 rfl (lv_at hl 1 rfl) ?_
                        refine q_getJ E hC361 g0 fa_RX12_126 dX12_next_139 (fun v395 ev395 => ?_)
                        have hwe : v395.toInt = (sJ H361 h0 (X.1.2 11 19)).toInt := by rw [← ev395]
                        refine lv_ldc2 (v := 32) hx hb E.2.2.2.1 (E.2.2.2.2.1 _ w_1506) dX12_next_142 ?_
                        refine lv_lmul hx hb dX12_next_145 (lv_topl (fun v396 ev396 => ?_))
                        have qm1 := ev396
                        refine lv_aload_n hx hb dX12_next_146 rfl (lv_at hl 1 rfl) ?_
                        refine lv_aload_n hx hb dX12_next_147 rfl (lv_at hl 1 rfl) ?_
                        refine q_getI E hC361 g0 fa_RX12_111 dX12_next_148 (fun v397 ev397 lv397 uv397 => ?_)
                        have qv397 := ev362.symm.trans ev397; subst qv397
                        refine q_goIp (q_runV (As := [.int v362]) (rest := [.long v396, .ref h0]) E hC361 hS365 (m_X12_look2 l X Γ H361 hC361 h0 g0 v362 (a1 := v362.toInt) rfl ca gca uc tq ((kp_R hKp361 g0 (ci := 11) (k := 7) rfl (by decide) rfl).trans htq) gtq (by omega)) cw_X12_look2 cl_RX12_117 g0 ⟨rfl, rfl⟩ rfl hl.1 rfl (show _ ≤ _ from by simp [Value.category]) (by decide) dX12_next_151) hS365 (fun v398 locs398 hr398 hS398 => ?_)
                        obtain ⟨f398_0, f398_1⟩ := hr398
                        have hl4 := LK.cv f398_1 tqt (n2 := (sI H0 h0 (X.1.2 11 9)).toInt) (a2 := (sI H361 h0 (X.1.2 11 16)).toInt) (by omega) (by omega)
                        have hil4 : isLt (v398 : Int32).toInt := by unfold isLt; omega
                        have hwb4 : (v398 : Int32).toInt = bf H0 tq ((sI H361 h0 (X.1.2 11 16)).toInt : Int).toNat := by omega
                        refine lv_i2l (v := v398.toInt64) hx hb dX12_next_154 rfl (lv_topl (fun v399 ev399 => ?_))
                        have ev399i : v399.toInt = v398.toInt := l_ofi ev399.symm rfl
                        refine lv_ladd hx hb dX12_next_155 (lv_topl (fun v400 ev400 => ?_))
                        have qm2 := ev400; have qb2 := ev399i
                        refine lv_ldc2 (v := 96) hx hb E.2.2.2.1 (E.2.2.2.2.1 _ w_1507) dX12_next_156 ?_
                        refine lv_lsub hx hb dX12_next_159 (lv_topl (fun v401 ev401 => ?_))
                        have qm3 := ev401
                        refine lv_goto (tgt := 166) hx hb dX12_next_160 rfl ?_
                        refine q_put E hC361 hS398 g0 fp_RX12_126 tv_J rfl rfl dX12_next_166 (fun H402 locs402 hC402 hS402 U402 => ?_)
                        have hKp402 := Kp.upO E g0 fp_RX12_126 rfl U402 hKp361
                        have tqt : ∀ j, sI H402 tq j = sI H0 tq j := fun j => (up_nI U402 (ne_k gtq g0 (by decide))).trans (tqt j)
                        have m403 : (sI H402 h0 (X.1.2 11 12)).toInt = (sI H361 h0 (X.1.2 11 12)).toInt := congrArg Int32.toInt (up_nI U402 (ne_f E 11 12 19 rfl (by decide) (by decide) (by decide)))
                        have m404 : (sI H402 h0 (X.1.2 11 14)).toInt = (sI H361 h0 (X.1.2 11 14)).toInt := congrArg Int32.toInt (up_nI U402 (ne_f E 11 14 19 rfl (by decide) (by decide) (by decide)))
                        have m405 := congrArg tk m404
                        have m406 : (sI H402 h0 (X.1.2 11 16)).toInt = (sI H361 h0 (X.1.2 11 16)).toInt := congrArg Int32.toInt (up_nI U402 (ne_f E 11 16 19 rfl (by decide) (by decide) (by decide)))
                        have m407 : (sI H402 h0 (X.1.2 11 15)).toInt = (sI H361 h0 (X.1.2 11 15)).toInt := congrArg Int32.toInt (up_nI U402 (ne_f E 11 15 19 rfl (by decide) (by decide) (by decide)))
                        have m408 : (sI H402 h0 (X.1.2 11 9)).toInt = (sI H361 h0 (X.1.2 11 9)).toInt := congrArg Int32.toInt (up_nI U402 (ne_f E 11 9 19 rfl (by decide) (by decide) (by decide)))
                        have m409 : (sI H402 h0 (X.1.2 11 17)).toInt = (sI H361 h0 (X.1.2 11 17)).toInt := congrArg Int32.toInt (up_nI U402 (ne_f E 11 17 19 rfl (by decide) (by decide) (by decide)))
                        have m410 : (sI H402 h0 (X.1.2 11 18)).toInt = (sI H361 h0 (X.1.2 11 18)).toInt := congrArg Int32.toInt (up_nI U402 (ne_f E 11 18 19 rfl (by decide) (by decide) (by decide)))
                        have wj : (sJ H402 h0 (X.1.2 11 19)).toInt = v401.toInt := (congrArg Int64.toInt (up_J U402)).trans rfl
                        have hww2 := by first | exact WWI.step qm1 qm2 qm3 qb2 hil4 hwe hww hwb4 hsw (by omega) (by omega) | exact (WWI.out (b := (bf H0 tq)) (p := sq) (q := (sI H402 h0 (X.1.2 11 16)).toInt) (by omega))
                        refine lv_aload_n hx hb dX12_next_169 rfl (lv_at hl 1 rfl) ?_
                        refine lv_dup hx hb dX12_next_170 rfl ?_
                        have e412 := (up_nI U402 (ne_f E 11 16 19 rfl (by decide) (by decide) (by decide))).trans ev362
                        refine q_getI E hC402 g0 fa_RX12_111 dX12_next_171 (fun v411 ev411 lv411 uv411 => ?_)
                        have qv411 := e412.symm.trans ev411; subst qv411
                        have m413 : (sI H402 h0 (X.1.2 11 16)).toInt = v362.toInt := (congrArg Int32.toInt ev411).trans rfl
                        refine lv_iconst (v := 1) hx hb dX12_next_174 rfl ?_
                        refine lv_iadd hx hb dX12_next_175 (lv_topi (fun v414 ev414 => ?_))
                        have ev414i : v414.toInt = (v362.toInt + 1) := i_add ev414 rfl (by decide) (by omega) (by omega)
                        refine q_put E hC402 hS402 g0 fp_RX12_111 (tv_I ev414i (by omega) (by omega)) rfl rfl dX12_next_176 (fun H415 locs415 hC415 hS415 U415 => ?_)
                        have hKp415 := Kp.upO E g0 fp_RX12_111 rfl U415 hKp402
                        have e416 := up_I U415
                        have m417 : (sI H415 h0 (X.1.2 11 16)).toInt = (v362.toInt + 1) := (congrArg Int32.toInt e416).trans ev414i
                        have tqt : ∀ j, sI H415 tq j = sI H0 tq j := fun j => (up_nI U415 (ne_k gtq g0 (by decide))).trans (tqt j)
                        have wj : (sJ H415 h0 (X.1.2 11 19)).toInt = v401.toInt := (congrArg Int64.toInt (up_nJ U415 (ne_f E 11 19 16 rfl (by decide) (by decide) (by decide)))).trans wj
                        have m418 : (sI H415 h0 (X.1.2 11 12)).toInt = (sI H402 h0 (X.1.2 11 12)).toInt := congrArg Int32.toInt (up_nI U415 (ne_f E 11 12 16 rfl (by decide) (by decide) (by decide)))
                        have m419 : (sI H415 h0 (X.1.2 11 14)).toInt = (sI H402 h0 (X.1.2 11 14)).toInt := congrArg Int32.toInt (up_nI U415 (ne_f E 11 14 16 rfl (by decide) (by decide) (by decide)))
                        have m420 := congrArg tk m419
                        have m421 : (sI H415 h0 (X.1.2 11 15)).toInt = (sI H402 h0 (X.1.2 11 15)).toInt := congrArg Int32.toInt (up_nI U415 (ne_f E 11 15 16 rfl (by decide) (by decide) (by decide)))
                        have m422 : (sI H415 h0 (X.1.2 11 9)).toInt = (sI H402 h0 (X.1.2 11 9)).toInt := congrArg Int32.toInt (up_nI U415 (ne_f E 11 9 16 rfl (by decide) (by decide) (by decide)))
                        have m423 : (sI H415 h0 (X.1.2 11 17)).toInt = (sI H402 h0 (X.1.2 11 17)).toInt := congrArg Int32.toInt (up_nI U415 (ne_f E 11 17 16 rfl (by decide) (by decide) (by decide)))
                        have m424 : (sI H415 h0 (X.1.2 11 18)).toInt = (sI H402 h0 (X.1.2 11 18)).toInt := congrArg Int32.toInt (up_nI U415 (ne_f E 11 18 16 rfl (by decide) (by decide) (by decide)))
                        refine lv_goto (tgt := 109) hx hb dX12_next_179 rfl ?_
                        have m1_behind : (sI H361 h0 (X.1.2 11 16)).toInt = v362.toInt := (congrArg Int32.toInt ev362).trans rfl
                        have m2_behind : (sI H415 h0 (X.1.2 11 16)).toInt = (v362.toInt + 1) := (congrArg Int32.toInt e416).trans ev414i
                        exact ih361 H415 locs415 ls (by omega) (by omega) (by omega) (by omega) (by omega) (by omega) (by omega) (SpP.cast (hsw.step (by omega) (by omega) hil) (by omega)) (hww2.cast (by omega) wj.symm) hC415 hS415 hKp415 tqt hl
                    · refine q_if_eq hx hb (a := 0) (by decide) (tgt := 182) dX12_next_120 rfl (fun c425 => ?_) (fun c425 => absurd c425 (by omega))
                      have hfw : ¬ ((sI H361 h0 (X.1.2 11 16)).toInt < (sI H0 h0 (X.1.2 11 9)).toInt ∧ isLt (bf H0 tq ((sI H361 h0 (X.1.2 11 16)).toInt : Int).toNat)) := fun q => by have hb9 := br_of hC0 gtq (j := ((sI H361 h0 (X.1.2 11 16)).toInt : Int).toNat) (by omega); have q2 := q.2; unfold isLt at q2; omega
                      refine lv_aload_n hx hb dX12_next_182 rfl (lv_at hl 1 rfl) ?_
                      refine lv_aload_n hx hb dX12_next_183 rfl (lv_at hl 1 rfl) ?_
                      refine q_getI E hC361 g0 fa_RX12_111 dX12_next_184 (fun v426 ev426 lv426 uv426 => ?_)
                      have qv426 := ev362.symm.trans ev426; subst qv426
                      refine lv_aload_n hx hb dX12_next_187 rfl (lv_at hl 1 rfl) ?_
                      refine q_getI E hC361 g0 fa_RX12_114 dX12_next_188 (fun v427 ev427 lv427 uv427 => ?_)
                      have m428 : (sI H361 h0 (X.1.2 11 15)).toInt = v427.toInt := (congrArg Int32.toInt ev427).trans rfl
                      refine lv_isub hx hb dX12_next_191 (lv_topi (fun v429 ev429 => ?_))
                      have ev429i : v429.toInt = (v362.toInt - v427.toInt) := i_sub ev429 rfl rfl (by omega) (by omega)
                      refine q_put E hC361 hS365 g0 fp_RX12_133 tv_F rfl rfl dX12_next_192 (fun H430 locs430 hC430 hS430 U430 => ?_)
                      have hKp430 := Kp.upO E g0 fp_RX12_133 rfl U430 hKp361
                      have e431 := up_I U430
                      have m432 : (sI H430 h0 (X.1.2 11 18)).toInt = (v362.toInt - v427.toInt) := (congrArg Int32.toInt e431).trans ev429i
                      have tqt : ∀ j, sI H430 tq j = sI H0 tq j := fun j => (up_nI U430 (ne_k gtq g0 (by decide))).trans (tqt j)
                      have m433 : (sI H430 h0 (X.1.2 11 12)).toInt = (sI H361 h0 (X.1.2 11 12)).toInt := congrArg Int32.toInt (up_nI U430 (ne_f E 11 12 18 rfl (by decide) (by decide) (by decide)))
                      have m434 : (sI H430 h0 (X.1.2 11 14)).toInt = (sI H361 h0 (X.1.2 11 14)).toInt := congrArg Int32.toInt (up_nI U430 (ne_f E 11 14 18 rfl (by decide) (by decide) (by decide)))
                      have m435 := congrArg tk m434
                      have m436 : (sI H430 h0 (X.1.2 11 16)).toInt = (sI H361 h0 (X.1.2 11 16)).toInt := congrArg Int32.toInt (up_nI U430 (ne_f E 11 16 18 rfl (by decide) (by decide) (by decide)))
                      have m437 : (sI H430 h0 (X.1.2 11 15)).toInt = (sI H361 h0 (X.1.2 11 15)).toInt := congrArg Int32.toInt (up_nI U430 (ne_f E 11 15 18 rfl (by decide) (by decide) (by decide)))
                      have m438 : (sI H430 h0 (X.1.2 11 9)).toInt = (sI H361 h0 (X.1.2 11 9)).toInt := congrArg Int32.toInt (up_nI U430 (ne_f E 11 9 18 rfl (by decide) (by decide) (by decide)))
                      have m439 : (sI H430 h0 (X.1.2 11 17)).toInt = (sI H361 h0 (X.1.2 11 17)).toInt := congrArg Int32.toInt (up_nI U430 (ne_f E 11 17 18 rfl (by decide) (by decide) (by decide)))
                      have hwq : (sJ H430 h0 (X.1.2 11 19)).toInt = (sJ H361 h0 (X.1.2 11 19)).toInt := congrArg Int64.toInt (up_nJ U430 (ne_f E 11 19 18 rfl (by decide) (by decide) (by decide)))
                      have hT : TKM (bf H0 tq) (sI H0 h0 (X.1.2 11 9)).toInt (sI H0 h0 (X.1.2 11 16)).toInt (sI H430 h0 (X.1.2 11 15)).toInt (sI H430 h0 (X.1.2 11 16)).toInt (sI H430 h0 (X.1.2 11 14)).toInt (sI H430 h0 (X.1.2 11 17)).toInt (sI H430 h0 (X.1.2 11 18)).toInt (sJ H430 h0 (X.1.2 11 19)).toInt := (TKM.wordT (tok := (sI H430 h0 (X.1.2 11 14)).toInt) (lett := (sI H430 h0 (X.1.2 11 18)).toInt) hsz (by omega) hls ⟨hsw, hfw⟩ (by omega) (by omega) (by omega) hww).cast (by omega) (by omega) rfl rfl rfl hwq.symm
                      refine lv_goto (tgt := 330) hx hb dX12_next_195 rfl ?_
                      have hz9 := tk_or (sI H430 h0 (X.1.2 11 14)).toInt
                      exact ret H430 locs430 _ _ dX12_next_330 ⟨hKp430, ⟨by omega, by omega, by omega, hT, by omega, fun kd vl w3 pos N i mc h0 => mc.next h0 tqt (by omega) hT⟩⟩ hC430 hS430
                exact L109 _ H352 locs352 ls (Nat.lt_succ_self _) (by omega) (by omega) (by omega) (by omega) (by omega) (by omega) (SpP.cast SpP.nil (by omega)) (WWI.cast (p := sq) WWI.nil (by omega) hw0.symm) hC352 hS352 hKp352 tqt hl
              · refine q_if_eq hx hb (a := 0) (by decide) (tgt := 198) dX12_next_96 rfl (fun c440 => ?_) (fun c440 => absurd c440 (by omega))
                have hnl : ¬ isLt (bf H0 tq sq.toNat) := fun q => by unfold isLt at q; omega
                refine lv_iload_n hx hb dX12_next_198 rfl (lv_at hl 0 rfl) ?_
                refine q_goIp (q_runS (As := [.int v340]) (rest := []) E hS341 (m_X12_isDigit l X Γ H322 hC322 v340 (a0 := v340.toInt) rfl) cw_X12_isDigit cl_RX12_136 rfl hl.1 rfl (Nat.zero_le _) (by decide) dX12_next_199) hS341 (fun v441 locs441 hr441 hS441 => ?_)
                rcases hr441 with ⟨rfl, f441a0, f441a1⟩ | ⟨rfl, f441b⟩
                · refine q_if_eq hx hb (a := 1) (by decide) (tgt := 298) dX12_next_202 rfl (fun c442 => absurd c442 (by omega)) (fun c442 => ?_)
                  have hds : isDg (bf H0 tq sq.toNat) := by unfold isDg; omega
                  refine lv_aload_n hx hb dX12_next_205 rfl (lv_at hl 1 rfl) ?_
                  refine lv_iconst (v := 0) hx hb dX12_next_206 rfl ?_
                  refine q_put E hC322 hS441 g0 fp_RX12_139 tv_F rfl rfl dX12_next_207 (fun H443 locs443 hC443 hS443 U443 => ?_)
                  have hKp443 := Kp.upO E g0 fp_RX12_139 rfl U443 hKp322
                  have e444 := up_I U443
                  have m445 : (sI H443 h0 (X.1.2 11 17)).toInt = 0 := (congrArg Int32.toInt e444).trans (show (0 : Int32).toInt = 0 from by decide)
                  have tqt : ∀ j, sI H443 tq j = sI H0 tq j := fun j => (up_nI U443 (ne_k gtq g0 (by decide))).trans (tqt j)
                  have m446 : (sI H443 h0 (X.1.2 11 12)).toInt = (sI H322 h0 (X.1.2 11 12)).toInt := congrArg Int32.toInt (up_nI U443 (ne_f E 11 12 17 rfl (by decide) (by decide) (by decide)))
                  have m447 : (sI H443 h0 (X.1.2 11 14)).toInt = (sI H322 h0 (X.1.2 11 14)).toInt := congrArg Int32.toInt (up_nI U443 (ne_f E 11 14 17 rfl (by decide) (by decide) (by decide)))
                  have m448 := congrArg tk m447
                  have m449 : (sI H443 h0 (X.1.2 11 16)).toInt = (sI H322 h0 (X.1.2 11 16)).toInt := congrArg Int32.toInt (up_nI U443 (ne_f E 11 16 17 rfl (by decide) (by decide) (by decide)))
                  have m450 : (sI H443 h0 (X.1.2 11 15)).toInt = (sI H322 h0 (X.1.2 11 15)).toInt := congrArg Int32.toInt (up_nI U443 (ne_f E 11 15 17 rfl (by decide) (by decide) (by decide)))
                  have m451 : (sI H443 h0 (X.1.2 11 9)).toInt = (sI H322 h0 (X.1.2 11 9)).toInt := congrArg Int32.toInt (up_nI U443 (ne_f E 11 9 17 rfl (by decide) (by decide) (by decide)))
                  have m452 : (sI H443 h0 (X.1.2 11 18)).toInt = (sI H322 h0 (X.1.2 11 18)).toInt := congrArg Int32.toInt (up_nI U443 (ne_f E 11 18 17 rfl (by decide) (by decide) (by decide)))
                  have L210 : ∀ (n453 : Nat) (H453 : Heap) (locs453 : List Loc) (ls : Array Slot), (900 - (sI H453 h0 (X.1.2 11 16)).toInt).toNat < n453 → (sI H0 h0 (X.1.2 11 16)).toInt ≤ (sI H453 h0 (X.1.2 11 15)).toInt → (sI H453 h0 (X.1.2 11 15)).toInt ≤ (sI H453 h0 (X.1.2 11 16)).toInt → (sI H453 h0 (X.1.2 11 12)).toInt = (sI H0 h0 (X.1.2 11 12)).toInt → (sI H453 h0 (X.1.2 11 9)).toInt = (sI H0 h0 (X.1.2 11 9)).toInt → (sI H453 h0 (X.1.2 11 15)).toInt = sq → SpP isDg (bf H0 tq) (sI H0 h0 (X.1.2 11 9)).toInt sq (sI H453 h0 (X.1.2 11 16)).toInt → PNI (bf H0 tq) sq (sI H453 h0 (X.1.2 11 16)).toInt (sI H453 h0 (X.1.2 11 17)).toInt → 0 ≤ (sI H453 h0 (X.1.2 11 17)).toInt → (sI H453 h0 (X.1.2 11 17)).toInt ≤ 9999 → Conf X Γ H453 → va_S (AΓ Γ) H0 H453 locs453 → Kp X Γ [1, 6, 7, 8, 9, 10, 11, 12, 14, 15, 16, 17, 19, 22, 24, 26, 28, 30, 35, 38] H0 H453 → (∀ j, sI H453 tq j = sI H0 tq j) → lv_has ls 2 [(1, .int v340), (0, .ref h0)] → W p l e (rmL 1) s m args below meth c H453 locs453 0 0 Qz (F0 m 210 ls []) := by
                    intro n453
                    induction n453 with
                    | zero => intro H453 locs453 ls hm453 iv453_0 iv453_1 iv453_2 iv453_3 iv453_4 iv453_5 iv453_6 iv453_7 iv453_8 hC453 hS453 hKp453 tqt hl; exact absurd hm453 (Nat.not_lt_zero _)
                    | succ n453 ih453 =>
                      intro H453 locs453 ls hm453 iv453_0 iv453_1 iv453_2 iv453_3 iv453_4 iv453_5 iv453_6 iv453_7 iv453_8 hC453 hS453 hKp453 tqt hl
                      have hsn := iv453_5
                      have hpn := iv453_6
                      refine lv_aload_n hx hb dX12_next_210 rfl (lv_at hl 1 rfl) ?_
                      refine lv_aload_n hx hb dX12_next_211 rfl (lv_at hl 1 rfl) ?_
                      refine q_getI E hC453 g0 fa_RX12_111 dX12_next_212 (fun v454 ev454 lv454 uv454 => ?_)
                      have m455 : (sI H453 h0 (X.1.2 11 16)).toInt = v454.toInt := (congrArg Int32.toInt ev454).trans rfl
                      refine q_goIp (q_runV (As := [.int v454]) (rest := []) E hC453 hS453 (m_X12_look2 l X Γ H453 hC453 h0 g0 v454 (a1 := v454.toInt) rfl ca gca uc tq ((kp_R hKp453 g0 (ci := 11) (k := 7) rfl (by decide) rfl).trans htq) gtq (by omega)) cw_X12_look2 cl_RX12_117 g0 ⟨rfl, rfl⟩ rfl hl.1 rfl (Nat.zero_le _) (by decide) dX12_next_215) hS453 (fun v456 locs456 hr456 hS456 => ?_)
                      obtain ⟨f456_0, f456_1⟩ := hr456
                      have hl5 := LK.cv f456_1 tqt (n2 := (sI H0 h0 (X.1.2 11 9)).toInt) (a2 := (sI H453 h0 (X.1.2 11 16)).toInt) (by omega) (by omega)
                      refine q_goIp (q_runS (As := [.int v456]) (rest := []) E hS456 (m_X12_isDigit l X Γ H453 hC453 v456 (a0 := v456.toInt) rfl) cw_X12_isDigit cl_RX12_136 rfl hl.1 rfl (Nat.zero_le _) (by decide) dX12_next_218) hS456 (fun v457 locs457 hr457 hS457 => ?_)
                      rcases hr457 with ⟨rfl, f457a0, f457a1⟩ | ⟨rfl, f457b⟩
                      · refine q_if_eq hx hb (a := 1) (by decide) (tgt := 273) dX12_next_221 rfl (fun c458 => absurd c458 (by omega)) (fun c458 => ?_)
                        have hbr3 := br_of hC0 gtq (j := ((sI H453 h0 (X.1.2 11 16)).toInt : Int).toNat) (by omega)
                        have hdg : isDg (bf H0 tq ((sI H453 h0 (X.1.2 11 16)).toInt : Int).toNat) := by unfold isDg; omega
                        refine lv_aload_n hx hb dX12_next_224 rfl (lv_at hl 1 rfl) ?_
                        refine q_getI E hC453 g0 fa_RX12_111 dX12_next_225 (fun v459 ev459 lv459 uv459 => ?_)
                        have qv459 := ev454.symm.trans ev459; subst qv459
                        refine lv_aload_n hx hb dX12_next_228 rfl (lv_at hl 1 rfl) ?_
                        refine q_getI E hC453 g0 fa_RX12_114 dX12_next_229 (fun v460 ev460 lv460 uv460 => ?_)
                        have m461 : (sI H453 h0 (X.1.2 11 15)).toInt = v460.toInt := (congrArg Int32.toInt ev460).trans rfl
                        refine lv_isub hx hb dX12_next_232 (lv_topi (fun v462 ev462 => ?_))
                        have ev462i : v462.toInt = (v454.toInt - v460.toInt) := i_sub ev462 rfl rfl (by omega) (by omega)
                        refine lv_iconst (v := 4) hx hb dX12_next_233 rfl ?_
                        refine q_icmp_ge hx hb (a := (v454.toInt - v460.toInt)) (b := 4) ev462i (by decide) (tgt := 260) dX12_next_234 rfl (fun c463 => ?_) (fun c463 => ?_)
                        · have hpn2 : PNI (bf H0 tq) sq ((sI H453 h0 (X.1.2 11 16)).toInt + 1) (sI H453 h0 (X.1.2 11 17)).toInt := by first | exact PNI.out (by omega) | exact (PNI.step hpn hsn (by omega) hv4 (by omega) (by omega)).cast (by omega)
                          refine lv_aload_n hx hb dX12_next_260 rfl (lv_at hl 1 rfl) ?_
                          refine lv_dup hx hb dX12_next_261 rfl ?_
                          refine q_getI E hC453 g0 fa_RX12_111 dX12_next_262 (fun v464 ev464 lv464 uv464 => ?_)
                          have qv464 := ev454.symm.trans ev464; subst qv464
                          refine lv_iconst (v := 1) hx hb dX12_next_265 rfl ?_
                          refine lv_iadd hx hb dX12_next_266 (lv_topi (fun v465 ev465 => ?_))
                          have ev465i : v465.toInt = (v454.toInt + 1) := i_add ev465 rfl (by decide) (by omega) (by omega)
                          refine q_put E hC453 hS457 g0 fp_RX12_111 (tv_I ev465i (by omega) (by omega)) rfl rfl dX12_next_267 (fun H466 locs466 hC466 hS466 U466 => ?_)
                          have hKp466 := Kp.upO E g0 fp_RX12_111 rfl U466 hKp453
                          have e467 := up_I U466
                          have m468 : (sI H466 h0 (X.1.2 11 16)).toInt = (v454.toInt + 1) := (congrArg Int32.toInt e467).trans ev465i
                          have tqt : ∀ j, sI H466 tq j = sI H0 tq j := fun j => (up_nI U466 (ne_k gtq g0 (by decide))).trans (tqt j)
                          have m469 : (sI H466 h0 (X.1.2 11 12)).toInt = (sI H453 h0 (X.1.2 11 12)).toInt := congrArg Int32.toInt (up_nI U466 (ne_f E 11 12 16 rfl (by decide) (by decide) (by decide)))
                          have m470 : (sI H466 h0 (X.1.2 11 14)).toInt = (sI H453 h0 (X.1.2 11 14)).toInt := congrArg Int32.toInt (up_nI U466 (ne_f E 11 14 16 rfl (by decide) (by decide) (by decide)))
                          have m471 := congrArg tk m470
                          have m472 : (sI H466 h0 (X.1.2 11 15)).toInt = (sI H453 h0 (X.1.2 11 15)).toInt := congrArg Int32.toInt (up_nI U466 (ne_f E 11 15 16 rfl (by decide) (by decide) (by decide)))
                          have m473 : (sI H466 h0 (X.1.2 11 9)).toInt = (sI H453 h0 (X.1.2 11 9)).toInt := congrArg Int32.toInt (up_nI U466 (ne_f E 11 9 16 rfl (by decide) (by decide) (by decide)))
                          have m474 : (sI H466 h0 (X.1.2 11 17)).toInt = (sI H453 h0 (X.1.2 11 17)).toInt := congrArg Int32.toInt (up_nI U466 (ne_f E 11 17 16 rfl (by decide) (by decide) (by decide)))
                          have m475 : (sI H466 h0 (X.1.2 11 18)).toInt = (sI H453 h0 (X.1.2 11 18)).toInt := congrArg Int32.toInt (up_nI U466 (ne_f E 11 18 16 rfl (by decide) (by decide) (by decide)))
                          refine lv_goto (tgt := 210) hx hb dX12_next_270 rfl ?_
                          have m1_behind : (sI H453 h0 (X.1.2 11 16)).toInt = v454.toInt := (congrArg Int32.toInt ev454).trans rfl
                          have m2_behind : (sI H466 h0 (X.1.2 11 16)).toInt = (v454.toInt + 1) := (congrArg Int32.toInt e467).trans ev465i
                          exact ih453 H466 locs466 ls (by omega) (by omega) (by omega) (by omega) (by omega) (by omega) (SpP.cast (hsn.step (by omega) (by omega) hdg) (by omega)) (hpn2.cast2 (by omega) (by omega)) (by omega) (by omega) hC466 hS466 hKp466 tqt hl
                        · have hbd := hpn.bd hsn (by omega) (by omega)
                          refine lv_aload_n hx hb dX12_next_237 rfl (lv_at hl 1 rfl) ?_
                          refine lv_bipush (v := 10) hx hb dX12_next_238 rfl ?_
                          refine lv_aload_n hx hb dX12_next_240 rfl (lv_at hl 1 rfl) ?_
                          refine q_getI E hC453 g0 fa_RX12_139 dX12_next_241 (fun v476 ev476 _ _ => ?_)
                          have m477 : (sI H453 h0 (X.1.2 11 17)).toInt = v476.toInt := (congrArg Int32.toInt ev476).trans rfl
                          refine lv_imul hx hb dX12_next_244 (lv_topi (fun v478 ev478 => ?_))
                          have ev478i : v478.toInt = (10 * v476.toInt) := i_mul ev478 (by decide) rfl (by omega) (by omega)
                          refine lv_aload_n hx hb dX12_next_245 rfl (lv_at hl 1 rfl) ?_
                          refine lv_aload_n hx hb dX12_next_246 rfl (lv_at hl 1 rfl) ?_
                          refine q_getI E hC453 g0 fa_RX12_111 dX12_next_247 (fun v479 ev479 lv479 uv479 => ?_)
                          have qv479 := ev454.symm.trans ev479; subst qv479
                          refine q_goIp (q_runV (As := [.int v454]) (rest := [.int v478, .ref h0]) E hC453 hS457 (m_X12_look2 l X Γ H453 hC453 h0 g0 v454 (a1 := v454.toInt) rfl ca gca uc tq ((kp_R hKp453 g0 (ci := 11) (k := 7) rfl (by decide) rfl).trans htq) gtq (by omega)) cw_X12_look2 cl_RX12_117 g0 ⟨rfl, rfl⟩ rfl hl.1 rfl (show _ ≤ _ from by simp [Value.category]) (by decide) dX12_next_250) hS457 (fun v480 locs480 hr480 hS480 => ?_)
                          obtain ⟨f480_0, f480_1⟩ := hr480
                          have hl6 := LK.cv f480_1 tqt (n2 := (sI H0 h0 (X.1.2 11 9)).toInt) (a2 := (sI H453 h0 (X.1.2 11 16)).toInt) (by omega) (by omega)
                          have hv4 : v480.toInt = bf H0 tq ((sI H453 h0 (X.1.2 11 16)).toInt : Int).toNat := by omega
                          refine lv_iadd hx hb dX12_next_253 (lv_topi (fun v481 ev481 => ?_))
                          have ev481i : v481.toInt = ((10 * v476.toInt) + v480.toInt) := i_add ev481 ev478i rfl (by omega) (by omega)
                          refine lv_bipush (v := 48) hx hb dX12_next_254 rfl ?_
                          refine lv_isub hx hb dX12_next_256 (lv_topi (fun v482 ev482 => ?_))
                          have ev482i : v482.toInt = (((10 * v476.toInt) + v480.toInt) - 48) := i_sub ev482 ev481i (by decide) (by omega) (by omega)
                          refine q_put E hC453 hS480 g0 fp_RX12_139 tv_F rfl rfl dX12_next_257 (fun H483 locs483 hC483 hS483 U483 => ?_)
                          have hKp483 := Kp.upO E g0 fp_RX12_139 rfl U483 hKp453
                          have e484 := up_I U483
                          have m485 : (sI H483 h0 (X.1.2 11 17)).toInt = (((10 * v476.toInt) + v480.toInt) - 48) := (congrArg Int32.toInt e484).trans ev482i
                          have tqt : ∀ j, sI H483 tq j = sI H0 tq j := fun j => (up_nI U483 (ne_k gtq g0 (by decide))).trans (tqt j)
                          have m486 : (sI H483 h0 (X.1.2 11 12)).toInt = (sI H453 h0 (X.1.2 11 12)).toInt := congrArg Int32.toInt (up_nI U483 (ne_f E 11 12 17 rfl (by decide) (by decide) (by decide)))
                          have m487 : (sI H483 h0 (X.1.2 11 14)).toInt = (sI H453 h0 (X.1.2 11 14)).toInt := congrArg Int32.toInt (up_nI U483 (ne_f E 11 14 17 rfl (by decide) (by decide) (by decide)))
                          have m488 := congrArg tk m487
                          have m489 : (sI H483 h0 (X.1.2 11 16)).toInt = (sI H453 h0 (X.1.2 11 16)).toInt := congrArg Int32.toInt (up_nI U483 (ne_f E 11 16 17 rfl (by decide) (by decide) (by decide)))
                          have m490 : (sI H483 h0 (X.1.2 11 15)).toInt = (sI H453 h0 (X.1.2 11 15)).toInt := congrArg Int32.toInt (up_nI U483 (ne_f E 11 15 17 rfl (by decide) (by decide) (by decide)))
                          have m491 : (sI H483 h0 (X.1.2 11 9)).toInt = (sI H453 h0 (X.1.2 11 9)).toInt := congrArg Int32.toInt (up_nI U483 (ne_f E 11 9 17 rfl (by decide) (by decide) (by decide)))
                          have m492 : (sI H483 h0 (X.1.2 11 18)).toInt = (sI H453 h0 (X.1.2 11 18)).toInt := congrArg Int32.toInt (up_nI U483 (ne_f E 11 18 17 rfl (by decide) (by decide) (by decide)))
                          have hpn2 : PNI (bf H0 tq) sq ((sI H483 h0 (X.1.2 11 16)).toInt + 1) (sI H483 h0 (X.1.2 11 17)).toInt := by first | exact PNI.out (by omega) | exact (PNI.step hpn hsn (by omega) hv4 (by omega) (by omega)).cast (by omega)
                          refine lv_aload_n hx hb dX12_next_260 rfl (lv_at hl 1 rfl) ?_
                          refine lv_dup hx hb dX12_next_261 rfl ?_
                          have e494 := (up_nI U483 (ne_f E 11 16 17 rfl (by decide) (by decide) (by decide))).trans ev454
                          refine q_getI E hC483 g0 fa_RX12_111 dX12_next_262 (fun v493 ev493 lv493 uv493 => ?_)
                          have qv493 := e494.symm.trans ev493; subst qv493
                          have m495 : (sI H483 h0 (X.1.2 11 16)).toInt = v454.toInt := (congrArg Int32.toInt ev493).trans rfl
                          refine lv_iconst (v := 1) hx hb dX12_next_265 rfl ?_
                          refine lv_iadd hx hb dX12_next_266 (lv_topi (fun v496 ev496 => ?_))
                          have ev496i : v496.toInt = (v454.toInt + 1) := i_add ev496 rfl (by decide) (by omega) (by omega)
                          refine q_put E hC483 hS483 g0 fp_RX12_111 (tv_I ev496i (by omega) (by omega)) rfl rfl dX12_next_267 (fun H497 locs497 hC497 hS497 U497 => ?_)
                          have hKp497 := Kp.upO E g0 fp_RX12_111 rfl U497 hKp483
                          have e498 := up_I U497
                          have m499 : (sI H497 h0 (X.1.2 11 16)).toInt = (v454.toInt + 1) := (congrArg Int32.toInt e498).trans ev496i
                          have tqt : ∀ j, sI H497 tq j = sI H0 tq j := fun j => (up_nI U497 (ne_k gtq g0 (by decide))).trans (tqt j)
                          have m500 : (sI H497 h0 (X.1.2 11 12)).toInt = (sI H483 h0 (X.1.2 11 12)).toInt := congrArg Int32.toInt (up_nI U497 (ne_f E 11 12 16 rfl (by decide) (by decide) (by decide)))
                          have m501 : (sI H497 h0 (X.1.2 11 14)).toInt = (sI H483 h0 (X.1.2 11 14)).toInt := congrArg Int32.toInt (up_nI U497 (ne_f E 11 14 16 rfl (by decide) (by decide) (by decide)))
                          have m502 := congrArg tk m501
                          have m503 : (sI H497 h0 (X.1.2 11 15)).toInt = (sI H483 h0 (X.1.2 11 15)).toInt := congrArg Int32.toInt (up_nI U497 (ne_f E 11 15 16 rfl (by decide) (by decide) (by decide)))
                          have m504 : (sI H497 h0 (X.1.2 11 9)).toInt = (sI H483 h0 (X.1.2 11 9)).toInt := congrArg Int32.toInt (up_nI U497 (ne_f E 11 9 16 rfl (by decide) (by decide) (by decide)))
                          have m505 : (sI H497 h0 (X.1.2 11 17)).toInt = (sI H483 h0 (X.1.2 11 17)).toInt := congrArg Int32.toInt (up_nI U497 (ne_f E 11 17 16 rfl (by decide) (by decide) (by decide)))
                          have m506 : (sI H497 h0 (X.1.2 11 18)).toInt = (sI H483 h0 (X.1.2 11 18)).toInt := congrArg Int32.toInt (up_nI U497 (ne_f E 11 18 16 rfl (by decide) (by decide) (by decide)))
                          refine lv_goto (tgt := 210) hx hb dX12_next_270 rfl ?_
                          have m1_behind : (sI H453 h0 (X.1.2 11 16)).toInt = v454.toInt := (congrArg Int32.toInt ev454).trans rfl
                          have m2_behind : (sI H497 h0 (X.1.2 11 16)).toInt = (v454.toInt + 1) := (congrArg Int32.toInt e498).trans ev496i
                          exact ih453 H497 locs497 ls (by omega) (by omega) (by omega) (by omega) (by omega) (by omega) (SpP.cast (hsn.step (by omega) (by omega) hdg) (by omega)) (hpn2.cast2 (by omega) (by omega)) (by omega) (by omega) hC497 hS497 hKp497 tqt hl
                      · refine q_if_eq hx hb (a := 0) (by decide) (tgt := 273) dX12_next_221 rfl (fun c507 => ?_) (fun c507 => absurd c507 (by omega))
                        have hfn : ¬ ((sI H453 h0 (X.1.2 11 16)).toInt < (sI H0 h0 (X.1.2 11 9)).toInt ∧ isDg (bf H0 tq ((sI H453 h0 (X.1.2 11 16)).toInt : Int).toNat)) := fun q => by have hb9 := br_of hC0 gtq (j := ((sI H453 h0 (X.1.2 11 16)).toInt : Int).toNat) (by omega); have q2 := q.2; unfold isDg at q2; omega
                        refine lv_aload_n hx hb dX12_next_273 rfl (lv_at hl 1 rfl) ?_
                        refine lv_aload_n hx hb dX12_next_274 rfl (lv_at hl 1 rfl) ?_
                        refine q_getI E hC453 g0 fa_RX12_111 dX12_next_275 (fun v508 ev508 lv508 uv508 => ?_)
                        have qv508 := ev454.symm.trans ev508; subst qv508
                        refine lv_aload_n hx hb dX12_next_278 rfl (lv_at hl 1 rfl) ?_
                        refine q_getI E hC453 g0 fa_RX12_114 dX12_next_279 (fun v509 ev509 lv509 uv509 => ?_)
                        have m510 : (sI H453 h0 (X.1.2 11 15)).toInt = v509.toInt := (congrArg Int32.toInt ev509).trans rfl
                        refine lv_isub hx hb dX12_next_282 (lv_topi (fun v511 ev511 => ?_))
                        have ev511i : v511.toInt = (v454.toInt - v509.toInt) := i_sub ev511 rfl rfl (by omega) (by omega)
                        refine lv_iconst (v := 4) hx hb dX12_next_283 rfl ?_
                        refine q_icmp_le hx hb (a := (v454.toInt - v509.toInt)) (b := 4) ev511i (by decide) (tgt := 291) dX12_next_284 rfl (fun c512 => ?_) (fun c512 => ?_)
                        · refine lv_iconst (v := 2) hx hb dX12_next_291 rfl ?_
                          refine q_put E hC453 hS457 g0 fp_RX12_120 tv_F rfl rfl dX12_next_292 (fun H513 locs513 hC513 hS513 U513 => ?_)
                          have hKp513 := Kp.upO E g0 fp_RX12_120 rfl U513 hKp453
                          have e514 := up_I U513
                          have m515 : (sI H513 h0 (X.1.2 11 14)).toInt = 2 := (congrArg Int32.toInt e514).trans (show (2 : Int32).toInt = 2 from by decide)
                          have tqt : ∀ j, sI H513 tq j = sI H0 tq j := fun j => (up_nI U513 (ne_k gtq g0 (by decide))).trans (tqt j)
                          have m516 : (sI H513 h0 (X.1.2 11 12)).toInt = (sI H453 h0 (X.1.2 11 12)).toInt := congrArg Int32.toInt (up_nI U513 (ne_f E 11 12 14 rfl (by decide) (by decide) (by decide)))
                          have m517 : (sI H513 h0 (X.1.2 11 16)).toInt = (sI H453 h0 (X.1.2 11 16)).toInt := congrArg Int32.toInt (up_nI U513 (ne_f E 11 16 14 rfl (by decide) (by decide) (by decide)))
                          have m518 : (sI H513 h0 (X.1.2 11 15)).toInt = (sI H453 h0 (X.1.2 11 15)).toInt := congrArg Int32.toInt (up_nI U513 (ne_f E 11 15 14 rfl (by decide) (by decide) (by decide)))
                          have m519 : (sI H513 h0 (X.1.2 11 9)).toInt = (sI H453 h0 (X.1.2 11 9)).toInt := congrArg Int32.toInt (up_nI U513 (ne_f E 11 9 14 rfl (by decide) (by decide) (by decide)))
                          have m520 : (sI H513 h0 (X.1.2 11 17)).toInt = (sI H453 h0 (X.1.2 11 17)).toInt := congrArg Int32.toInt (up_nI U513 (ne_f E 11 17 14 rfl (by decide) (by decide) (by decide)))
                          have m521 : (sI H513 h0 (X.1.2 11 18)).toInt = (sI H453 h0 (X.1.2 11 18)).toInt := congrArg Int32.toInt (up_nI U513 (ne_f E 11 18 14 rfl (by decide) (by decide) (by decide)))
                          have hT : TKM (bf H0 tq) (sI H0 h0 (X.1.2 11 9)).toInt (sI H0 h0 (X.1.2 11 16)).toInt (sI H513 h0 (X.1.2 11 15)).toInt (sI H513 h0 (X.1.2 11 16)).toInt (sI H513 h0 (X.1.2 11 14)).toInt (sI H513 h0 (X.1.2 11 17)).toInt (sI H513 h0 (X.1.2 11 18)).toInt (sJ H513 h0 (X.1.2 11 19)).toInt := by first | exact (TKM.numT (tok := (sI H513 h0 (X.1.2 11 14)).toInt) (num := _) hsz (by omega) hds ⟨hsn, hfn⟩ (by omega) (by omega) (by omega) hpn).cast (by omega) (by omega) rfl (by omega) rfl rfl | exact (TKM.long (tok := (sI H513 h0 (X.1.2 11 14)).toInt) hsz (by omega) hds ⟨hsn, hfn⟩ (by omega) (by omega) (by omega)).cast (by omega) (by omega) rfl rfl rfl rfl
                          refine lv_goto (tgt := 330) hx hb dX12_next_295 rfl ?_
                          have hz9 := tk_or (sI H513 h0 (X.1.2 11 14)).toInt
                          exact ret H513 locs513 _ _ dX12_next_330 ⟨hKp513, ⟨by omega, by omega, by omega, hT, by omega, fun kd vl w3 pos N i mc h0 => mc.next h0 tqt (by omega) hT⟩⟩ hC513 hS513
                        · refine lv_iconst (v := 4) hx hb dX12_next_287 rfl ?_
                          refine lv_goto (tgt := 292) hx hb dX12_next_288 rfl ?_
                          refine q_put E hC453 hS457 g0 fp_RX12_120 tv_F rfl rfl dX12_next_292 (fun H522 locs522 hC522 hS522 U522 => ?_)
                          have hKp522 := Kp.upO E g0 fp_RX12_120 rfl U522 hKp453
                          have e523 := up_I U522
                          have m524 : (sI H522 h0 (X.1.2 11 14)).toInt = 4 := (congrArg Int32.toInt e523).trans (show (4 : Int32).toInt = 4 from by decide)
                          have tqt : ∀ j, sI H522 tq j = sI H0 tq j := fun j => (up_nI U522 (ne_k gtq g0 (by decide))).trans (tqt j)
                          have m525 : (sI H522 h0 (X.1.2 11 12)).toInt = (sI H453 h0 (X.1.2 11 12)).toInt := congrArg Int32.toInt (up_nI U522 (ne_f E 11 12 14 rfl (by decide) (by decide) (by decide)))
                          have m526 : (sI H522 h0 (X.1.2 11 16)).toInt = (sI H453 h0 (X.1.2 11 16)).toInt := congrArg Int32.toInt (up_nI U522 (ne_f E 11 16 14 rfl (by decide) (by decide) (by decide)))
                          have m527 : (sI H522 h0 (X.1.2 11 15)).toInt = (sI H453 h0 (X.1.2 11 15)).toInt := congrArg Int32.toInt (up_nI U522 (ne_f E 11 15 14 rfl (by decide) (by decide) (by decide)))
                          have m528 : (sI H522 h0 (X.1.2 11 9)).toInt = (sI H453 h0 (X.1.2 11 9)).toInt := congrArg Int32.toInt (up_nI U522 (ne_f E 11 9 14 rfl (by decide) (by decide) (by decide)))
                          have m529 : (sI H522 h0 (X.1.2 11 17)).toInt = (sI H453 h0 (X.1.2 11 17)).toInt := congrArg Int32.toInt (up_nI U522 (ne_f E 11 17 14 rfl (by decide) (by decide) (by decide)))
                          have m530 : (sI H522 h0 (X.1.2 11 18)).toInt = (sI H453 h0 (X.1.2 11 18)).toInt := congrArg Int32.toInt (up_nI U522 (ne_f E 11 18 14 rfl (by decide) (by decide) (by decide)))
                          have hT : TKM (bf H0 tq) (sI H0 h0 (X.1.2 11 9)).toInt (sI H0 h0 (X.1.2 11 16)).toInt (sI H522 h0 (X.1.2 11 15)).toInt (sI H522 h0 (X.1.2 11 16)).toInt (sI H522 h0 (X.1.2 11 14)).toInt (sI H522 h0 (X.1.2 11 17)).toInt (sI H522 h0 (X.1.2 11 18)).toInt (sJ H522 h0 (X.1.2 11 19)).toInt := by first | exact (TKM.numT (tok := (sI H522 h0 (X.1.2 11 14)).toInt) (num := _) hsz (by omega) hds ⟨hsn, hfn⟩ (by omega) (by omega) (by omega) hpn).cast (by omega) (by omega) rfl (by omega) rfl rfl | exact (TKM.long (tok := (sI H522 h0 (X.1.2 11 14)).toInt) hsz (by omega) hds ⟨hsn, hfn⟩ (by omega) (by omega) (by omega)).cast (by omega) (by omega) rfl rfl rfl rfl
                          refine lv_goto (tgt := 330) hx hb dX12_next_295 rfl ?_
                          have hz9 := tk_or (sI H522 h0 (X.1.2 11 14)).toInt
                          exact ret H522 locs522 _ _ dX12_next_330 ⟨hKp522, ⟨by omega, by omega, by omega, hT, by omega, fun kd vl w3 pos N i mc h0 => mc.next h0 tqt (by omega) hT⟩⟩ hC522 hS522
                  exact L210 _ H443 locs443 ls (Nat.lt_succ_self _) (by omega) (by omega) (by omega) (by omega) (by omega) (SpP.cast SpP.nil (by omega)) (fun _ => by rw [show (sI H443 h0 (X.1.2 11 16)).toInt = sq by omega, Int.sub_self, show (sI H443 h0 (X.1.2 11 17)).toInt = 0 by omega]; rfl) (by omega) (by omega) hC443 hS443 hKp443 tqt hl
                · refine q_if_eq hx hb (a := 0) (by decide) (tgt := 298) dX12_next_202 rfl (fun c531 => ?_) (fun c531 => absurd c531 (by omega))
                  have hnd : ¬ isDg (bf H0 tq sq.toNat) := fun q => by unfold isDg at q; omega
                  refine lv_aload_n hx hb dX12_next_298 rfl (lv_at hl 1 rfl) ?_
                  refine lv_aload_n hx hb dX12_next_299 rfl (lv_at hl 1 rfl) ?_
                  refine q_getI E hC322 g0 fa_RX12_114 dX12_next_300 (fun v532 ev532 lv532 uv532 => ?_)
                  have qv532 := e333.symm.trans ev532; subst qv532
                  refine lv_iconst (v := 1) hx hb dX12_next_303 rfl ?_
                  refine lv_iadd hx hb dX12_next_304 (lv_topi (fun v533 ev533 => ?_))
                  have ev533i : v533.toInt = (v34.toInt + 1) := i_add ev533 rfl (by decide) (by omega) (by omega)
                  refine q_put E hC322 hS441 g0 fp_RX12_111 (tv_I ev533i (by omega) (by omega)) rfl rfl dX12_next_305 (fun H534 locs534 hC534 hS534 U534 => ?_)
                  have hKp534 := Kp.upO E g0 fp_RX12_111 rfl U534 hKp322
                  have e535 := up_I U534
                  have m536 : (sI H534 h0 (X.1.2 11 16)).toInt = (v34.toInt + 1) := (congrArg Int32.toInt e535).trans ev533i
                  have tqt : ∀ j, sI H534 tq j = sI H0 tq j := fun j => (up_nI U534 (ne_k gtq g0 (by decide))).trans (tqt j)
                  have m537 : (sI H534 h0 (X.1.2 11 12)).toInt = (sI H322 h0 (X.1.2 11 12)).toInt := congrArg Int32.toInt (up_nI U534 (ne_f E 11 12 16 rfl (by decide) (by decide) (by decide)))
                  have m538 : (sI H534 h0 (X.1.2 11 14)).toInt = (sI H322 h0 (X.1.2 11 14)).toInt := congrArg Int32.toInt (up_nI U534 (ne_f E 11 14 16 rfl (by decide) (by decide) (by decide)))
                  have m539 := congrArg tk m538
                  have m540 : (sI H534 h0 (X.1.2 11 15)).toInt = (sI H322 h0 (X.1.2 11 15)).toInt := congrArg Int32.toInt (up_nI U534 (ne_f E 11 15 16 rfl (by decide) (by decide) (by decide)))
                  have m541 : (sI H534 h0 (X.1.2 11 9)).toInt = (sI H322 h0 (X.1.2 11 9)).toInt := congrArg Int32.toInt (up_nI U534 (ne_f E 11 9 16 rfl (by decide) (by decide) (by decide)))
                  have m542 : (sI H534 h0 (X.1.2 11 17)).toInt = (sI H322 h0 (X.1.2 11 17)).toInt := congrArg Int32.toInt (up_nI U534 (ne_f E 11 17 16 rfl (by decide) (by decide) (by decide)))
                  have m543 : (sI H534 h0 (X.1.2 11 18)).toInt = (sI H322 h0 (X.1.2 11 18)).toInt := congrArg Int32.toInt (up_nI U534 (ne_f E 11 18 16 rfl (by decide) (by decide) (by decide)))
                  refine lv_aload_n hx hb dX12_next_308 rfl (lv_at hl 1 rfl) ?_
                  refine lv_iload_n hx hb dX12_next_309 rfl (lv_at hl 0 rfl) ?_
                  refine q_put E hC534 hS534 g0 fp_RX12_139 tv_F rfl rfl dX12_next_310 (fun H544 locs544 hC544 hS544 U544 => ?_)
                  have hKp544 := Kp.upO E g0 fp_RX12_139 rfl U544 hKp534
                  have e545 := up_I U544
                  have m546 : (sI H544 h0 (X.1.2 11 17)).toInt = v340.toInt := (congrArg Int32.toInt e545).trans rfl
                  have tqt : ∀ j, sI H544 tq j = sI H0 tq j := fun j => (up_nI U544 (ne_k gtq g0 (by decide))).trans (tqt j)
                  have m547 : (sI H544 h0 (X.1.2 11 12)).toInt = (sI H534 h0 (X.1.2 11 12)).toInt := congrArg Int32.toInt (up_nI U544 (ne_f E 11 12 17 rfl (by decide) (by decide) (by decide)))
                  have m548 : (sI H544 h0 (X.1.2 11 14)).toInt = (sI H534 h0 (X.1.2 11 14)).toInt := congrArg Int32.toInt (up_nI U544 (ne_f E 11 14 17 rfl (by decide) (by decide) (by decide)))
                  have m549 := congrArg tk m548
                  have m550 : (sI H544 h0 (X.1.2 11 16)).toInt = (sI H534 h0 (X.1.2 11 16)).toInt := congrArg Int32.toInt (up_nI U544 (ne_f E 11 16 17 rfl (by decide) (by decide) (by decide)))
                  have m551 : (sI H544 h0 (X.1.2 11 15)).toInt = (sI H534 h0 (X.1.2 11 15)).toInt := congrArg Int32.toInt (up_nI U544 (ne_f E 11 15 17 rfl (by decide) (by decide) (by decide)))
                  have m552 : (sI H544 h0 (X.1.2 11 9)).toInt = (sI H534 h0 (X.1.2 11 9)).toInt := congrArg Int32.toInt (up_nI U544 (ne_f E 11 9 17 rfl (by decide) (by decide) (by decide)))
                  have m553 : (sI H544 h0 (X.1.2 11 18)).toInt = (sI H534 h0 (X.1.2 11 18)).toInt := congrArg Int32.toInt (up_nI U544 (ne_f E 11 18 17 rfl (by decide) (by decide) (by decide)))
                  refine lv_aload_n hx hb dX12_next_313 rfl (lv_at hl 1 rfl) ?_
                  refine lv_aload_n hx hb dX12_next_314 rfl (lv_at hl 1 rfl) ?_
                  refine lv_iload_n hx hb dX12_next_315 rfl (lv_at hl 0 rfl) ?_
                  refine q_goIp (q_runV (As := [.int v340]) (rest := [.ref h0]) E hC544 hS544 (m_X12_isSignByte l X Γ H544 hC544 h0 g0 v340 (a1 := v340.toInt) rfl ca gca uc) cw_X12_isSignByte cl_RX12_142 g0 ⟨rfl, rfl⟩ rfl hl.1 rfl (show _ ≤ _ from by simp [Value.category]) (by decide) dX12_next_316) hS544 (fun v554 locs554 hr554 hS554 => ?_)
                  rcases hr554 with ⟨rfl, f554a0, f554a1⟩ | ⟨rfl, f554b⟩
                  · refine q_if_eq hx hb (a := 1) (by decide) (tgt := 326) dX12_next_319 rfl (fun c555 => absurd c555 (by omega)) (fun c555 => ?_)
                    refine lv_iconst (v := 3) hx hb dX12_next_322 rfl ?_
                    refine lv_goto (tgt := 327) hx hb dX12_next_323 rfl ?_
                    refine q_put E hC544 hS554 g0 fp_RX12_120 tv_F rfl rfl dX12_next_327 (fun H556 locs556 hC556 hS556 U556 => ?_)
                    have hKp556 := Kp.upO E g0 fp_RX12_120 rfl U556 hKp544
                    have e557 := up_I U556
                    have m558 : (sI H556 h0 (X.1.2 11 14)).toInt = 3 := (congrArg Int32.toInt e557).trans (show (3 : Int32).toInt = 3 from by decide)
                    have tqt : ∀ j, sI H556 tq j = sI H0 tq j := fun j => (up_nI U556 (ne_k gtq g0 (by decide))).trans (tqt j)
                    have m559 : (sI H556 h0 (X.1.2 11 12)).toInt = (sI H544 h0 (X.1.2 11 12)).toInt := congrArg Int32.toInt (up_nI U556 (ne_f E 11 12 14 rfl (by decide) (by decide) (by decide)))
                    have m560 : (sI H556 h0 (X.1.2 11 16)).toInt = (sI H544 h0 (X.1.2 11 16)).toInt := congrArg Int32.toInt (up_nI U556 (ne_f E 11 16 14 rfl (by decide) (by decide) (by decide)))
                    have m561 : (sI H556 h0 (X.1.2 11 15)).toInt = (sI H544 h0 (X.1.2 11 15)).toInt := congrArg Int32.toInt (up_nI U556 (ne_f E 11 15 14 rfl (by decide) (by decide) (by decide)))
                    have m562 : (sI H556 h0 (X.1.2 11 9)).toInt = (sI H544 h0 (X.1.2 11 9)).toInt := congrArg Int32.toInt (up_nI U556 (ne_f E 11 9 14 rfl (by decide) (by decide) (by decide)))
                    have m563 : (sI H556 h0 (X.1.2 11 17)).toInt = (sI H544 h0 (X.1.2 11 17)).toInt := congrArg Int32.toInt (up_nI U556 (ne_f E 11 17 14 rfl (by decide) (by decide) (by decide)))
                    have m564 : (sI H556 h0 (X.1.2 11 18)).toInt = (sI H544 h0 (X.1.2 11 18)).toInt := congrArg Int32.toInt (up_nI U556 (ne_f E 11 18 14 rfl (by decide) (by decide) (by decide)))
                    have hT : TKM (bf H0 tq) (sI H0 h0 (X.1.2 11 9)).toInt (sI H0 h0 (X.1.2 11 16)).toInt (sI H556 h0 (X.1.2 11 15)).toInt (sI H556 h0 (X.1.2 11 16)).toInt (sI H556 h0 (X.1.2 11 14)).toInt (sI H556 h0 (X.1.2 11 17)).toInt (sI H556 h0 (X.1.2 11 18)).toInt (sJ H556 h0 (X.1.2 11 19)).toInt := by first | exact (TKM.sign (q := sq + 1) (tok := (sI H556 h0 (X.1.2 11 14)).toInt) (num := (sI H556 h0 (X.1.2 11 17)).toInt) hsz (by omega) hnl hnd (by omega) rfl (by omega) (by omega) (by omega) (by omega)).cast (by omega) (by omega) rfl rfl rfl rfl | exact (TKM.bad (q := sq + 1) (tok := (sI H556 h0 (X.1.2 11 14)).toInt) hsz (by omega) hnl hnd (by omega) rfl (by omega) (by omega)).cast (by omega) (by omega) rfl rfl rfl rfl
                    have hz9 := tk_or (sI H556 h0 (X.1.2 11 14)).toInt
                    exact ret H556 locs556 _ _ dX12_next_330 ⟨hKp556, ⟨by omega, by omega, by omega, hT, by omega, fun kd vl w3 pos N i mc h0 => mc.next h0 tqt (by omega) hT⟩⟩ hC556 hS556
                  · refine q_if_eq hx hb (a := 0) (by decide) (tgt := 326) dX12_next_319 rfl (fun c565 => ?_) (fun c565 => absurd c565 (by omega))
                    refine lv_iconst (v := 4) hx hb dX12_next_326 rfl ?_
                    refine q_put E hC544 hS554 g0 fp_RX12_120 tv_F rfl rfl dX12_next_327 (fun H566 locs566 hC566 hS566 U566 => ?_)
                    have hKp566 := Kp.upO E g0 fp_RX12_120 rfl U566 hKp544
                    have e567 := up_I U566
                    have m568 : (sI H566 h0 (X.1.2 11 14)).toInt = 4 := (congrArg Int32.toInt e567).trans (show (4 : Int32).toInt = 4 from by decide)
                    have tqt : ∀ j, sI H566 tq j = sI H0 tq j := fun j => (up_nI U566 (ne_k gtq g0 (by decide))).trans (tqt j)
                    have m569 : (sI H566 h0 (X.1.2 11 12)).toInt = (sI H544 h0 (X.1.2 11 12)).toInt := congrArg Int32.toInt (up_nI U566 (ne_f E 11 12 14 rfl (by decide) (by decide) (by decide)))
                    have m570 : (sI H566 h0 (X.1.2 11 16)).toInt = (sI H544 h0 (X.1.2 11 16)).toInt := congrArg Int32.toInt (up_nI U566 (ne_f E 11 16 14 rfl (by decide) (by decide) (by decide)))
                    have m571 : (sI H566 h0 (X.1.2 11 15)).toInt = (sI H544 h0 (X.1.2 11 15)).toInt := congrArg Int32.toInt (up_nI U566 (ne_f E 11 15 14 rfl (by decide) (by decide) (by decide)))
                    have m572 : (sI H566 h0 (X.1.2 11 9)).toInt = (sI H544 h0 (X.1.2 11 9)).toInt := congrArg Int32.toInt (up_nI U566 (ne_f E 11 9 14 rfl (by decide) (by decide) (by decide)))
                    have m573 : (sI H566 h0 (X.1.2 11 17)).toInt = (sI H544 h0 (X.1.2 11 17)).toInt := congrArg Int32.toInt (up_nI U566 (ne_f E 11 17 14 rfl (by decide) (by decide) (by decide)))
                    have m574 : (sI H566 h0 (X.1.2 11 18)).toInt = (sI H544 h0 (X.1.2 11 18)).toInt := congrArg Int32.toInt (up_nI U566 (ne_f E 11 18 14 rfl (by decide) (by decide) (by decide)))
                    have hT : TKM (bf H0 tq) (sI H0 h0 (X.1.2 11 9)).toInt (sI H0 h0 (X.1.2 11 16)).toInt (sI H566 h0 (X.1.2 11 15)).toInt (sI H566 h0 (X.1.2 11 16)).toInt (sI H566 h0 (X.1.2 11 14)).toInt (sI H566 h0 (X.1.2 11 17)).toInt (sI H566 h0 (X.1.2 11 18)).toInt (sJ H566 h0 (X.1.2 11 19)).toInt := by first | exact (TKM.sign (q := sq + 1) (tok := (sI H566 h0 (X.1.2 11 14)).toInt) (num := (sI H566 h0 (X.1.2 11 17)).toInt) hsz (by omega) hnl hnd (by omega) rfl (by omega) (by omega) (by omega) (by omega)).cast (by omega) (by omega) rfl rfl rfl rfl | exact (TKM.bad (q := sq + 1) (tok := (sI H566 h0 (X.1.2 11 14)).toInt) hsz (by omega) hnl hnd (by omega) rfl (by omega) (by omega)).cast (by omega) (by omega) rfl rfl rfl rfl
                    have hz9 := tk_or (sI H566 h0 (X.1.2 11 14)).toInt
                    exact ret H566 locs566 _ _ dX12_next_330 ⟨hKp566, ⟨by omega, by omega, by omega, hT, by omega, fun kd vl w3 pos N i mc h0 => mc.next h0 tqt (by omega) hT⟩⟩ hC566 hS566
            · refine lv_aload_n hx hb dX12_next_77 rfl (lv_at hl 0 rfl) ?_
              refine lv_iconst (v := 0) hx hb dX12_next_78 rfl ?_
              refine q_put E hC322 hS322 g0 fp_RX12_120 tv_F rfl rfl dX12_next_79 (fun H575 locs575 hC575 hS575 U575 => ?_)
              have hKp575 := Kp.upO E g0 fp_RX12_120 rfl U575 hKp322
              have e576 := up_I U575
              have m577 : (sI H575 h0 (X.1.2 11 14)).toInt = 0 := (congrArg Int32.toInt e576).trans (show (0 : Int32).toInt = 0 from by decide)
              have tqt : ∀ j, sI H575 tq j = sI H0 tq j := fun j => (up_nI U575 (ne_k gtq g0 (by decide))).trans (tqt j)
              have m578 : (sI H575 h0 (X.1.2 11 12)).toInt = (sI H322 h0 (X.1.2 11 12)).toInt := congrArg Int32.toInt (up_nI U575 (ne_f E 11 12 14 rfl (by decide) (by decide) (by decide)))
              have m579 : (sI H575 h0 (X.1.2 11 16)).toInt = (sI H322 h0 (X.1.2 11 16)).toInt := congrArg Int32.toInt (up_nI U575 (ne_f E 11 16 14 rfl (by decide) (by decide) (by decide)))
              have m580 : (sI H575 h0 (X.1.2 11 15)).toInt = (sI H322 h0 (X.1.2 11 15)).toInt := congrArg Int32.toInt (up_nI U575 (ne_f E 11 15 14 rfl (by decide) (by decide) (by decide)))
              have m581 : (sI H575 h0 (X.1.2 11 9)).toInt = (sI H322 h0 (X.1.2 11 9)).toInt := congrArg Int32.toInt (up_nI U575 (ne_f E 11 9 14 rfl (by decide) (by decide) (by decide)))
              have m582 : (sI H575 h0 (X.1.2 11 17)).toInt = (sI H322 h0 (X.1.2 11 17)).toInt := congrArg Int32.toInt (up_nI U575 (ne_f E 11 17 14 rfl (by decide) (by decide) (by decide)))
              have m583 : (sI H575 h0 (X.1.2 11 18)).toInt = (sI H322 h0 (X.1.2 11 18)).toInt := congrArg Int32.toInt (up_nI U575 (ne_f E 11 18 14 rfl (by decide) (by decide) (by decide)))
              have hT : TKM (bf H0 tq) (sI H0 h0 (X.1.2 11 9)).toInt (sI H0 h0 (X.1.2 11 16)).toInt (sI H575 h0 (X.1.2 11 15)).toInt (sI H575 h0 (X.1.2 11 16)).toInt (sI H575 h0 (X.1.2 11 14)).toInt (sI H575 h0 (X.1.2 11 17)).toInt (sI H575 h0 (X.1.2 11 18)).toInt (sJ H575 h0 (X.1.2 11 19)).toInt := (TKM.fin (q := (sI H575 h0 (X.1.2 11 16)).toInt) hsz (by omega) (by omega) (by omega) (by omega) rfl).cast (by omega) rfl (by omega) rfl rfl rfl
              have hz9 := tk_or (sI H575 h0 (X.1.2 11 14)).toInt
              exact ret H575 locs575 _ _ dX12_next_82 ⟨hKp575, ⟨by omega, by omega, by omega, hT, by omega, fun kd vl w3 pos N i mc h0 => mc.next h0 tqt (by omega) hT⟩⟩ hC575 hS575
          · refine lv_aload_n hx hb dX12_next_45 rfl (lv_at hl 0 rfl) ?_
            refine lv_dup hx hb dX12_next_46 rfl ?_
            refine q_getI E hC33 g0 fa_RX12_114 dX12_next_47 (fun v584 ev584 lv584 uv584 => ?_)
            have qv584 := ev34.symm.trans ev584; subst qv584
            refine lv_iconst (v := 1) hx hb dX12_next_50 rfl ?_
            refine lv_iadd hx hb dX12_next_51 (lv_topi (fun v585 ev585 => ?_))
            have ev585i : v585.toInt = (v34.toInt + 1) := i_add ev585 rfl (by decide) (by omega) (by omega)
            refine q_put E hC33 hS319 g0 fp_RX12_114 (tv_I ev585i (by omega) (by omega)) rfl rfl dX12_next_52 (fun H586 locs586 hC586 hS586 U586 => ?_)
            have hKp586 := Kp.upO E g0 fp_RX12_114 rfl U586 hKp33
            have e587 := up_I U586
            have m588 : (sI H586 h0 (X.1.2 11 15)).toInt = (v34.toInt + 1) := (congrArg Int32.toInt e587).trans ev585i
            have tqt : ∀ j, sI H586 tq j = sI H0 tq j := fun j => (up_nI U586 (ne_k gtq g0 (by decide))).trans (tqt j)
            have m589 : (sI H586 h0 (X.1.2 11 12)).toInt = (sI H33 h0 (X.1.2 11 12)).toInt := congrArg Int32.toInt (up_nI U586 (ne_f E 11 12 15 rfl (by decide) (by decide) (by decide)))
            have m590 : (sI H586 h0 (X.1.2 11 14)).toInt = (sI H33 h0 (X.1.2 11 14)).toInt := congrArg Int32.toInt (up_nI U586 (ne_f E 11 14 15 rfl (by decide) (by decide) (by decide)))
            have m591 := congrArg tk m590
            have m592 : (sI H586 h0 (X.1.2 11 16)).toInt = (sI H33 h0 (X.1.2 11 16)).toInt := congrArg Int32.toInt (up_nI U586 (ne_f E 11 16 15 rfl (by decide) (by decide) (by decide)))
            have m593 : (sI H586 h0 (X.1.2 11 9)).toInt = (sI H33 h0 (X.1.2 11 9)).toInt := congrArg Int32.toInt (up_nI U586 (ne_f E 11 9 15 rfl (by decide) (by decide) (by decide)))
            have m594 : (sI H586 h0 (X.1.2 11 17)).toInt = (sI H33 h0 (X.1.2 11 17)).toInt := congrArg Int32.toInt (up_nI U586 (ne_f E 11 17 15 rfl (by decide) (by decide) (by decide)))
            have m595 : (sI H586 h0 (X.1.2 11 18)).toInt = (sI H33 h0 (X.1.2 11 18)).toInt := congrArg Int32.toInt (up_nI U586 (ne_f E 11 18 15 rfl (by decide) (by decide) (by decide)))
            refine lv_goto (tgt := 8) hx hb dX12_next_55 rfl ?_
            have m1_at : (sI H33 h0 (X.1.2 11 15)).toInt = v34.toInt := (congrArg Int32.toInt ev34).trans rfl
            have m2_at : (sI H586 h0 (X.1.2 11 15)).toInt = (v34.toInt + 1) := (congrArg Int32.toInt e587).trans ev585i
            have m1_textEnd : (sI H33 h0 (X.1.2 11 9)).toInt = v36.toInt := (congrArg Int32.toInt ev36).trans rfl
            have e596 := (up_nI U586 (ne_f E 11 9 15 rfl (by decide) (by decide) (by decide))).trans ev36
            have m2_textEnd : (sI H586 h0 (X.1.2 11 9)).toInt = v36.toInt := (congrArg Int32.toInt e596).trans rfl
            exact ih33 H586 locs586 ls (by omega) (by omega) (by omega) (by omega) (by omega) (SpP.cast (hst (by unfold isBl; omega)) (by omega)) hC586 hS586 hKp586 tqt hl
  exact L8 _ H23 locs23 ls (Nat.lt_succ_self _) (by omega) (by omega) (by omega) (by omega) (SpP.cast SpP.nil (by omega)) hC23 hS23 hKp23 tqt hl
