set_option maxRecDepth 100000 in
set_option maxHeartbeats 4000000 in
theorem m_X12_status (l : Launch) (X : xW) (Γ : Nat → Option Nat) (H0 : Heap) (hC0 : Conf X Γ H0) (h0 : Nat) (g0 : Γ h0 = some 11) (ca : Nat) (gca : Γ ca = some 64) (uc : ∀ a, Γ a = some 64 → a = ca) : Ctr l X Γ yX12_status cX12_status 1 (some .int) 0 [.ref h0] H0 (QI X Γ (fun v H1 => Kp X Γ [1, 6, 7, 8, 9, 10, 11, 12, 14, 15, 16, 17] H0 H1 ∧ (True))) := by
  refine q_enterI (own := "SnowFortsModel") (by decide) rfl (Nat.le_of_ble_eq_true rfl) ?_
  intro p e s m args below meth c ls Qz E hl ret hS0
  have hx := E.1; have hb := E.2.1
  have hKp0 : Kp X Γ [1, 6, 7, 8, 9, 10, 11, 12, 14, 15, 16, 17] H0 H0 := Kp.rf
  have hl : lv_has ls 1 [(0, .ref h0)] := hl
  refine lv_aload_n hx hb dX12_status_0 rfl (lv_at hl 0 rfl) ?_
  refine lv_iconst (v := 0) hx hb dX12_status_1 rfl ?_
  refine q_put E hC0 hS0 g0 fp_RX12_69 tv_F rfl rfl dX12_status_2 (fun H21 locs21 hC21 hS21 U21 => ?_)
  have hKp21 := Kp.upO E g0 fp_RX12_69 rfl U21 hKp0
  have e22 := up_I U21
  refine lv_aload_n hx hb dX12_status_5 rfl (lv_at hl 0 rfl) ?_
  refine q_getI E hC21 g0 fa_RX12_72 dX12_status_6 (fun v23 ev23 _ _ => ?_)
  exact ret v23 H21 locs21 _ _ dX12_status_9 ⟨hKp21, trivial⟩ hC21 hS21
set_option maxRecDepth 100000 in
set_option maxHeartbeats 4000000 in
theorem m_X12_top (l : Launch) (X : xW) (Γ : Nat → Option Nat) (H0 : Heap) (hC0 : Conf X Γ H0) (h0 : Nat) (g0 : Γ h0 = some 11) (ca : Nat) (gca : Γ ca = some 64) (uc : ∀ a, Γ a = some 64 → a = ca) : Ctr l X Γ yX12_top cX12_top 1 (some .long) 0 [.ref h0] H0 (QJ X Γ (fun v H1 => Kp X Γ [1, 6, 7, 8, 9, 10, 11, 12, 14, 15, 16, 17] H0 H1 ∧ (True))) := by
  refine q_enterJ (own := "SnowFortsModel") (by decide) rfl (Nat.le_of_ble_eq_true rfl) ?_
  intro p e s m args below meth c ls Qz E hl ret hS0
  have hx := E.1; have hb := E.2.1
  have hKp0 : Kp X Γ [1, 6, 7, 8, 9, 10, 11, 12, 14, 15, 16, 17] H0 H0 := Kp.rf
  have hl : lv_has ls 1 [(0, .ref h0)] := hl
  refine lv_aload_n hx hb dX12_top_0 rfl (lv_at hl 0 rfl) ?_
  refine lv_iconst (v := 0) hx hb dX12_top_1 rfl ?_
  refine q_put E hC0 hS0 g0 fp_RX12_69 tv_F rfl rfl dX12_top_2 (fun H21 locs21 hC21 hS21 U21 => ?_)
  have hKp21 := Kp.upO E g0 fp_RX12_69 rfl U21 hKp0
  have e22 := up_I U21
  refine lv_aload_n hx hb dX12_top_5 rfl (lv_at hl 0 rfl) ?_
  refine q_getJ E hC21 g0 fa_RX12_75 dX12_top_6 (fun v23 ev23 => ?_)
  exact ret v23 H21 locs21 _ _ dX12_top_9 ⟨hKp21, trivial⟩ hC21 hS21
set_option maxRecDepth 100000 in
set_option maxHeartbeats 4000000 in
theorem m_X12_bottom (l : Launch) (X : xW) (Γ : Nat → Option Nat) (H0 : Heap) (hC0 : Conf X Γ H0) (h0 : Nat) (g0 : Γ h0 = some 11) (ca : Nat) (gca : Γ ca = some 64) (uc : ∀ a, Γ a = some 64 → a = ca) : Ctr l X Γ yX12_bottom cX12_bottom 1 (some .long) 0 [.ref h0] H0 (QJ X Γ (fun v H1 => Kp X Γ [1, 6, 7, 8, 9, 10, 11, 12, 14, 15, 16, 17] H0 H1 ∧ (True))) := by
  refine q_enterJ (own := "SnowFortsModel") (by decide) rfl (Nat.le_of_ble_eq_true rfl) ?_
  intro p e s m args below meth c ls Qz E hl ret hS0
  have hx := E.1; have hb := E.2.1
  have hKp0 : Kp X Γ [1, 6, 7, 8, 9, 10, 11, 12, 14, 15, 16, 17] H0 H0 := Kp.rf
  have hl : lv_has ls 1 [(0, .ref h0)] := hl
  refine lv_aload_n hx hb dX12_bottom_0 rfl (lv_at hl 0 rfl) ?_
  refine lv_iconst (v := 0) hx hb dX12_bottom_1 rfl ?_
  refine q_put E hC0 hS0 g0 fp_RX12_69 tv_F rfl rfl dX12_bottom_2 (fun H21 locs21 hC21 hS21 U21 => ?_)
  have hKp21 := Kp.upO E g0 fp_RX12_69 rfl U21 hKp0
  have e22 := up_I U21
  refine lv_aload_n hx hb dX12_bottom_5 rfl (lv_at hl 0 rfl) ?_
  refine q_getJ E hC21 g0 fa_RX12_7 dX12_bottom_6 (fun v23 ev23 => ?_)
  exact ret v23 H21 locs21 _ _ dX12_bottom_9 ⟨hKp21, trivial⟩ hC21 hS21
set_option maxRecDepth 100000 in
set_option maxHeartbeats 4000000 in
theorem m_X12_no (l : Launch) (X : xW) (Γ : Nat → Option Nat) (H0 : Heap) (hC0 : Conf X Γ H0) (h0 : Nat) (g0 : Γ h0 = some 11) (p1 : Int32) {a1 : Int} (e1 : p1.toInt = a1) (ca : Nat) (gca : Γ ca = some 64) (uc : ∀ a, Γ a = some 64 → a = ca) : Ctr l X Γ yX12_no cX12_no 2 (some .boolean) 0 [.ref h0, .int p1] H0 (QI X Γ (fun v H1 => Kp X Γ [1, 6, 7, 8, 9, 10, 11, 12, 14, 15, 16, 17] H0 H1 ∧ ((v = 1 ∧ ((0 : Int) = 1)) ∨ (v = 0 ∧ (True))))) := by
  refine q_enterZ (own := "SnowFortsModel") (by decide) rfl (Nat.le_of_ble_eq_true rfl) ?_
  intro p e s m args below meth c ls Qz E hl ret hS0
  have hx := E.1; have hb := E.2.1
  have hKp0 : Kp X Γ [1, 6, 7, 8, 9, 10, 11, 12, 14, 15, 16, 17] H0 H0 := Kp.rf
  have hl : lv_has ls 2 [(0, .ref h0), (1, .int p1)] := hl
  refine lv_aload_n hx hb dX12_no_0 rfl (lv_at hl 0 rfl) ?_
  refine lv_iload_n hx hb dX12_no_1 rfl (lv_at hl 1 rfl) ?_
  refine q_put E hC0 hS0 g0 fp_RX12_72 tv_F rfl rfl dX12_no_2 (fun H21 locs21 hC21 hS21 U21 => ?_)
  have hKp21 := Kp.upO E g0 fp_RX12_72 rfl U21 hKp0
  have e22 := up_I U21
  refine lv_iconst (v := 0) hx hb dX12_no_5 rfl ?_
  exact ret 0 H21 locs21 _ _ dX12_no_6 (Or.inl rfl) ⟨hKp21, Or.inr ⟨rfl, trivial⟩⟩ hC21 hS21
set_option maxRecDepth 100000 in
set_option maxHeartbeats 4000000 in
theorem m_X12_tray (l : Launch) (X : xW) (Γ : Nat → Option Nat) (H0 : Heap) (hC0 : Conf X Γ H0) (h0 : Nat) (g0 : Γ h0 = some 11) (p1 : Int32) {a1 : Int} (e1 : p1.toInt = a1) (p2 : Int32) {a2 : Int} (e2 : p2.toInt = a2) (p3 : Int32) {a3 : Int} (e3 : p3.toInt = a3) (ca : Nat) (gca : Γ ca = some 64) (uc : ∀ a, Γ a = some 64 → a = ca) : Ctr l X Γ yX12_tray cX12_tray 5 (some .boolean) 1 [.ref h0, .int p1, .int p2, .int p3] H0 (QI X Γ (fun v H1 => Kp X Γ [1, 7, 8, 9, 10, 11, 12, 14, 15, 16, 17] H0 H1 ∧ ((v = 1 ∧ (0 ≤ a1 ∧ a1 ≤ 3 ∧ 0 ≤ a2 ∧ a2 ≤ 3 ∧ 0 ≤ a3 ∧ a3 ≤ 60)) ∨ (v = 0 ∧ (a1 < 0 ∨ 3 < a1 ∨ a2 < 0 ∨ 3 < a2 ∨ a3 < 0 ∨ 60 < a3))))) := by
  refine q_enterZ (own := "SnowFortsModel") (by decide) rfl (Nat.le_of_ble_eq_true rfl) ?_
  intro p e s m args below meth c ls Qz E hl ret hS0
  have hx := E.1; have hb := E.2.1
  have hKp0 : Kp X Γ [1, 7, 8, 9, 10, 11, 12, 14, 15, 16, 17] H0 H0 := Kp.rf
  have hl : lv_has ls 5 [(0, .ref h0), (1, .int p1), (2, .int p2), (3, .int p3)] := hl
  refine lv_aload_n hx hb dX12_tray_0 rfl (lv_at hl 0 rfl) ?_
  refine lv_iconst (v := 0) hx hb dX12_tray_1 rfl ?_
  refine q_put E hC0 hS0 g0 fp_RX12_69 tv_F rfl rfl dX12_tray_2 (fun H21 locs21 hC21 hS21 U21 => ?_)
  have hKp21 := Kp.upO E g0 fp_RX12_69 rfl U21 hKp0
  have e22 := up_I U21
  refine lv_aload_n hx hb dX12_tray_5 rfl (lv_at hl 0 rfl) ?_
  refine lv_iconst (v := 0) hx hb dX12_tray_6 rfl ?_
  refine q_put E hC21 hS21 g0 fp_RX12_72 tv_F rfl rfl dX12_tray_7 (fun H23 locs23 hC23 hS23 U23 => ?_)
  have hKp23 := Kp.upO E g0 fp_RX12_72 rfl U23 hKp21
  have e24 := up_I U23
  refine lv_iload_n hx hb dX12_tray_10 rfl (lv_at hl 1 rfl) ?_
  refine q_if_lt hx hb (a := a1) e1 (tgt := 28) dX12_tray_11 rfl (fun c25 => ?_) (fun c25 => ?_)
  · refine lv_aload_n hx hb dX12_tray_28 rfl (lv_at hl 0 rfl) ?_
    refine lv_iconst (v := 1) hx hb dX12_tray_29 rfl ?_
    refine q_goI (q_runV (As := [.int 1]) (rest := []) E hC23 hS23 (m_X12_no l X Γ H23 hC23 h0 g0 1 (a1 := 1) (by decide) ca gca uc) cw_X12_no cl_RX12_84 g0 ⟨rfl, rfl⟩ rfl hl.1 rfl (Nat.zero_le _) (by decide) dX12_tray_30) hS23 (fun v26 H26 locs26 hr26 hC26 hS26 => ?_)
    obtain ⟨hp26, hr26⟩ := hr26
    have hKp26 := hKp23.tr (hp26.mono rfl)
    rcases hr26 with ⟨rfl, f26a⟩ | ⟨rfl, -⟩
    · exact absurd f26a (by decide)
    · exact ret 0 H26 locs26 _ _ dX12_tray_33 (Or.inl rfl) ⟨hKp26, Or.inr ⟨rfl, by omega⟩⟩ hC26 hS26
  · refine lv_iload_n hx hb dX12_tray_14 rfl (lv_at hl 1 rfl) ?_
    refine lv_iconst (v := 4) hx hb dX12_tray_15 rfl ?_
    refine q_icmp_ge hx hb (a := a1) (b := 4) e1 (by decide) (tgt := 28) dX12_tray_16 rfl (fun c27 => ?_) (fun c27 => ?_)
    · refine lv_aload_n hx hb dX12_tray_28 rfl (lv_at hl 0 rfl) ?_
      refine lv_iconst (v := 1) hx hb dX12_tray_29 rfl ?_
      refine q_goI (q_runV (As := [.int 1]) (rest := []) E hC23 hS23 (m_X12_no l X Γ H23 hC23 h0 g0 1 (a1 := 1) (by decide) ca gca uc) cw_X12_no cl_RX12_84 g0 ⟨rfl, rfl⟩ rfl hl.1 rfl (Nat.zero_le _) (by decide) dX12_tray_30) hS23 (fun v28 H28 locs28 hr28 hC28 hS28 => ?_)
      obtain ⟨hp28, hr28⟩ := hr28
      have hKp28 := hKp23.tr (hp28.mono rfl)
      rcases hr28 with ⟨rfl, f28a⟩ | ⟨rfl, -⟩
      · exact absurd f28a (by decide)
      · exact ret 0 H28 locs28 _ _ dX12_tray_33 (Or.inl rfl) ⟨hKp28, Or.inr ⟨rfl, by omega⟩⟩ hC28 hS28
    · refine lv_iload_n hx hb dX12_tray_19 rfl (lv_at hl 2 rfl) ?_
      refine q_if_lt hx hb (a := a2) e2 (tgt := 28) dX12_tray_20 rfl (fun c29 => ?_) (fun c29 => ?_)
      · refine lv_aload_n hx hb dX12_tray_28 rfl (lv_at hl 0 rfl) ?_
        refine lv_iconst (v := 1) hx hb dX12_tray_29 rfl ?_
        refine q_goI (q_runV (As := [.int 1]) (rest := []) E hC23 hS23 (m_X12_no l X Γ H23 hC23 h0 g0 1 (a1 := 1) (by decide) ca gca uc) cw_X12_no cl_RX12_84 g0 ⟨rfl, rfl⟩ rfl hl.1 rfl (Nat.zero_le _) (by decide) dX12_tray_30) hS23 (fun v30 H30 locs30 hr30 hC30 hS30 => ?_)
        obtain ⟨hp30, hr30⟩ := hr30
        have hKp30 := hKp23.tr (hp30.mono rfl)
        rcases hr30 with ⟨rfl, f30a⟩ | ⟨rfl, -⟩
        · exact absurd f30a (by decide)
        · exact ret 0 H30 locs30 _ _ dX12_tray_33 (Or.inl rfl) ⟨hKp30, Or.inr ⟨rfl, by omega⟩⟩ hC30 hS30
      · refine lv_iload_n hx hb dX12_tray_23 rfl (lv_at hl 2 rfl) ?_
        refine lv_iconst (v := 3) hx hb dX12_tray_24 rfl ?_
        refine q_icmp_le hx hb (a := a2) (b := 3) e2 (by decide) (tgt := 34) dX12_tray_25 rfl (fun c31 => ?_) (fun c31 => ?_)
        · refine lv_iload_n hx hb dX12_tray_34 rfl (lv_at hl 3 rfl) ?_
          refine lv_bipush (v := 60) hx hb dX12_tray_35 rfl ?_
          refine q_icmp_le hx hb (a := a3) (b := 60) e3 (by decide) (tgt := 46) dX12_tray_37 rfl (fun c32 => ?_) (fun c32 => ?_)
          · refine lv_iload_n hx hb dX12_tray_46 rfl (lv_at hl 3 rfl) ?_
            refine q_if_ge hx hb (a := a3) e3 (tgt := 57) dX12_tray_47 rfl (fun c33 => ?_) (fun c33 => ?_)
            · refine lv_aload_n hx hb dX12_tray_57 rfl (lv_at hl 0 rfl) ?_
              refine q_getR E hC23 g0 fa_RX12_13 dX12_tray_58 (fun q34 eq34 gq34 => ?_)
              refine lv_iload_n hx hb dX12_tray_61 rfl (lv_at hl 1 rfl) ?_
              refine lv_iload_n hx hb dX12_tray_62 rfl (lv_at hl 2 rfl) ?_
              refine q_iast E hC23 hS23 gq34 (by decide) rfl rfl (i_in (a := a1) e1 (by omega) (by omega)) tv_F dX12_tray_63 (fun H35 locs35 hC35 hS35 U35 => ?_)
              have hKp35 := Kp.upA gq34 rfl (by decide) rfl U35 hKp23
              refine lv_aload_n hx hb dX12_tray_64 rfl (lv_at hl 0 rfl) ?_
              refine q_getR E hC35 g0 fa_RX12_17 dX12_tray_65 (fun q36 eq36 gq36 => ?_)
              refine lv_iload_n hx hb dX12_tray_68 rfl (lv_at hl 1 rfl) ?_
              refine lv_iload_n hx hb dX12_tray_69 rfl (lv_at hl 3 rfl) ?_
              refine q_iast E hC35 hS35 gq36 (by decide) rfl rfl (i_in (a := a1) e1 (by omega) (by omega)) (tv_I e3 (by omega) (by omega)) dX12_tray_70 (fun H37 locs37 hC37 hS37 U37 => ?_)
              have hKp37 := Kp.upA gq36 rfl (by decide) rfl U37 hKp35
              refine lv_iconst (v := 0) hx hb dX12_tray_71 rfl ?_
              refine lv_istore hx hb dX12_tray_72 hl (by decide) rfl (fun ls hl => ?_)
              have hl : lv_has ls 5 [(4, .int 0), (0, .ref h0), (1, .int p1), (2, .int p2), (3, .int p3)] := hl
              have L74 : ∀ (n39 : Nat) (H39 : Heap) (locs39 : List Loc) (v38 : Int32) (z38 : Int) (ls : Array Slot), (a3 - z38).toNat < n39 → v38.toInt = z38 → 0 ≤ z38 → Conf X Γ H39 → va_S (AΓ Γ) H0 H39 locs39 → Kp X Γ [1, 7, 8, 9, 10, 11, 12, 14, 15, 16, 17] H0 H39 → lv_has ls 5 [(4, .int v38), (0, .ref h0), (1, .int p1), (2, .int p2), (3, .int p3)] → W p l e (rmL 1) s m args below meth c H39 locs39 0 0 Qz (F0 m 74 ls []) := by
                intro n39
                induction n39 with
                | zero => intro H39 locs39 v38 z38 ls hm39 ev38 iv39_0 hC39 hS39 hKp39 hl; exact absurd hm39 (Nat.not_lt_zero _)
                | succ n39 ih39 =>
                  intro H39 locs39 v38 z38 ls hm39 ev38 iv39_0 hC39 hS39 hKp39 hl
                  refine lv_iload hx hb dX12_tray_74 (lv_at hl 0 rfl) ?_
                  refine lv_iload_n hx hb dX12_tray_76 rfl (lv_at hl 4 rfl) ?_
                  refine q_icmp_ge hx hb (a := z38) (b := a3) ev38 e3 (tgt := 99) dX12_tray_77 rfl (fun c40 => ?_) (fun c40 => ?_)
                  · refine lv_iconst (v := 1) hx hb dX12_tray_99 rfl ?_
                    exact ret 1 H39 locs39 _ _ dX12_tray_100 (Or.inr rfl) ⟨hKp39, Or.inl ⟨rfl, by omega, by omega, by omega, by omega, by omega, by omega⟩⟩ hC39 hS39
                  · refine lv_aload_n hx hb dX12_tray_80 rfl (lv_at hl 1 rfl) ?_
                    refine q_getR E hC39 g0 fa_RX12_20 dX12_tray_81 (fun q41 eq41 gq41 => ?_)
                    refine lv_bipush (v := 60) hx hb dX12_tray_84 rfl ?_
                    refine lv_iload_n hx hb dX12_tray_86 rfl (lv_at hl 2 rfl) ?_
                    refine lv_imul hx hb dX12_tray_87 (lv_topi (fun v42 ev42 => ?_))
                    have ev42i : v42.toInt = (60 * a1) := i_mul ev42 (by decide) e1 (by omega) (by omega)
                    refine lv_iload hx hb dX12_tray_88 (lv_at hl 0 rfl) ?_
                    refine lv_iadd hx hb dX12_tray_90 (lv_topi (fun v43 ev43 => ?_))
                    have ev43i : v43.toInt = ((60 * a1) + z38) := i_add ev43 ev42i ev38 (by omega) (by omega)
                    refine lv_lconst (v := 0) hx hb dX12_tray_91 rfl ?_
                    refine q_last E hC39 hS39 gq41 (by decide) rfl rfl (fun _ => rfl) (i_in (a := ((60 * a1) + z38)) ev43i (by omega) (by omega)) dX12_tray_92 (fun H44 locs44 hC44 hS44 U44 => ?_)
                    have hKp44 := Kp.upA gq41 rfl (by decide) rfl U44 hKp39
                    obtain ⟨v45, ev45⟩ : ∃ z, z = v38 + Int32.ofInt 1 := ⟨_, rfl⟩
                    have ev45i : v45.toInt = (z38 + 1) := i_add ev45 ev38 (by decide) (by omega) (by omega)
                    refine lv_iinc hx hb dX12_tray_93 hl (k := 0) rfl ev45.symm (by decide) rfl (fun ls hl => ?_)
                    have hl : lv_has ls 5 [(4, .int v45), (0, .ref h0), (1, .int p1), (2, .int p2), (3, .int p3)] := hl
                    refine lv_goto (tgt := 74) hx hb dX12_tray_96 rfl ?_
                    exact ih39 H44 locs44 v45 ((z38 + 1)) ls (by omega) ev45i (by omega) hC44 hS44 hKp44 hl
              exact L74 _ H37 locs37 0 0 ls (Nat.lt_succ_self _) (by decide) (by omega) hC37 hS37 hKp37 hl
            · refine lv_aload_n hx hb dX12_tray_50 rfl (lv_at hl 0 rfl) ?_
              refine lv_bipush (v := 6) hx hb dX12_tray_51 rfl ?_
              refine q_goI (q_runV (As := [.int 6]) (rest := []) E hC23 hS23 (m_X12_no l X Γ H23 hC23 h0 g0 6 (a1 := 6) (by decide) ca gca uc) cw_X12_no cl_RX12_84 g0 ⟨rfl, rfl⟩ rfl hl.1 rfl (Nat.zero_le _) (by decide) dX12_tray_53) hS23 (fun v46 H46 locs46 hr46 hC46 hS46 => ?_)
              obtain ⟨hp46, hr46⟩ := hr46
              have hKp46 := hKp23.tr (hp46.mono rfl)
              rcases hr46 with ⟨rfl, f46a⟩ | ⟨rfl, -⟩
              · exact absurd f46a (by decide)
              · exact ret 0 H46 locs46 _ _ dX12_tray_56 (Or.inl rfl) ⟨hKp46, Or.inr ⟨rfl, by omega⟩⟩ hC46 hS46
          · refine lv_aload_n hx hb dX12_tray_40 rfl (lv_at hl 0 rfl) ?_
            refine lv_iconst (v := 5) hx hb dX12_tray_41 rfl ?_
            refine q_goI (q_runV (As := [.int 5]) (rest := []) E hC23 hS23 (m_X12_no l X Γ H23 hC23 h0 g0 5 (a1 := 5) (by decide) ca gca uc) cw_X12_no cl_RX12_84 g0 ⟨rfl, rfl⟩ rfl hl.1 rfl (Nat.zero_le _) (by decide) dX12_tray_42) hS23 (fun v47 H47 locs47 hr47 hC47 hS47 => ?_)
            obtain ⟨hp47, hr47⟩ := hr47
            have hKp47 := hKp23.tr (hp47.mono rfl)
            rcases hr47 with ⟨rfl, f47a⟩ | ⟨rfl, -⟩
            · exact absurd f47a (by decide)
            · exact ret 0 H47 locs47 _ _ dX12_tray_45 (Or.inl rfl) ⟨hKp47, Or.inr ⟨rfl, by omega⟩⟩ hC47 hS47
        · refine lv_aload_n hx hb dX12_tray_28 rfl (lv_at hl 0 rfl) ?_
          refine lv_iconst (v := 1) hx hb dX12_tray_29 rfl ?_
          refine q_goI (q_runV (As := [.int 1]) (rest := []) E hC23 hS23 (m_X12_no l X Γ H23 hC23 h0 g0 1 (a1 := 1) (by decide) ca gca uc) cw_X12_no cl_RX12_84 g0 ⟨rfl, rfl⟩ rfl hl.1 rfl (Nat.zero_le _) (by decide) dX12_tray_30) hS23 (fun v48 H48 locs48 hr48 hC48 hS48 => ?_)
          obtain ⟨hp48, hr48⟩ := hr48
          have hKp48 := hKp23.tr (hp48.mono rfl)
          rcases hr48 with ⟨rfl, f48a⟩ | ⟨rfl, -⟩
          · exact absurd f48a (by decide)
          · exact ret 0 H48 locs48 _ _ dX12_tray_33 (Or.inl rfl) ⟨hKp48, Or.inr ⟨rfl, by omega⟩⟩ hC48 hS48
set_option maxRecDepth 100000 in
set_option maxHeartbeats 4000000 in
theorem m_X12_trayed (l : Launch) (X : xW) (Γ : Nat → Option Nat) (H0 : Heap) (hC0 : Conf X Γ H0) (h0 : Nat) (g0 : Γ h0 = some 11) (p1 : Int32) {a1 : Int} (e1 : p1.toInt = a1) (ca : Nat) (gca : Γ ca = some 64) (uc : ∀ a, Γ a = some 64 → a = ca) : Ctr l X Γ yX12_trayed cX12_trayed 2 (some .int) 0 [.ref h0, .int p1] H0 (QI X Γ (fun v H1 => H1 = H0 ∧ ((0 ≤ v.toInt) ∧ (0 < v.toInt ∨ (0 ≤ a1 ∧ a1 ≤ 3))))) := by
  refine q_enterI (own := "SnowFortsModel") (by decide) rfl (Nat.le_of_ble_eq_true rfl) ?_
  intro p e s m args below meth c ls Qz E hl ret hS0
  have hx := E.1; have hb := E.2.1
  have hl : lv_has ls 2 [(0, .ref h0), (1, .int p1)] := hl
  refine lv_iload_n hx hb dX12_trayed_0 rfl (lv_at hl 1 rfl) ?_
  refine q_if_lt hx hb (a := a1) e1 (tgt := 9) dX12_trayed_1 rfl (fun c21 => ?_) (fun c21 => ?_)
  · refine lv_iconst (v := 1) hx hb dX12_trayed_9 rfl ?_
    refine lv_goto (tgt := 27) hx hb dX12_trayed_10 rfl ?_
    have c22 : (1 : Int32).toInt = 1 := (by decide)
    exact ret 1 H0 [] _ _ dX12_trayed_27 ⟨rfl, ⟨by omega, by omega⟩⟩ hC0 hS0
  · refine lv_iload_n hx hb dX12_trayed_4 rfl (lv_at hl 1 rfl) ?_
    refine lv_iconst (v := 4) hx hb dX12_trayed_5 rfl ?_
    refine q_icmp_lt hx hb (a := a1) (b := 4) e1 (by decide) (tgt := 13) dX12_trayed_6 rfl (fun c23 => ?_) (fun c23 => ?_)
    · refine lv_aload_n hx hb dX12_trayed_13 rfl (lv_at hl 0 rfl) ?_
      refine q_getR E hC0 g0 fa_RX12_17 dX12_trayed_14 (fun q24 eq24 gq24 => ?_)
      refine lv_iload_n hx hb dX12_trayed_17 rfl (lv_at hl 1 rfl) ?_
      refine q_iald E hC0 gq24 rfl rfl (fun _ h => h) (i_in (a := a1) e1 (by omega) (by omega)) dX12_trayed_18 (fun v25 ev25 lv25 uv25 => ?_)
      refine q_if_ge hx hb (a := v25.toInt) rfl (tgt := 26) dX12_trayed_19 rfl (fun c26 => ?_) (fun c26 => ?_)
      · refine lv_iconst (v := 0) hx hb dX12_trayed_26 rfl ?_
        have c27 : (0 : Int32).toInt = 0 := (by decide)
        exact ret 0 H0 [] _ _ dX12_trayed_27 ⟨rfl, ⟨by omega, by omega⟩⟩ hC0 hS0
      · refine lv_iconst (v := 3) hx hb dX12_trayed_22 rfl ?_
        refine lv_goto (tgt := 27) hx hb dX12_trayed_23 rfl ?_
        have c28 : (3 : Int32).toInt = 3 := (by decide)
        exact ret 3 H0 [] _ _ dX12_trayed_27 ⟨rfl, ⟨by omega, by omega⟩⟩ hC0 hS0
    · refine lv_iconst (v := 1) hx hb dX12_trayed_9 rfl ?_
      refine lv_goto (tgt := 27) hx hb dX12_trayed_10 rfl ?_
      have c29 : (1 : Int32).toInt = 1 := (by decide)
      exact ret 1 H0 [] _ _ dX12_trayed_27 ⟨rfl, ⟨by omega, by omega⟩⟩ hC0 hS0
set_option maxRecDepth 100000 in
set_option maxHeartbeats 4000000 in
theorem m_X12_placed (l : Launch) (X : xW) (Γ : Nat → Option Nat) (H0 : Heap) (hC0 : Conf X Γ H0) (h0 : Nat) (g0 : Γ h0 = some 11) (p1 : Int32) {a1 : Int} (e1 : p1.toInt = a1) (p2 : Int32) {a2 : Int} (e2 : p2.toInt = a2) (ca : Nat) (gca : Γ ca = some 64) (uc : ∀ a, Γ a = some 64 → a = ca) : Ctr l X Γ yX12_placed cX12_placed 4 (some .int) 1 [.ref h0, .int p1, .int p2] H0 (QI X Γ (fun v H1 => H1 = H0 ∧ ((0 ≤ v.toInt) ∧ (0 < v.toInt ∨ (0 ≤ a1 ∧ a1 ≤ 3 ∧ 0 ≤ a2 ∧ a2 ≤ 59))))) := by
  refine q_enterI (own := "SnowFortsModel") (by decide) rfl (Nat.le_of_ble_eq_true rfl) ?_
  intro p e s m args below meth c ls Qz E hl ret hS0
  have hx := E.1; have hb := E.2.1
  have hl : lv_has ls 4 [(0, .ref h0), (1, .int p1), (2, .int p2)] := hl
  refine lv_aload_n hx hb dX12_placed_0 rfl (lv_at hl 0 rfl) ?_
  refine lv_iload_n hx hb dX12_placed_1 rfl (lv_at hl 1 rfl) ?_
  refine q_goIp (q_runV (As := [.int p1]) (rest := []) E hC0 hS0 (m_X12_trayed l X Γ H0 hC0 h0 g0 p1 (a1 := a1) e1 ca gca uc) cw_X12_trayed cl_RX12_88 g0 ⟨rfl, rfl⟩ rfl hl.1 rfl (Nat.zero_le _) (by decide) dX12_placed_2) hS0 (fun v21 locs21 hr21 hS21 => ?_)
  obtain ⟨f21_0, f21_1⟩ := hr21
  refine lv_istore_n hx hb dX12_placed_5 rfl hl (by decide) rfl (fun ls hl => ?_)
  have hl : lv_has ls 4 [(3, .int v21), (0, .ref h0), (1, .int p1), (2, .int p2)] := hl
  refine lv_iload_n hx hb dX12_placed_6 rfl (lv_at hl 0 rfl) ?_
  refine q_if_le hx hb (a := v21.toInt) rfl (tgt := 14) dX12_placed_7 rfl (fun c22 => ?_) (fun c22 => ?_)
  · refine lv_iload_n hx hb dX12_placed_14 rfl (lv_at hl 3 rfl) ?_
    refine q_if_lt hx hb (a := a2) e2 (tgt := 28) dX12_placed_15 rfl (fun c23 => ?_) (fun c23 => ?_)
    · refine lv_iconst (v := 4) hx hb dX12_placed_28 rfl ?_
      refine lv_goto (tgt := 33) hx hb dX12_placed_29 rfl ?_
      have c24 : (4 : Int32).toInt = 4 := (by decide)
      exact ret 4 H0 locs21 _ _ dX12_placed_33 ⟨rfl, ⟨by omega, by omega⟩⟩ hC0 hS21
    · refine lv_iload_n hx hb dX12_placed_18 rfl (lv_at hl 3 rfl) ?_
      refine lv_aload_n hx hb dX12_placed_19 rfl (lv_at hl 1 rfl) ?_
      refine q_getR E hC0 g0 fa_RX12_17 dX12_placed_20 (fun q25 eq25 gq25 => ?_)
      refine lv_iload_n hx hb dX12_placed_23 rfl (lv_at hl 2 rfl) ?_
      refine q_iald E hC0 gq25 rfl rfl (fun _ h => h) (i_in (a := a1) e1 (by omega) (by omega)) dX12_placed_24 (fun v26 ev26 lv26 uv26 => ?_)
      refine q_icmp_lt hx hb (a := a2) (b := v26.toInt) e2 rfl (tgt := 32) dX12_placed_25 rfl (fun c27 => ?_) (fun c27 => ?_)
      · refine lv_iconst (v := 0) hx hb dX12_placed_32 rfl ?_
        have c28 : (0 : Int32).toInt = 0 := (by decide)
        exact ret 0 H0 locs21 _ _ dX12_placed_33 ⟨rfl, ⟨by omega, by omega⟩⟩ hC0 hS21
      · refine lv_iconst (v := 4) hx hb dX12_placed_28 rfl ?_
        refine lv_goto (tgt := 33) hx hb dX12_placed_29 rfl ?_
        have c29 : (4 : Int32).toInt = 4 := (by decide)
        exact ret 4 H0 locs21 _ _ dX12_placed_33 ⟨rfl, ⟨by omega, by omega⟩⟩ hC0 hS21
  · refine lv_iload_n hx hb dX12_placed_10 rfl (lv_at hl 0 rfl) ?_
    refine lv_goto (tgt := 33) hx hb dX12_placed_11 rfl ?_
    have c30 : v21.toInt = v21.toInt := rfl
    exact ret v21 H0 locs21 _ _ dX12_placed_33 ⟨rfl, ⟨by omega, by omega⟩⟩ hC0 hS21
set_option maxRecDepth 100000 in
set_option maxHeartbeats 4000000 in
theorem m_X12_cut (l : Launch) (X : xW) (Γ : Nat → Option Nat) (H0 : Heap) (hC0 : Conf X Γ H0) (p0 : Int32) {a0 : Int} (e0 : p0.toInt = a0) (p1 : Int64) {a1 : Int} (e1 : p1.toInt = a1) : Ctr l X Γ yX12_cut cX12_cut 3 (some .long) 0 [.int p0, .long p1] H0 (QJ X Γ (fun v H1 => H1 = H0 ∧ (True))) := by
  refine q_enterJ (own := "SnowFortsModel") (by decide) rfl (Nat.le_of_ble_eq_true rfl) ?_
  intro p e s m args below meth c ls Qz E hl ret hS0
  have hx := E.1; have hb := E.2.1
  have hl : lv_has ls 3 [(0, .int p0), (1, .long p1)] := hl
  refine lv_iload_n hx hb dX12_cut_0 rfl (lv_at hl 0 rfl) ?_
  refine q_if_ne hx hb (a := a0) e0 (tgt := 11) dX12_cut_1 rfl (fun c21 => ?_) (fun c21 => ?_)
  · refine lv_iload_n hx hb dX12_cut_11 rfl (lv_at hl 0 rfl) ?_
    refine lv_iconst (v := 1) hx hb dX12_cut_12 rfl ?_
    refine q_icmp_ne hx hb (a := a0) (b := 1) e0 (by decide) (tgt := 23) dX12_cut_13 rfl (fun c22 => ?_) (fun c22 => ?_)
    · refine lv_iload_n hx hb dX12_cut_23 rfl (lv_at hl 0 rfl) ?_
      refine lv_iconst (v := 2) hx hb dX12_cut_24 rfl ?_
      refine q_icmp_ne hx hb (a := a0) (b := 2) e0 (by decide) (tgt := 34) dX12_cut_25 rfl (fun c23 => ?_) (fun c23 => ?_)
      · refine lv_lload_n hx hb dX12_cut_34 rfl (lv_at hl 1 rfl) ?_
        exact ret p1 H0 [] _ _ dX12_cut_35 ⟨rfl, trivial⟩ hC0 hS0
      · refine lv_lload_n hx hb dX12_cut_28 rfl (lv_at hl 1 rfl) ?_
        refine lv_l2i hx hb dX12_cut_29 rfl (lv_topi (fun v24 ev24 => ?_))
        refine lv_i2l (v := v24.toInt64) hx hb dX12_cut_30 rfl (lv_topl (fun v25 ev25 => ?_))
        have ev25i : v25.toInt = v24.toInt := l_ofi ev25.symm rfl
        refine lv_goto (tgt := 35) hx hb dX12_cut_31 rfl ?_
        exact ret v25 H0 [] _ _ dX12_cut_35 ⟨rfl, trivial⟩ hC0 hS0
    · refine lv_lload_n hx hb dX12_cut_16 rfl (lv_at hl 1 rfl) ?_
      refine lv_l2i hx hb dX12_cut_17 rfl (lv_topi (fun v26 ev26 => ?_))
      refine lv_i2s hx hb dX12_cut_18 rfl (lv_topi (fun v27 ev27 => ?_))
      refine lv_i2l (v := v27.toInt64) hx hb dX12_cut_19 rfl (lv_topl (fun v28 ev28 => ?_))
      have ev28i : v28.toInt = v27.toInt := l_ofi ev28.symm rfl
      refine lv_goto (tgt := 35) hx hb dX12_cut_20 rfl ?_
      exact ret v28 H0 [] _ _ dX12_cut_35 ⟨rfl, trivial⟩ hC0 hS0
  · refine lv_lload_n hx hb dX12_cut_4 rfl (lv_at hl 1 rfl) ?_
    refine lv_l2i hx hb dX12_cut_5 rfl (lv_topi (fun v29 ev29 => ?_))
    refine lv_i2b hx hb dX12_cut_6 rfl (lv_topi (fun v30 ev30 => ?_))
    refine lv_i2l (v := v30.toInt64) hx hb dX12_cut_7 rfl (lv_topl (fun v31 ev31 => ?_))
    have ev31i : v31.toInt = v30.toInt := l_ofi ev31.symm rfl
    refine lv_goto (tgt := 35) hx hb dX12_cut_8 rfl ?_
    exact ret v31 H0 [] _ _ dX12_cut_35 ⟨rfl, trivial⟩ hC0 hS0
set_option maxRecDepth 100000 in
set_option maxHeartbeats 4000000 in
theorem m_X12_write (l : Launch) (X : xW) (Γ : Nat → Option Nat) (H0 : Heap) (hC0 : Conf X Γ H0) (h0 : Nat) (g0 : Γ h0 = some 11) (p1 : Int32) {a1 : Int} (e1 : p1.toInt = a1) (p2 : Int32) {a2 : Int} (e2 : p2.toInt = a2) (p3 : Int64) {a3 : Int} (e3 : p3.toInt = a3) (ca : Nat) (gca : Γ ca = some 64) (uc : ∀ a, Γ a = some 64 → a = ca) : Ctr l X Γ yX12_write cX12_write 5 (some .boolean) 2 [.ref h0, .int p1, .int p2, .long p3] H0 (QI X Γ (fun v H1 => Kp X Γ [1, 7, 8, 9, 10, 11, 12, 14, 15, 16, 17] H0 H1 ∧ (v = 0 ∨ v = 1))) := by
  refine q_enterZ (own := "SnowFortsModel") (by decide) rfl (Nat.le_of_ble_eq_true rfl) ?_
  intro p e s m args below meth c ls Qz E hl ret hS0
  have hx := E.1; have hb := E.2.1
  have hKp0 : Kp X Γ [1, 7, 8, 9, 10, 11, 12, 14, 15, 16, 17] H0 H0 := Kp.rf
  have hl : lv_has ls 5 [(0, .ref h0), (1, .int p1), (2, .int p2), (3, .long p3)] := hl
  refine lv_aload_n hx hb dX12_write_0 rfl (lv_at hl 0 rfl) ?_
  refine lv_iconst (v := 0) hx hb dX12_write_1 rfl ?_
  refine q_put E hC0 hS0 g0 fp_RX12_69 tv_F rfl rfl dX12_write_2 (fun H21 locs21 hC21 hS21 U21 => ?_)
  have hKp21 := Kp.upO E g0 fp_RX12_69 rfl U21 hKp0
  have e22 := up_I U21
  refine lv_aload_n hx hb dX12_write_5 rfl (lv_at hl 0 rfl) ?_
  refine lv_aload_n hx hb dX12_write_6 rfl (lv_at hl 0 rfl) ?_
  refine lv_iload_n hx hb dX12_write_7 rfl (lv_at hl 1 rfl) ?_
  refine lv_iload_n hx hb dX12_write_8 rfl (lv_at hl 2 rfl) ?_
  refine q_goIp (q_runV (As := [.int p1, .int p2]) (rest := [.ref h0]) E hC21 hS21 (m_X12_placed l X Γ H21 hC21 h0 g0 p1 (a1 := a1) e1 p2 (a2 := a2) e2 ca gca uc) cw_X12_placed cl_RX12_92 g0 ⟨rfl, rfl⟩ rfl hl.1 rfl (show _ ≤ _ from by simp [Value.category]) (by decide) dX12_write_9) hS21 (fun v23 locs23 hr23 hS23 => ?_)
  obtain ⟨f23_0, f23_1⟩ := hr23
  refine q_put E hC21 hS23 g0 fp_RX12_72 tv_F rfl rfl dX12_write_12 (fun H24 locs24 hC24 hS24 U24 => ?_)
  have hKp24 := Kp.upO E g0 fp_RX12_72 rfl U24 hKp21
  have e25 := up_I U24
  refine lv_aload_n hx hb dX12_write_15 rfl (lv_at hl 0 rfl) ?_
  refine q_getI E hC24 g0 fa_RX12_72 dX12_write_16 (fun v26 ev26 _ _ => ?_)
  have qv26 := e25.symm.trans ev26; subst qv26
  refine q_if_le hx hb (a := v23.toInt) rfl (tgt := 24) dX12_write_19 rfl (fun c27 => ?_) (fun c27 => ?_)
  · refine lv_aload_n hx hb dX12_write_24 rfl (lv_at hl 0 rfl) ?_
    refine q_getR E hC24 g0 fa_RX12_20 dX12_write_25 (fun q28 eq28 gq28 => ?_)
    refine lv_bipush (v := 60) hx hb dX12_write_28 rfl ?_
    refine lv_iload_n hx hb dX12_write_30 rfl (lv_at hl 1 rfl) ?_
    refine lv_imul hx hb dX12_write_31 (lv_topi (fun v29 ev29 => ?_))
    have ev29i : v29.toInt = (60 * a1) := i_mul ev29 (by decide) e1 (by omega) (by omega)
    refine lv_iload_n hx hb dX12_write_32 rfl (lv_at hl 2 rfl) ?_
    refine lv_iadd hx hb dX12_write_33 (lv_topi (fun v30 ev30 => ?_))
    have ev30i : v30.toInt = ((60 * a1) + a2) := i_add ev30 ev29i e2 (by omega) (by omega)
    refine lv_aload_n hx hb dX12_write_34 rfl (lv_at hl 0 rfl) ?_
    refine q_getR E hC24 g0 fa_RX12_13 dX12_write_35 (fun q31 eq31 gq31 => ?_)
    refine lv_iload_n hx hb dX12_write_38 rfl (lv_at hl 1 rfl) ?_
    refine q_iald E hC24 gq31 rfl rfl (fun _ h => h) (i_in (a := a1) e1 (by omega) (by omega)) dX12_write_39 (fun v32 ev32 _ _ => ?_)
    refine lv_lload_n hx hb dX12_write_40 rfl (lv_at hl 3 rfl) ?_
    refine q_goJp (q_runS (As := [.int v32, .long p3]) (rest := [.int v30, .ref q28]) E hS24 (m_X12_cut l X Γ H24 hC24 v32 (a0 := v32.toInt) rfl p3 (a1 := a3) e3) cw_X12_cut cl_RX12_96 rfl hl.1 rfl (show _ ≤ _ from by simp [Value.category]) (by decide) dX12_write_41) hS24 (fun v33 locs33 hr33 hS33 => ?_)
    refine q_last E hC24 hS33 gq28 (by decide) rfl rfl (fun _ => rfl) (i_in (a := ((60 * a1) + a2)) ev30i (by omega) (by omega)) dX12_write_44 (fun H34 locs34 hC34 hS34 U34 => ?_)
    have hKp34 := Kp.upA gq28 rfl (by decide) rfl U34 hKp24
    refine lv_iconst (v := 1) hx hb dX12_write_45 rfl ?_
    exact ret 1 H34 locs34 _ _ dX12_write_46 (Or.inr rfl) ⟨hKp34, Or.inr rfl⟩ hC34 hS34
  · refine lv_iconst (v := 0) hx hb dX12_write_22 rfl ?_
    exact ret 0 H24 locs24 _ _ dX12_write_23 (Or.inl rfl) ⟨hKp24, Or.inl rfl⟩ hC24 hS24
set_option maxRecDepth 100000 in
set_option maxHeartbeats 4000000 in
theorem m_X12_read (l : Launch) (X : xW) (Γ : Nat → Option Nat) (H0 : Heap) (hC0 : Conf X Γ H0) (h0 : Nat) (g0 : Γ h0 = some 11) (p1 : Int32) {a1 : Int} (e1 : p1.toInt = a1) (p2 : Int32) {a2 : Int} (e2 : p2.toInt = a2) (ca : Nat) (gca : Γ ca = some 64) (uc : ∀ a, Γ a = some 64 → a = ca) : Ctr l X Γ yX12_read cX12_read 3 (some .long) 2 [.ref h0, .int p1, .int p2] H0 (QJ X Γ (fun v H1 => Kp X Γ [1, 6, 7, 8, 9, 10, 11, 12, 14, 15, 16, 17] H0 H1 ∧ (True))) := by
  refine q_enterJ (own := "SnowFortsModel") (by decide) rfl (Nat.le_of_ble_eq_true rfl) ?_
  intro p e s m args below meth c ls Qz E hl ret hS0
  have hx := E.1; have hb := E.2.1
  have hKp0 : Kp X Γ [1, 6, 7, 8, 9, 10, 11, 12, 14, 15, 16, 17] H0 H0 := Kp.rf
  have hl : lv_has ls 3 [(0, .ref h0), (1, .int p1), (2, .int p2)] := hl
  refine lv_aload_n hx hb dX12_read_0 rfl (lv_at hl 0 rfl) ?_
  refine lv_iconst (v := 0) hx hb dX12_read_1 rfl ?_
  refine q_put E hC0 hS0 g0 fp_RX12_69 tv_F rfl rfl dX12_read_2 (fun H21 locs21 hC21 hS21 U21 => ?_)
  have hKp21 := Kp.upO E g0 fp_RX12_69 rfl U21 hKp0
  have e22 := up_I U21
  refine lv_aload_n hx hb dX12_read_5 rfl (lv_at hl 0 rfl) ?_
  refine lv_aload_n hx hb dX12_read_6 rfl (lv_at hl 0 rfl) ?_
  refine lv_iload_n hx hb dX12_read_7 rfl (lv_at hl 1 rfl) ?_
  refine lv_iload_n hx hb dX12_read_8 rfl (lv_at hl 2 rfl) ?_
  refine q_goIp (q_runV (As := [.int p1, .int p2]) (rest := [.ref h0]) E hC21 hS21 (m_X12_placed l X Γ H21 hC21 h0 g0 p1 (a1 := a1) e1 p2 (a2 := a2) e2 ca gca uc) cw_X12_placed cl_RX12_92 g0 ⟨rfl, rfl⟩ rfl hl.1 rfl (show _ ≤ _ from by simp [Value.category]) (by decide) dX12_read_9) hS21 (fun v23 locs23 hr23 hS23 => ?_)
  obtain ⟨f23_0, f23_1⟩ := hr23
  refine q_put E hC21 hS23 g0 fp_RX12_72 tv_F rfl rfl dX12_read_12 (fun H24 locs24 hC24 hS24 U24 => ?_)
  have hKp24 := Kp.upO E g0 fp_RX12_72 rfl U24 hKp21
  have e25 := up_I U24
  refine lv_aload_n hx hb dX12_read_15 rfl (lv_at hl 0 rfl) ?_
  refine q_getI E hC24 g0 fa_RX12_72 dX12_read_16 (fun v26 ev26 _ _ => ?_)
  have qv26 := e25.symm.trans ev26; subst qv26
  refine q_if_le hx hb (a := v23.toInt) rfl (tgt := 28) dX12_read_19 rfl (fun c27 => ?_) (fun c27 => ?_)
  · refine lv_aload_n hx hb dX12_read_28 rfl (lv_at hl 0 rfl) ?_
    refine q_getR E hC24 g0 fa_RX12_20 dX12_read_29 (fun q28 eq28 gq28 => ?_)
    refine lv_bipush (v := 60) hx hb dX12_read_32 rfl ?_
    refine lv_iload_n hx hb dX12_read_34 rfl (lv_at hl 1 rfl) ?_
    refine lv_imul hx hb dX12_read_35 (lv_topi (fun v29 ev29 => ?_))
    have ev29i : v29.toInt = (60 * a1) := i_mul ev29 (by decide) e1 (by omega) (by omega)
    refine lv_iload_n hx hb dX12_read_36 rfl (lv_at hl 2 rfl) ?_
    refine lv_iadd hx hb dX12_read_37 (lv_topi (fun v30 ev30 => ?_))
    have ev30i : v30.toInt = ((60 * a1) + a2) := i_add ev30 ev29i e2 (by omega) (by omega)
    refine q_lald E hC24 gq28 rfl rfl (fun _ => rfl) (i_in (a := ((60 * a1) + a2)) ev30i (by omega) (by omega)) dX12_read_38 (fun v31 ev31 => ?_)
    exact ret v31 H24 locs24 _ _ dX12_read_39 ⟨hKp24, trivial⟩ hC24 hS24
  · refine lv_ldc2 (v := (-1)) hx hb E.2.2.2.1 (E.2.2.2.2.1 _ w_1470) dX12_read_22 ?_
    refine lv_goto (tgt := 39) hx hb dX12_read_25 rfl ?_
    exact ret (-1) H24 locs24 _ _ dX12_read_39 ⟨hKp24, trivial⟩ hC24 hS24
set_option maxRecDepth 100000 in
set_option maxHeartbeats 4000000 in
theorem m_X12_pour (l : Launch) (X : xW) (Γ : Nat → Option Nat) (H0 : Heap) (hC0 : Conf X Γ H0) (h0 : Nat) (g0 : Γ h0 = some 11) (p1 : Int32) {a1 : Int} (e1 : p1.toInt = a1) (p2 : Int32) {a2 : Int} (e2 : p2.toInt = a2) (p3 : Int32) {a3 : Int} (e3 : p3.toInt = a3) (p4 : Int32) {a4 : Int} (e4 : p4.toInt = a4) (p5 : Int32) {a5 : Int} (e5 : p5.toInt = a5) (ca : Nat) (gca : Γ ca = some 64) (uc : ∀ a, Γ a = some 64 → a = ca) : Ctr l X Γ yX12_pour cX12_pour 9 (some .boolean) 1 [.ref h0, .int p1, .int p2, .int p3, .int p4, .int p5] H0 (QI X Γ (fun v H1 => Kp X Γ [1, 7, 8, 9, 10, 11, 12, 14, 15, 16, 17] H0 H1 ∧ (v = 0 ∨ v = 1))) := by
  refine q_enterZ (own := "SnowFortsModel") (by decide) rfl (Nat.le_of_ble_eq_true rfl) ?_
  intro p e s m args below meth c ls Qz E hl ret hS0
  have hx := E.1; have hb := E.2.1
  have hKp0 : Kp X Γ [1, 7, 8, 9, 10, 11, 12, 14, 15, 16, 17] H0 H0 := Kp.rf
  have hl : lv_has ls 9 [(0, .ref h0), (1, .int p1), (2, .int p2), (3, .int p3), (4, .int p4), (5, .int p5)] := hl
  refine lv_aload_n hx hb dX12_pour_0 rfl (lv_at hl 0 rfl) ?_
  refine lv_iconst (v := 0) hx hb dX12_pour_1 rfl ?_
  refine q_put E hC0 hS0 g0 fp_RX12_69 tv_F rfl rfl dX12_pour_2 (fun H21 locs21 hC21 hS21 U21 => ?_)
  have hKp21 := Kp.upO E g0 fp_RX12_69 rfl U21 hKp0
  have e22 := up_I U21
  refine lv_aload_n hx hb dX12_pour_5 rfl (lv_at hl 0 rfl) ?_
  refine lv_iconst (v := 0) hx hb dX12_pour_6 rfl ?_
  refine q_put E hC21 hS21 g0 fp_RX12_72 tv_F rfl rfl dX12_pour_7 (fun H23 locs23 hC23 hS23 U23 => ?_)
  have hKp23 := Kp.upO E g0 fp_RX12_72 rfl U23 hKp21
  have e24 := up_I U23
  refine lv_iload_n hx hb dX12_pour_10 rfl (lv_at hl 1 rfl) ?_
  refine q_if_lt hx hb (a := a1) e1 (tgt := 28) dX12_pour_11 rfl (fun c25 => ?_) (fun c25 => ?_)
  · refine lv_aload_n hx hb dX12_pour_28 rfl (lv_at hl 0 rfl) ?_
    refine lv_iconst (v := 1) hx hb dX12_pour_29 rfl ?_
    refine q_goI (q_runV (As := [.int 1]) (rest := []) E hC23 hS23 (m_X12_no l X Γ H23 hC23 h0 g0 1 (a1 := 1) (by decide) ca gca uc) cw_X12_no cl_RX12_84 g0 ⟨rfl, rfl⟩ rfl hl.1 rfl (Nat.zero_le _) (by decide) dX12_pour_30) hS23 (fun v26 H26 locs26 hr26 hC26 hS26 => ?_)
    obtain ⟨hp26, hr26⟩ := hr26
    have hKp26 := hKp23.tr (hp26.mono rfl)
    rcases hr26 with ⟨rfl, f26a⟩ | ⟨rfl, -⟩
    · exact absurd f26a (by decide)
    · exact ret 0 H26 locs26 _ _ dX12_pour_33 (Or.inl rfl) ⟨hKp26, Or.inl rfl⟩ hC26 hS26
  · refine lv_iload_n hx hb dX12_pour_14 rfl (lv_at hl 1 rfl) ?_
    refine lv_iconst (v := 4) hx hb dX12_pour_15 rfl ?_
    refine q_icmp_ge hx hb (a := a1) (b := 4) e1 (by decide) (tgt := 28) dX12_pour_16 rfl (fun c27 => ?_) (fun c27 => ?_)
    · refine lv_aload_n hx hb dX12_pour_28 rfl (lv_at hl 0 rfl) ?_
      refine lv_iconst (v := 1) hx hb dX12_pour_29 rfl ?_
      refine q_goI (q_runV (As := [.int 1]) (rest := []) E hC23 hS23 (m_X12_no l X Γ H23 hC23 h0 g0 1 (a1 := 1) (by decide) ca gca uc) cw_X12_no cl_RX12_84 g0 ⟨rfl, rfl⟩ rfl hl.1 rfl (Nat.zero_le _) (by decide) dX12_pour_30) hS23 (fun v28 H28 locs28 hr28 hC28 hS28 => ?_)
      obtain ⟨hp28, hr28⟩ := hr28
      have hKp28 := hKp23.tr (hp28.mono rfl)
      rcases hr28 with ⟨rfl, f28a⟩ | ⟨rfl, -⟩
      · exact absurd f28a (by decide)
      · exact ret 0 H28 locs28 _ _ dX12_pour_33 (Or.inl rfl) ⟨hKp28, Or.inl rfl⟩ hC28 hS28
    · refine lv_iload_n hx hb dX12_pour_19 rfl (lv_at hl 3 rfl) ?_
      refine q_if_lt hx hb (a := a3) e3 (tgt := 28) dX12_pour_20 rfl (fun c29 => ?_) (fun c29 => ?_)
      · refine lv_aload_n hx hb dX12_pour_28 rfl (lv_at hl 0 rfl) ?_
        refine lv_iconst (v := 1) hx hb dX12_pour_29 rfl ?_
        refine q_goI (q_runV (As := [.int 1]) (rest := []) E hC23 hS23 (m_X12_no l X Γ H23 hC23 h0 g0 1 (a1 := 1) (by decide) ca gca uc) cw_X12_no cl_RX12_84 g0 ⟨rfl, rfl⟩ rfl hl.1 rfl (Nat.zero_le _) (by decide) dX12_pour_30) hS23 (fun v30 H30 locs30 hr30 hC30 hS30 => ?_)
        obtain ⟨hp30, hr30⟩ := hr30
        have hKp30 := hKp23.tr (hp30.mono rfl)
        rcases hr30 with ⟨rfl, f30a⟩ | ⟨rfl, -⟩
        · exact absurd f30a (by decide)
        · exact ret 0 H30 locs30 _ _ dX12_pour_33 (Or.inl rfl) ⟨hKp30, Or.inl rfl⟩ hC30 hS30
      · refine lv_iload_n hx hb dX12_pour_23 rfl (lv_at hl 3 rfl) ?_
        refine lv_iconst (v := 4) hx hb dX12_pour_24 rfl ?_
        refine q_icmp_lt hx hb (a := a3) (b := 4) e3 (by decide) (tgt := 34) dX12_pour_25 rfl (fun c31 => ?_) (fun c31 => ?_)
        · refine lv_aload_n hx hb dX12_pour_34 rfl (lv_at hl 0 rfl) ?_
          refine q_getR E hC23 g0 fa_RX12_17 dX12_pour_35 (fun q32 eq32 gq32 => ?_)
          refine lv_iload_n hx hb dX12_pour_38 rfl (lv_at hl 1 rfl) ?_
          refine q_iald E hC23 gq32 rfl rfl (fun _ h => h) (i_in (a := a1) e1 (by omega) (by omega)) dX12_pour_39 (fun v33 ev33 lv33 uv33 => ?_)
          refine q_if_lt hx hb (a := v33.toInt) rfl (tgt := 52) dX12_pour_40 rfl (fun c34 => ?_) (fun c34 => ?_)
          · refine lv_aload_n hx hb dX12_pour_52 rfl (lv_at hl 0 rfl) ?_
            refine lv_iconst (v := 3) hx hb dX12_pour_53 rfl ?_
            refine q_goI (q_runV (As := [.int 3]) (rest := []) E hC23 hS23 (m_X12_no l X Γ H23 hC23 h0 g0 3 (a1 := 3) (by decide) ca gca uc) cw_X12_no cl_RX12_84 g0 ⟨rfl, rfl⟩ rfl hl.1 rfl (Nat.zero_le _) (by decide) dX12_pour_54) hS23 (fun v35 H35 locs35 hr35 hC35 hS35 => ?_)
            obtain ⟨hp35, hr35⟩ := hr35
            have hKp35 := hKp23.tr (hp35.mono rfl)
            rcases hr35 with ⟨rfl, f35a⟩ | ⟨rfl, -⟩
            · exact absurd f35a (by decide)
            · exact ret 0 H35 locs35 _ _ dX12_pour_57 (Or.inl rfl) ⟨hKp35, Or.inl rfl⟩ hC35 hS35
          · refine lv_aload_n hx hb dX12_pour_43 rfl (lv_at hl 0 rfl) ?_
            refine q_getR E hC23 g0 fa_RX12_17 dX12_pour_44 (fun q36 eq36 gq36 => ?_)
            refine lv_iload_n hx hb dX12_pour_47 rfl (lv_at hl 3 rfl) ?_
            refine q_iald E hC23 gq36 rfl rfl (fun _ h => h) (i_in (a := a3) e3 (by omega) (by omega)) dX12_pour_48 (fun v37 ev37 lv37 uv37 => ?_)
            refine q_if_ge hx hb (a := v37.toInt) rfl (tgt := 58) dX12_pour_49 rfl (fun c38 => ?_) (fun c38 => ?_)
            · refine lv_aload_n hx hb dX12_pour_58 rfl (lv_at hl 0 rfl) ?_
              refine q_getR E hC23 g0 fa_RX12_13 dX12_pour_59 (fun q39 eq39 gq39 => ?_)
              refine lv_iload_n hx hb dX12_pour_62 rfl (lv_at hl 1 rfl) ?_
              refine q_iald E hC23 gq39 rfl rfl (fun _ h => h) (i_in (a := a1) e1 (by omega) (by omega)) dX12_pour_63 (fun v40 ev40 _ _ => ?_)
              refine lv_aload_n hx hb dX12_pour_64 rfl (lv_at hl 0 rfl) ?_
              refine q_getR E hC23 g0 fa_RX12_13 dX12_pour_65 (fun q41 eq41 gq41 => ?_)
              refine lv_iload_n hx hb dX12_pour_68 rfl (lv_at hl 3 rfl) ?_
              refine q_iald E hC23 gq41 rfl rfl (fun _ h => h) (i_in (a := a3) e3 (by omega) (by omega)) dX12_pour_69 (fun v42 ev42 _ _ => ?_)
              have c43 := i_rng v40; rw [show v40.toInt = v40.toInt from rfl] at c43
              have c44 := i_rng v42; rw [show v42.toInt = v42.toInt from rfl] at c44
              refine q_icmp_eq hx hb (a := v40.toInt) (b := v42.toInt) rfl rfl (tgt := 80) dX12_pour_70 rfl (fun c45 => ?_) (fun c45 => ?_)
              · refine lv_iload hx hb dX12_pour_80 (lv_at hl 5 rfl) ?_
                refine q_if_ge hx hb (a := a5) e5 (tgt := 92) dX12_pour_82 rfl (fun c46 => ?_) (fun c46 => ?_)
                · refine lv_iload_n hx hb dX12_pour_92 rfl (lv_at hl 2 rfl) ?_
                  refine q_if_lt hx hb (a := a2) e2 (tgt := 136) dX12_pour_93 rfl (fun c47 => ?_) (fun c47 => ?_)
                  · refine lv_aload_n hx hb dX12_pour_136 rfl (lv_at hl 0 rfl) ?_
                    refine lv_iconst (v := 4) hx hb dX12_pour_137 rfl ?_
                    refine q_goI (q_runV (As := [.int 4]) (rest := []) E hC23 hS23 (m_X12_no l X Γ H23 hC23 h0 g0 4 (a1 := 4) (by decide) ca gca uc) cw_X12_no cl_RX12_84 g0 ⟨rfl, rfl⟩ rfl hl.1 rfl (Nat.zero_le _) (by decide) dX12_pour_138) hS23 (fun v48 H48 locs48 hr48 hC48 hS48 => ?_)
                    obtain ⟨hp48, hr48⟩ := hr48
                    have hKp48 := hKp23.tr (hp48.mono rfl)
                    rcases hr48 with ⟨rfl, f48a⟩ | ⟨rfl, -⟩
                    · exact absurd f48a (by decide)
                    · exact ret 0 H48 locs48 _ _ dX12_pour_141 (Or.inl rfl) ⟨hKp48, Or.inl rfl⟩ hC48 hS48
                  · refine lv_iload hx hb dX12_pour_96 (lv_at hl 4 rfl) ?_
                    refine q_if_lt hx hb (a := a4) e4 (tgt := 136) dX12_pour_98 rfl (fun c49 => ?_) (fun c49 => ?_)
                    · refine lv_aload_n hx hb dX12_pour_136 rfl (lv_at hl 0 rfl) ?_
                      refine lv_iconst (v := 4) hx hb dX12_pour_137 rfl ?_
                      refine q_goI (q_runV (As := [.int 4]) (rest := []) E hC23 hS23 (m_X12_no l X Γ H23 hC23 h0 g0 4 (a1 := 4) (by decide) ca gca uc) cw_X12_no cl_RX12_84 g0 ⟨rfl, rfl⟩ rfl hl.1 rfl (Nat.zero_le _) (by decide) dX12_pour_138) hS23 (fun v50 H50 locs50 hr50 hC50 hS50 => ?_)
                      obtain ⟨hp50, hr50⟩ := hr50
                      have hKp50 := hKp23.tr (hp50.mono rfl)
                      rcases hr50 with ⟨rfl, f50a⟩ | ⟨rfl, -⟩
                      · exact absurd f50a (by decide)
                      · exact ret 0 H50 locs50 _ _ dX12_pour_141 (Or.inl rfl) ⟨hKp50, Or.inl rfl⟩ hC50 hS50
                    · refine lv_iload_n hx hb dX12_pour_101 rfl (lv_at hl 2 rfl) ?_
                      refine lv_i2l (v := p2.toInt64) hx hb dX12_pour_102 rfl (lv_topl (fun v51 ev51 => ?_))
                      have ev51i : v51.toInt = a2 := l_ofi ev51.symm e2
                      refine lv_iload hx hb dX12_pour_103 (lv_at hl 5 rfl) ?_
                      refine lv_i2l (v := p5.toInt64) hx hb dX12_pour_105 rfl (lv_topl (fun v52 ev52 => ?_))
                      have ev52i : v52.toInt = a5 := l_ofi ev52.symm e5
                      refine lv_ladd hx hb dX12_pour_106 (lv_topl (fun v53 ev53 => ?_))
                      have c54 := i_rng p2; rw [show p2.toInt = a2 from e2] at c54
                      have c55 := i_rng p5; rw [show p5.toInt = a5 from e5] at c55
                      have ev53i : v53.toInt = (a2 + a5) := l_add ev53 ev51i ev52i (by omega) (by omega)
                      refine lv_aload_n hx hb dX12_pour_107 rfl (lv_at hl 0 rfl) ?_
                      refine q_getR E hC23 g0 fa_RX12_17 dX12_pour_108 (fun q56 eq56 gq56 => ?_)
                      refine lv_iload_n hx hb dX12_pour_111 rfl (lv_at hl 1 rfl) ?_
                      refine q_iald E hC23 gq56 rfl rfl (fun _ h => h) (i_in (a := a1) e1 (by omega) (by omega)) dX12_pour_112 (fun v57 ev57 lv57 uv57 => ?_)
                      refine lv_i2l (v := v57.toInt64) hx hb dX12_pour_113 rfl (lv_topl (fun v58 ev58 => ?_))
                      have ev58i : v58.toInt = v57.toInt := l_ofi ev58.symm rfl
                      refine q_lcmp_gt hx hb (a := (a2 + a5)) (b := v57.toInt) ev53i ev58i (tgt := 136) dX12_pour_114 dX12_pour_115 rfl (fun c59 => ?_) (fun c59 => ?_)
                      · refine lv_aload_n hx hb dX12_pour_136 rfl (lv_at hl 0 rfl) ?_
                        refine lv_iconst (v := 4) hx hb dX12_pour_137 rfl ?_
                        refine q_goI (q_runV (As := [.int 4]) (rest := []) E hC23 hS23 (m_X12_no l X Γ H23 hC23 h0 g0 4 (a1 := 4) (by decide) ca gca uc) cw_X12_no cl_RX12_84 g0 ⟨rfl, rfl⟩ rfl hl.1 rfl (Nat.zero_le _) (by decide) dX12_pour_138) hS23 (fun v60 H60 locs60 hr60 hC60 hS60 => ?_)
                        obtain ⟨hp60, hr60⟩ := hr60
                        have hKp60 := hKp23.tr (hp60.mono rfl)
                        rcases hr60 with ⟨rfl, f60a⟩ | ⟨rfl, -⟩
                        · exact absurd f60a (by decide)
                        · exact ret 0 H60 locs60 _ _ dX12_pour_141 (Or.inl rfl) ⟨hKp60, Or.inl rfl⟩ hC60 hS60
                      · refine lv_iload hx hb dX12_pour_118 (lv_at hl 4 rfl) ?_
                        refine lv_i2l (v := p4.toInt64) hx hb dX12_pour_120 rfl (lv_topl (fun v61 ev61 => ?_))
                        have ev61i : v61.toInt = a4 := l_ofi ev61.symm e4
                        refine lv_iload hx hb dX12_pour_121 (lv_at hl 5 rfl) ?_
                        refine lv_i2l (v := p5.toInt64) hx hb dX12_pour_123 rfl (lv_topl (fun v62 ev62 => ?_))
                        have ev62i : v62.toInt = a5 := l_ofi ev62.symm e5
                        refine lv_ladd hx hb dX12_pour_124 (lv_topl (fun v63 ev63 => ?_))
                        have c64 := i_rng p4; rw [show p4.toInt = a4 from e4] at c64
                        have ev63i : v63.toInt = (a4 + a5) := l_add ev63 ev61i ev62i (by omega) (by omega)
                        refine lv_aload_n hx hb dX12_pour_125 rfl (lv_at hl 0 rfl) ?_
                        refine q_getR E hC23 g0 fa_RX12_17 dX12_pour_126 (fun q65 eq65 gq65 => ?_)
                        refine lv_iload_n hx hb dX12_pour_129 rfl (lv_at hl 3 rfl) ?_
                        refine q_iald E hC23 gq65 rfl rfl (fun _ h => h) (i_in (a := a3) e3 (by omega) (by omega)) dX12_pour_130 (fun v66 ev66 lv66 uv66 => ?_)
                        refine lv_i2l (v := v66.toInt64) hx hb dX12_pour_131 rfl (lv_topl (fun v67 ev67 => ?_))
                        have ev67i : v67.toInt = v66.toInt := l_ofi ev67.symm rfl
                        refine q_lcmp_le hx hb (a := (a4 + a5)) (b := v66.toInt) ev63i ev67i (tgt := 142) dX12_pour_132 dX12_pour_133 rfl (fun c68 => ?_) (fun c68 => ?_)
                        · refine lv_iload_n hx hb dX12_pour_142 rfl (lv_at hl 2 rfl) ?_
                          refine lv_iload hx hb dX12_pour_143 (lv_at hl 4 rfl) ?_
                          refine q_icmp_ge hx hb (a := a2) (b := a4) e2 e4 (tgt := 152) dX12_pour_145 rfl (fun c69 => ?_) (fun c69 => ?_)
                          · refine lv_iconst (v := 0) hx hb dX12_pour_152 rfl ?_
                            refine lv_istore hx hb dX12_pour_153 hl (by decide) rfl (fun ls hl => ?_)
                            have hl : lv_has ls 9 [(6, .int 0), (0, .ref h0), (1, .int p1), (2, .int p2), (3, .int p3), (4, .int p4), (5, .int p5)] := hl
                            refine lv_iconst (v := 0) hx hb dX12_pour_155 rfl ?_
                            refine lv_istore hx hb dX12_pour_156 hl (by decide) rfl (fun ls hl => ?_)
                            have hl : lv_has ls 9 [(7, .int 0), (6, .int 0), (0, .ref h0), (1, .int p1), (2, .int p2), (3, .int p3), (4, .int p4), (5, .int p5)] := hl
                            have L158 : ∀ (n71 : Nat) (H71 : Heap) (locs71 : List Loc) (v70 : Int32) (z70 : Int) (ls : Array Slot), (a5 - z70).toNat < n71 → v70.toInt = z70 → 0 ≤ z70 → Conf X Γ H71 → va_S (AΓ Γ) H0 H71 locs71 → Kp X Γ [1, 7, 8, 9, 10, 11, 12, 14, 15, 16, 17] H0 H71 → lv_has ls 9 [(7, .int v70), (6, .int 0), (0, .ref h0), (1, .int p1), (2, .int p2), (3, .int p3), (4, .int p4), (5, .int p5)] → W p l e (rmL 1) s m args below meth c H71 locs71 0 0 Qz (F0 m 158 ls []) := by
                              intro n71
                              induction n71 with
                              | zero => intro H71 locs71 v70 z70 ls hm71 ev70 iv71_0 hC71 hS71 hKp71 hl; exact absurd hm71 (Nat.not_lt_zero _)
                              | succ n71 ih71 =>
                                intro H71 locs71 v70 z70 ls hm71 ev70 iv71_0 hC71 hS71 hKp71 hl
                                refine lv_iload hx hb dX12_pour_158 (lv_at hl 0 rfl) ?_
                                refine lv_iload hx hb dX12_pour_160 (lv_at hl 7 rfl) ?_
                                refine q_icmp_ge hx hb (a := z70) (b := a5) ev70 e5 (tgt := 219) dX12_pour_162 rfl (fun c72 => ?_) (fun c72 => ?_)
                                · refine lv_iconst (v := 1) hx hb dX12_pour_219 rfl ?_
                                  exact ret 1 H71 locs71 _ _ dX12_pour_220 (Or.inr rfl) ⟨hKp71, Or.inr rfl⟩ hC71 hS71
                                · refine lv_iload hx hb dX12_pour_165 (lv_at hl 1 rfl) ?_
                                  refine q_if_eq hx hb (a := 0) (by decide) (tgt := 180) dX12_pour_167 rfl (fun c73 => ?_) (fun c73 => absurd c73 (by omega))
                                  refine lv_iload hx hb dX12_pour_180 (lv_at hl 0 rfl) ?_
                                  refine lv_istore hx hb dX12_pour_182 hl (by decide) rfl (fun ls hl => ?_)
                                  have hl : lv_has ls 9 [(8, .int v70), (7, .int v70), (6, .int 0), (0, .ref h0), (1, .int p1), (2, .int p2), (3, .int p3), (4, .int p4), (5, .int p5)] := hl
                                  refine lv_aload_n hx hb dX12_pour_184 rfl (lv_at hl 3 rfl) ?_
                                  refine q_getR E hC71 g0 fa_RX12_20 dX12_pour_185 (fun q74 eq74 gq74 => ?_)
                                  refine lv_bipush (v := 60) hx hb dX12_pour_188 rfl ?_
                                  refine lv_iload_n hx hb dX12_pour_190 rfl (lv_at hl 6 rfl) ?_
                                  refine lv_imul hx hb dX12_pour_191 (lv_topi (fun v75 ev75 => ?_))
                                  have ev75i : v75.toInt = (60 * a3) := i_mul ev75 (by decide) e3 (by omega) (by omega)
                                  refine lv_iload hx hb dX12_pour_192 (lv_at hl 7 rfl) ?_
                                  refine lv_iadd hx hb dX12_pour_194 (lv_topi (fun v76 ev76 => ?_))
                                  have ev76i : v76.toInt = ((60 * a3) + a4) := i_add ev76 ev75i e4 (by omega) (by omega)
                                  refine lv_iload hx hb dX12_pour_195 (lv_at hl 0 rfl) ?_
                                  refine lv_iadd hx hb dX12_pour_197 (lv_topi (fun v77 ev77 => ?_))
                                  have ev77i : v77.toInt = (((60 * a3) + a4) + z70) := i_add ev77 ev76i ev70 (by omega) (by omega)
                                  refine lv_aload_n hx hb dX12_pour_198 rfl (lv_at hl 3 rfl) ?_
                                  refine q_getR E hC71 g0 fa_RX12_20 dX12_pour_199 (fun q78 eq78 gq78 => ?_)
                                  refine lv_bipush (v := 60) hx hb dX12_pour_202 rfl ?_
                                  refine lv_iload_n hx hb dX12_pour_204 rfl (lv_at hl 4 rfl) ?_
                                  refine lv_imul hx hb dX12_pour_205 (lv_topi (fun v79 ev79 => ?_))
                                  have ev79i : v79.toInt = (60 * a1) := i_mul ev79 (by decide) e1 (by omega) (by omega)
                                  refine lv_iload_n hx hb dX12_pour_206 rfl (lv_at hl 5 rfl) ?_
                                  refine lv_iadd hx hb dX12_pour_207 (lv_topi (fun v80 ev80 => ?_))
                                  have ev80i : v80.toInt = ((60 * a1) + a2) := i_add ev80 ev79i e2 (by omega) (by omega)
                                  refine lv_iload hx hb dX12_pour_208 (lv_at hl 0 rfl) ?_
                                  refine lv_iadd hx hb dX12_pour_210 (lv_topi (fun v81 ev81 => ?_))
                                  have ev81i : v81.toInt = (((60 * a1) + a2) + z70) := i_add ev81 ev80i ev70 (by omega) (by omega)
                                  refine q_lald E hC71 gq78 rfl rfl (fun _ => rfl) (i_in (a := (((60 * a1) + a2) + z70)) ev81i (by omega) (by omega)) dX12_pour_211 (fun v82 ev82 => ?_)
                                  refine q_last E hC71 hS71 gq74 (by decide) rfl rfl (fun _ => rfl) (i_in (a := (((60 * a3) + a4) + z70)) ev77i (by omega) (by omega)) dX12_pour_212 (fun H83 locs83 hC83 hS83 U83 => ?_)
                                  have hKp83 := Kp.upA gq74 rfl (by decide) rfl U83 hKp71
                                  obtain ⟨v84, ev84⟩ : ∃ z, z = v70 + Int32.ofInt 1 := ⟨_, rfl⟩
                                  have ev84i : v84.toInt = (z70 + 1) := i_add ev84 ev70 (by decide) (by omega) (by omega)
                                  refine lv_iinc hx hb dX12_pour_213 hl (k := 1) rfl ev84.symm (by decide) rfl (fun ls hl => ?_)
                                  have hl : lv_has ls 9 [(7, .int v84), (8, .int v70), (6, .int 0), (0, .ref h0), (1, .int p1), (2, .int p2), (3, .int p3), (4, .int p4), (5, .int p5)] := hl
                                  refine lv_goto (tgt := 158) hx hb dX12_pour_216 rfl ?_
                                  exact ih71 H83 locs83 v84 ((z70 + 1)) ls (by omega) ev84i (by omega) hC83 hS83 hKp83 (lv_sub hl [0, 2, 3, 4, 5, 6, 7, 8] rfl)
                            exact L158 _ H23 locs23 0 0 ls (Nat.lt_succ_self _) (by decide) (by omega) hC23 hS23 hKp23 hl
                          · refine lv_iconst (v := 1) hx hb dX12_pour_148 rfl ?_
                            refine lv_goto (tgt := 153) hx hb dX12_pour_149 rfl ?_
                            refine lv_istore hx hb dX12_pour_153 hl (by decide) rfl (fun ls hl => ?_)
                            have hl : lv_has ls 9 [(6, .int 1), (0, .ref h0), (1, .int p1), (2, .int p2), (3, .int p3), (4, .int p4), (5, .int p5)] := hl
                            refine lv_iconst (v := 0) hx hb dX12_pour_155 rfl ?_
                            refine lv_istore hx hb dX12_pour_156 hl (by decide) rfl (fun ls hl => ?_)
                            have hl : lv_has ls 9 [(7, .int 0), (6, .int 1), (0, .ref h0), (1, .int p1), (2, .int p2), (3, .int p3), (4, .int p4), (5, .int p5)] := hl
                            have L158 : ∀ (n86 : Nat) (H86 : Heap) (locs86 : List Loc) (v85 : Int32) (z85 : Int) (ls : Array Slot), (a5 - z85).toNat < n86 → v85.toInt = z85 → 0 ≤ z85 → Conf X Γ H86 → va_S (AΓ Γ) H0 H86 locs86 → Kp X Γ [1, 7, 8, 9, 10, 11, 12, 14, 15, 16, 17] H0 H86 → lv_has ls 9 [(7, .int v85), (6, .int 1), (0, .ref h0), (1, .int p1), (2, .int p2), (3, .int p3), (4, .int p4), (5, .int p5)] → W p l e (rmL 1) s m args below meth c H86 locs86 0 0 Qz (F0 m 158 ls []) := by
                              intro n86
                              induction n86 with
                              | zero => intro H86 locs86 v85 z85 ls hm86 ev85 iv86_0 hC86 hS86 hKp86 hl; exact absurd hm86 (Nat.not_lt_zero _)
                              | succ n86 ih86 =>
                                intro H86 locs86 v85 z85 ls hm86 ev85 iv86_0 hC86 hS86 hKp86 hl
                                refine lv_iload hx hb dX12_pour_158 (lv_at hl 0 rfl) ?_
                                refine lv_iload hx hb dX12_pour_160 (lv_at hl 7 rfl) ?_
                                refine q_icmp_ge hx hb (a := z85) (b := a5) ev85 e5 (tgt := 219) dX12_pour_162 rfl (fun c87 => ?_) (fun c87 => ?_)
                                · refine lv_iconst (v := 1) hx hb dX12_pour_219 rfl ?_
                                  exact ret 1 H86 locs86 _ _ dX12_pour_220 (Or.inr rfl) ⟨hKp86, Or.inr rfl⟩ hC86 hS86
                                · refine lv_iload hx hb dX12_pour_165 (lv_at hl 1 rfl) ?_
                                  refine q_if_eq hx hb (a := 1) (by decide) (tgt := 180) dX12_pour_167 rfl (fun c88 => absurd c88 (by omega)) (fun c88 => ?_)
                                  refine lv_iload hx hb dX12_pour_170 (lv_at hl 7 rfl) ?_
                                  refine lv_iconst (v := 1) hx hb dX12_pour_172 rfl ?_
                                  refine lv_isub hx hb dX12_pour_173 (lv_topi (fun v89 ev89 => ?_))
                                  have ev89i : v89.toInt = (a5 - 1) := i_sub ev89 e5 (by decide) (by omega) (by omega)
                                  refine lv_iload hx hb dX12_pour_174 (lv_at hl 0 rfl) ?_
                                  refine lv_isub hx hb dX12_pour_176 (lv_topi (fun v90 ev90 => ?_))
                                  have ev90i : v90.toInt = ((a5 - 1) - z85) := i_sub ev90 ev89i ev85 (by omega) (by omega)
                                  refine lv_goto (tgt := 182) hx hb dX12_pour_177 rfl ?_
                                  refine lv_istore hx hb dX12_pour_182 hl (by decide) rfl (fun ls hl => ?_)
                                  have hl : lv_has ls 9 [(8, .int v90), (7, .int v85), (6, .int 1), (0, .ref h0), (1, .int p1), (2, .int p2), (3, .int p3), (4, .int p4), (5, .int p5)] := hl
                                  refine lv_aload_n hx hb dX12_pour_184 rfl (lv_at hl 3 rfl) ?_
                                  refine q_getR E hC86 g0 fa_RX12_20 dX12_pour_185 (fun q91 eq91 gq91 => ?_)
                                  refine lv_bipush (v := 60) hx hb dX12_pour_188 rfl ?_
                                  refine lv_iload_n hx hb dX12_pour_190 rfl (lv_at hl 6 rfl) ?_
                                  refine lv_imul hx hb dX12_pour_191 (lv_topi (fun v92 ev92 => ?_))
                                  have ev92i : v92.toInt = (60 * a3) := i_mul ev92 (by decide) e3 (by omega) (by omega)
                                  refine lv_iload hx hb dX12_pour_192 (lv_at hl 7 rfl) ?_
                                  refine lv_iadd hx hb dX12_pour_194 (lv_topi (fun v93 ev93 => ?_))
                                  have ev93i : v93.toInt = ((60 * a3) + a4) := i_add ev93 ev92i e4 (by omega) (by omega)
                                  refine lv_iload hx hb dX12_pour_195 (lv_at hl 0 rfl) ?_
                                  refine lv_iadd hx hb dX12_pour_197 (lv_topi (fun v94 ev94 => ?_))
                                  have ev94i : v94.toInt = (((60 * a3) + a4) + ((a5 - 1) - z85)) := i_add ev94 ev93i ev90i (by omega) (by omega)
                                  refine lv_aload_n hx hb dX12_pour_198 rfl (lv_at hl 3 rfl) ?_
                                  refine q_getR E hC86 g0 fa_RX12_20 dX12_pour_199 (fun q95 eq95 gq95 => ?_)
                                  refine lv_bipush (v := 60) hx hb dX12_pour_202 rfl ?_
                                  refine lv_iload_n hx hb dX12_pour_204 rfl (lv_at hl 4 rfl) ?_
                                  refine lv_imul hx hb dX12_pour_205 (lv_topi (fun v96 ev96 => ?_))
                                  have ev96i : v96.toInt = (60 * a1) := i_mul ev96 (by decide) e1 (by omega) (by omega)
                                  refine lv_iload_n hx hb dX12_pour_206 rfl (lv_at hl 5 rfl) ?_
                                  refine lv_iadd hx hb dX12_pour_207 (lv_topi (fun v97 ev97 => ?_))
                                  have ev97i : v97.toInt = ((60 * a1) + a2) := i_add ev97 ev96i e2 (by omega) (by omega)
                                  refine lv_iload hx hb dX12_pour_208 (lv_at hl 0 rfl) ?_
                                  refine lv_iadd hx hb dX12_pour_210 (lv_topi (fun v98 ev98 => ?_))
                                  have ev98i : v98.toInt = (((60 * a1) + a2) + ((a5 - 1) - z85)) := i_add ev98 ev97i ev90i (by omega) (by omega)
                                  refine q_lald E hC86 gq95 rfl rfl (fun _ => rfl) (i_in (a := (((60 * a1) + a2) + ((a5 - 1) - z85))) ev98i (by omega) (by omega)) dX12_pour_211 (fun v99 ev99 => ?_)
                                  refine q_last E hC86 hS86 gq91 (by decide) rfl rfl (fun _ => rfl) (i_in (a := (((60 * a3) + a4) + ((a5 - 1) - z85))) ev94i (by omega) (by omega)) dX12_pour_212 (fun H100 locs100 hC100 hS100 U100 => ?_)
                                  have hKp100 := Kp.upA gq91 rfl (by decide) rfl U100 hKp86
                                  obtain ⟨v101, ev101⟩ : ∃ z, z = v85 + Int32.ofInt 1 := ⟨_, rfl⟩
                                  have ev101i : v101.toInt = (z85 + 1) := i_add ev101 ev85 (by decide) (by omega) (by omega)
                                  refine lv_iinc hx hb dX12_pour_213 hl (k := 1) rfl ev101.symm (by decide) rfl (fun ls hl => ?_)
                                  have hl : lv_has ls 9 [(7, .int v101), (8, .int v90), (6, .int 1), (0, .ref h0), (1, .int p1), (2, .int p2), (3, .int p3), (4, .int p4), (5, .int p5)] := hl
                                  refine lv_goto (tgt := 158) hx hb dX12_pour_216 rfl ?_
                                  exact ih86 H100 locs100 v101 ((z85 + 1)) ls (by omega) ev101i (by omega) hC100 hS100 hKp100 (lv_sub hl [0, 2, 3, 4, 5, 6, 7, 8] rfl)
                            exact L158 _ H23 locs23 0 0 ls (Nat.lt_succ_self _) (by decide) (by omega) hC23 hS23 hKp23 hl
                        · refine lv_aload_n hx hb dX12_pour_136 rfl (lv_at hl 0 rfl) ?_
                          refine lv_iconst (v := 4) hx hb dX12_pour_137 rfl ?_
                          refine q_goI (q_runV (As := [.int 4]) (rest := []) E hC23 hS23 (m_X12_no l X Γ H23 hC23 h0 g0 4 (a1 := 4) (by decide) ca gca uc) cw_X12_no cl_RX12_84 g0 ⟨rfl, rfl⟩ rfl hl.1 rfl (Nat.zero_le _) (by decide) dX12_pour_138) hS23 (fun v102 H102 locs102 hr102 hC102 hS102 => ?_)
                          obtain ⟨hp102, hr102⟩ := hr102
                          have hKp102 := hKp23.tr (hp102.mono rfl)
                          rcases hr102 with ⟨rfl, f102a⟩ | ⟨rfl, -⟩
                          · exact absurd f102a (by decide)
                          · exact ret 0 H102 locs102 _ _ dX12_pour_141 (Or.inl rfl) ⟨hKp102, Or.inl rfl⟩ hC102 hS102
                · refine lv_aload_n hx hb dX12_pour_85 rfl (lv_at hl 0 rfl) ?_
                  refine lv_bipush (v := 6) hx hb dX12_pour_86 rfl ?_
                  refine q_goI (q_runV (As := [.int 6]) (rest := []) E hC23 hS23 (m_X12_no l X Γ H23 hC23 h0 g0 6 (a1 := 6) (by decide) ca gca uc) cw_X12_no cl_RX12_84 g0 ⟨rfl, rfl⟩ rfl hl.1 rfl (Nat.zero_le _) (by decide) dX12_pour_88) hS23 (fun v103 H103 locs103 hr103 hC103 hS103 => ?_)
                  obtain ⟨hp103, hr103⟩ := hr103
                  have hKp103 := hKp23.tr (hp103.mono rfl)
                  rcases hr103 with ⟨rfl, f103a⟩ | ⟨rfl, -⟩
                  · exact absurd f103a (by decide)
                  · exact ret 0 H103 locs103 _ _ dX12_pour_91 (Or.inl rfl) ⟨hKp103, Or.inl rfl⟩ hC103 hS103
              · refine lv_aload_n hx hb dX12_pour_73 rfl (lv_at hl 0 rfl) ?_
                refine lv_bipush (v := 11) hx hb dX12_pour_74 rfl ?_
                refine q_goI (q_runV (As := [.int 11]) (rest := []) E hC23 hS23 (m_X12_no l X Γ H23 hC23 h0 g0 11 (a1 := 11) (by decide) ca gca uc) cw_X12_no cl_RX12_84 g0 ⟨rfl, rfl⟩ rfl hl.1 rfl (Nat.zero_le _) (by decide) dX12_pour_76) hS23 (fun v104 H104 locs104 hr104 hC104 hS104 => ?_)
                obtain ⟨hp104, hr104⟩ := hr104
                have hKp104 := hKp23.tr (hp104.mono rfl)
                rcases hr104 with ⟨rfl, f104a⟩ | ⟨rfl, -⟩
                · exact absurd f104a (by decide)
                · exact ret 0 H104 locs104 _ _ dX12_pour_79 (Or.inl rfl) ⟨hKp104, Or.inl rfl⟩ hC104 hS104
            · refine lv_aload_n hx hb dX12_pour_52 rfl (lv_at hl 0 rfl) ?_
              refine lv_iconst (v := 3) hx hb dX12_pour_53 rfl ?_
              refine q_goI (q_runV (As := [.int 3]) (rest := []) E hC23 hS23 (m_X12_no l X Γ H23 hC23 h0 g0 3 (a1 := 3) (by decide) ca gca uc) cw_X12_no cl_RX12_84 g0 ⟨rfl, rfl⟩ rfl hl.1 rfl (Nat.zero_le _) (by decide) dX12_pour_54) hS23 (fun v105 H105 locs105 hr105 hC105 hS105 => ?_)
              obtain ⟨hp105, hr105⟩ := hr105
              have hKp105 := hKp23.tr (hp105.mono rfl)
              rcases hr105 with ⟨rfl, f105a⟩ | ⟨rfl, -⟩
              · exact absurd f105a (by decide)
              · exact ret 0 H105 locs105 _ _ dX12_pour_57 (Or.inl rfl) ⟨hKp105, Or.inl rfl⟩ hC105 hS105
        · refine lv_aload_n hx hb dX12_pour_28 rfl (lv_at hl 0 rfl) ?_
          refine lv_iconst (v := 1) hx hb dX12_pour_29 rfl ?_
          refine q_goI (q_runV (As := [.int 1]) (rest := []) E hC23 hS23 (m_X12_no l X Γ H23 hC23 h0 g0 1 (a1 := 1) (by decide) ca gca uc) cw_X12_no cl_RX12_84 g0 ⟨rfl, rfl⟩ rfl hl.1 rfl (Nat.zero_le _) (by decide) dX12_pour_30) hS23 (fun v106 H106 locs106 hr106 hC106 hS106 => ?_)
          obtain ⟨hp106, hr106⟩ := hr106
          have hKp106 := hKp23.tr (hp106.mono rfl)
          rcases hr106 with ⟨rfl, f106a⟩ | ⟨rfl, -⟩
          · exact absurd f106a (by decide)
          · exact ret 0 H106 locs106 _ _ dX12_pour_33 (Or.inl rfl) ⟨hKp106, Or.inl rfl⟩ hC106 hS106
set_option maxRecDepth 100000 in
set_option maxHeartbeats 4000000 in
theorem m_X12_lay (l : Launch) (X : xW) (Γ : Nat → Option Nat) (H0 : Heap) (hC0 : Conf X Γ H0) (h0 : Nat) (g0 : Γ h0 = some 11) (p1 : Int32) {a1 : Int} (e1 : p1.toInt = a1) (ca : Nat) (gca : Γ ca = some 64) (uc : ∀ a, Γ a = some 64 → a = ca) (r0 : (sI H0 h0 (X.1.2 11 8)).toInt ≤ 896) : Ctr l X Γ yX12_lay cX12_lay 3 none 0 [.ref h0, .int p1] H0 (QV X Γ (fun H1 => Kp X Γ [1, 6, 8, 9, 10, 11, 12, 14, 15, 16, 17] H0 H1 ∧ (((sI H1 h0 (X.1.2 11 8)).toInt = (sI H0 h0 (X.1.2 11 8)).toInt + 4)))) := by
  refine q_enterV (own := "SnowFortsModel") (by decide) rfl (Nat.le_of_ble_eq_true rfl) ?_
  intro p e s m args below meth c ls Qz E hl ret hS0
  have hx := E.1; have hb := E.2.1
  have hKp0 : Kp X Γ [1, 6, 8, 9, 10, 11, 12, 14, 15, 16, 17] H0 H0 := Kp.rf
  have hl : lv_has ls 3 [(0, .ref h0), (1, .int p1)] := hl
  refine lv_iconst (v := 3) hx hb dX12_lay_0 rfl ?_
  refine lv_istore_n hx hb dX12_lay_1 rfl hl (by decide) rfl (fun ls hl => ?_)
  have hl : lv_has ls 3 [(2, .int 3), (0, .ref h0), (1, .int p1)] := hl
  have L2 : ∀ (n22 : Nat) (H22 : Heap) (locs22 : List Loc) (v21 : Int32) (z21 : Int) (ls : Array Slot), (z21 + 1).toNat < n22 → v21.toInt = z21 → -1 ≤ z21 → z21 ≤ 3 → (sI H22 h0 (X.1.2 11 8)).toInt = (sI H0 h0 (X.1.2 11 8)).toInt + 3 - z21 → Conf X Γ H22 → va_S (AΓ Γ) H0 H22 locs22 → Kp X Γ [1, 6, 8, 9, 10, 11, 12, 14, 15, 16, 17] H0 H22 → lv_has ls 3 [(2, .int v21), (0, .ref h0), (1, .int p1)] → W p l e (rmL 0) s m args below meth c H22 locs22 0 0 Qz (F0 m 2 ls []) := by
    intro n22
    induction n22 with
    | zero => intro H22 locs22 v21 z21 ls hm22 ev21 iv22_0 iv22_1 iv22_2 hC22 hS22 hKp22 hl; exact absurd hm22 (Nat.not_lt_zero _)
    | succ n22 ih22 =>
      intro H22 locs22 v21 z21 ls hm22 ev21 iv22_0 iv22_1 iv22_2 hC22 hS22 hKp22 hl
      refine lv_iload_n hx hb dX12_lay_2 rfl (lv_at hl 0 rfl) ?_
      refine q_if_lt hx hb (a := z21) ev21 (tgt := 38) dX12_lay_3 rfl (fun c23 => ?_) (fun c23 => ?_)
      · exact ret H22 locs22 _ _ dX12_lay_38 ⟨hKp22, by omega⟩ hC22 hS22
      · refine lv_aload_n hx hb dX12_lay_6 rfl (lv_at hl 1 rfl) ?_
        refine q_getR E hC22 g0 fa_RX12_24 dX12_lay_7 (fun q24 eq24 gq24 => ?_)
        refine lv_aload_n hx hb dX12_lay_10 rfl (lv_at hl 1 rfl) ?_
        refine q_getI E hC22 g0 fa_RX12_234 dX12_lay_11 (fun v25 ev25 lv25 uv25 => ?_)
        have m26 : (sI H22 h0 (X.1.2 11 8)).toInt = v25.toInt := (congrArg Int32.toInt ev25).trans rfl
        refine lv_iload_n hx hb dX12_lay_14 rfl (lv_at hl 2 rfl) ?_
        refine lv_bipush (v := 8) hx hb dX12_lay_15 rfl ?_
        refine lv_iload_n hx hb dX12_lay_17 rfl (lv_at hl 0 rfl) ?_
        refine lv_imul hx hb dX12_lay_18 (lv_topi (fun v27 ev27 => ?_))
        have ev27i : v27.toInt = (8 * z21) := i_mul ev27 (by decide) ev21 (by omega) (by omega)
        refine lv_ishr hx hb dX12_lay_19 (lv_topi (fun v28 ev28 => ?_))
        refine lv_i2b hx hb dX12_lay_20 rfl (lv_topi (fun v29 ev29 => ?_))
        refine q_bast E hC22 hS22 gq24 (by decide) rfl rfl (fun _ => rfl) (i_in (a := v25.toInt) rfl (by omega) (by omega)) dX12_lay_21 (fun H30 locs30 hC30 hS30 U30 => ?_)
        have hKp30 := Kp.upA gq24 rfl (by decide) rfl U30 hKp22
        have m31 : (sI H30 h0 (X.1.2 11 8)).toInt = (sI H22 h0 (X.1.2 11 8)).toInt := congrArg Int32.toInt (up_nI U30 (ne_k g0 gq24 (by decide)))
        refine lv_aload_n hx hb dX12_lay_22 rfl (lv_at hl 1 rfl) ?_
        refine lv_dup hx hb dX12_lay_23 rfl ?_
        have e33 := (up_nI U30 (ne_k g0 gq24 (by decide))).trans ev25
        refine q_getI E hC30 g0 fa_RX12_234 dX12_lay_24 (fun v32 ev32 lv32 uv32 => ?_)
        have qv32 := e33.symm.trans ev32; subst qv32
        have m34 : (sI H30 h0 (X.1.2 11 8)).toInt = v25.toInt := (congrArg Int32.toInt ev32).trans rfl
        refine lv_iconst (v := 1) hx hb dX12_lay_27 rfl ?_
        refine lv_iadd hx hb dX12_lay_28 (lv_topi (fun v35 ev35 => ?_))
        have ev35i : v35.toInt = (v25.toInt + 1) := i_add ev35 rfl (by decide) (by omega) (by omega)
        refine q_put E hC30 hS30 g0 fp_RX12_234 (tv_I ev35i (by omega) (by omega)) rfl rfl dX12_lay_29 (fun H36 locs36 hC36 hS36 U36 => ?_)
        have hKp36 := Kp.upO E g0 fp_RX12_234 rfl U36 hKp30
        have e37 := up_I U36
        have m38 : (sI H36 h0 (X.1.2 11 8)).toInt = (v25.toInt + 1) := (congrArg Int32.toInt e37).trans ev35i
        obtain ⟨v39, ev39⟩ : ∃ z, z = v21 + Int32.ofInt (-1) := ⟨_, rfl⟩
        have ev39i : v39.toInt = (z21 + (-1)) := i_add ev39 ev21 (by decide) (by omega) (by omega)
        refine lv_iinc hx hb dX12_lay_32 hl (k := 0) rfl ev39.symm (by decide) rfl (fun ls hl => ?_)
        have hl : lv_has ls 3 [(2, .int v39), (0, .ref h0), (1, .int p1)] := hl
        refine lv_goto (tgt := 2) hx hb dX12_lay_35 rfl ?_
        exact ih22 H36 locs36 v39 ((z21 + (-1))) ls (by omega) ev39i (by omega) (by omega) (by omega) hC36 hS36 hKp36 hl
  exact L2 _ H0 [] 3 3 ls (Nat.lt_succ_self _) (by decide) (by omega) (by omega) (by omega) hC0 hS0 hKp0 hl
