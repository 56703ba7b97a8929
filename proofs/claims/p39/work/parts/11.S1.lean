set_option maxRecDepth 100000 in
set_option maxHeartbeats 4000000 in
theorem m_X10_takePart (l : Launch) (X : xW) (Γ : Nat → Option Nat) (H0 : Heap) (hC0 : Conf X Γ H0) (h0 : Nat) (g0 : Γ h0 = some 3) (h1 : Nat) (g1 : Γ h1 = some 5) : Ctr l X Γ yX10_takePart cX10_takePart 2 (some .boolean) 5 [.ref h0, .ref h1] H0 (QI X Γ (fun v H1 => Kp X Γ [0, 2, 3, 4, 5, 18, 21, 23, 25, 27] H0 H1 ∧ (v = 0 ∨ v = 1))) := by
  refine q_enterZ (own := "SnowForts$YardText") (by decide) rfl (Nat.le_of_ble_eq_true rfl) ?_
  intro p e s m args below meth c ls Qz E hl ret hS0
  have hx := E.1; have hb := E.2.1
  have hKp0 : Kp X Γ [0, 2, 3, 4, 5, 18, 21, 23, 25, 27] H0 H0 := Kp.rf
  have hl : lv_has ls 2 [(0, .ref h0), (1, .ref h1)] := hl
  refine lv_aload_n hx hb dX10_takePart_0 rfl (lv_at hl 0 rfl) ?_
  refine q_getR E hC0 g0 fa_RX10_21 dX10_takePart_1 (fun q21 eq21 gq21 => ?_)
  refine q_getQ E hC0 gq21 fa_RX10_101 dX10_takePart_4 (fun q22 eq22 gq22 => ?_)
  refine q_word E hS0 (i := 2) (by decide) w_648 dX10_takePart_7 (fun q23 gq23 => ?_)
  refine lv_acmp_ne (rx := q22) (ry := (some q23)) (tgt := 19) hx hb dX10_takePart_10 rfl (fun c24 => ?_) (fun c24 => ?_)
  · refine lv_aload_n hx hb dX10_takePart_19 rfl (lv_at hl 0 rfl) ?_
    refine q_getR E hC0 g0 fa_RX10_21 dX10_takePart_20 (fun q25 eq25 gq25 => ?_)
    refine q_getQ E hC0 gq25 fa_RX10_101 dX10_takePart_23 (fun q26 eq26 gq26 => ?_)
    refine q_word E hS0 (i := 4) (by decide) w_663 dX10_takePart_26 (fun q27 gq27 => ?_)
    refine lv_acmp_ne (rx := q26) (ry := (some q27)) (tgt := 51) hx hb dX10_takePart_29 rfl (fun c28 => ?_) (fun c28 => ?_)
    · refine lv_aload_n hx hb dX10_takePart_51 rfl (lv_at hl 0 rfl) ?_
      refine q_getR E hC0 g0 fa_RX10_21 dX10_takePart_52 (fun q29 eq29 gq29 => ?_)
      refine q_getQ E hC0 gq29 fa_RX10_101 dX10_takePart_55 (fun q30 eq30 gq30 => ?_)
      refine q_word E hS0 (i := 6) (by decide) w_671 dX10_takePart_58 (fun q31 gq31 => ?_)
      refine lv_acmp_ne (rx := q30) (ry := (some q31)) (tgt := 83) hx hb dX10_takePart_61 rfl (fun c32 => ?_) (fun c32 => ?_)
      · refine lv_aload_n hx hb dX10_takePart_83 rfl (lv_at hl 0 rfl) ?_
        refine q_getR E hC0 g0 fa_RX10_21 dX10_takePart_84 (fun q33 eq33 gq33 => ?_)
        refine q_getQ E hC0 gq33 fa_RX10_101 dX10_takePart_87 (fun q34 eq34 gq34 => ?_)
        refine q_word E hS0 (i := 8) (by decide) w_675 dX10_takePart_90 (fun q35 gq35 => ?_)
        refine lv_acmp_ne (rx := q34) (ry := (some q35)) (tgt := 115) hx hb dX10_takePart_93 rfl (fun c36 => ?_) (fun c36 => ?_)
        · refine lv_aload_n hx hb dX10_takePart_115 rfl (lv_at hl 0 rfl) ?_
          refine q_getR E hC0 g0 fa_RX10_21 dX10_takePart_116 (fun q37 eq37 gq37 => ?_)
          refine q_word E hS0 (i := 10) (by decide) w_679 dX10_takePart_119 (fun q38 gq38 => ?_)
          refine q_goI (q_runV (As := [va_rf (some q38)]) (rest := []) E hC0 hS0 (m_X4_take l X Γ H0 hC0 q37 gq37 (some q38) (fun _ h => by cases h; exact gq38)) cw_X4_take cl_RX10_75 gq37 ⟨rfl, rfl⟩ rfl hl.1 rfl (Nat.zero_le _) (by decide) dX10_takePart_122) hS0 (fun v39 H39 locs39 hr39 hC39 hS39 => ?_)
          obtain ⟨hp39, hr39⟩ := hr39
          have hKp39 := hKp0.tr (hp39.mono rfl)
          rcases hr39 with rfl | rfl
          · refine q_if_eq hx hb (a := 0) (by decide) (tgt := 140) dX10_takePart_125 rfl (fun c40 => ?_) (fun c40 => absurd c40 (by omega))
            refine lv_iconst (v := 0) hx hb dX10_takePart_140 rfl ?_
            exact ret 0 H39 locs39 _ _ dX10_takePart_141 (Or.inl rfl) ⟨hKp39, Or.inl rfl⟩ hC39 hS39
          · refine q_if_eq hx hb (a := 1) (by decide) (tgt := 140) dX10_takePart_125 rfl (fun c41 => absurd c41 (by omega)) (fun c41 => ?_)
            refine lv_aload_n hx hb dX10_takePart_128 rfl (lv_at hl 0 rfl) ?_
            refine lv_aload_n hx hb dX10_takePart_129 rfl (lv_at hl 1 rfl) ?_
            refine q_goI (q_runV (As := [.ref h1]) (rest := []) E hC39 hS39 (m_X10_takeArticle l X Γ H39 hC39 h0 g0 h1 g1) cw_X10_takeArticle cl_RX10_141 g0 ⟨rfl, rfl⟩ rfl hl.1 rfl (Nat.zero_le _) (by decide) dX10_takePart_130) hS39 (fun v42 H42 locs42 hr42 hC42 hS42 => ?_)
            obtain ⟨hp42, hr42⟩ := hr42
            have hKp42 := hKp39.tr (hp42.mono rfl)
            rcases hr42 with rfl | rfl
            · refine q_if_eq hx hb (a := 0) (by decide) (tgt := 140) dX10_takePart_133 rfl (fun c43 => ?_) (fun c43 => absurd c43 (by omega))
              refine lv_iconst (v := 0) hx hb dX10_takePart_140 rfl ?_
              exact ret 0 H42 locs42 _ _ dX10_takePart_141 (Or.inl rfl) ⟨hKp42, Or.inl rfl⟩ hC42 hS42
            · refine q_if_eq hx hb (a := 1) (by decide) (tgt := 140) dX10_takePart_133 rfl (fun c44 => absurd c44 (by omega)) (fun c44 => ?_)
              refine lv_iconst (v := 1) hx hb dX10_takePart_136 rfl ?_
              refine lv_goto (tgt := 141) hx hb dX10_takePart_137 rfl ?_
              exact ret 1 H42 locs42 _ _ dX10_takePart_141 (Or.inr rfl) ⟨hKp42, Or.inr rfl⟩ hC42 hS42
        · refine lv_aload_n hx hb dX10_takePart_96 rfl (lv_at hl 0 rfl) ?_
          refine lv_aload_n hx hb dX10_takePart_97 rfl (lv_at hl 1 rfl) ?_
          refine lv_aload_n hx hb dX10_takePart_98 rfl (lv_at hl 1 rfl) ?_
          refine q_getR E hC0 g1 fa_RX10_132 dX10_takePart_99 (fun q45 eq45 gq45 => ?_)
          refine lv_aload_n hx hb dX10_takePart_102 rfl (lv_at hl 0 rfl) ?_
          refine q_getR E hC0 g0 fa_RX10_18 dX10_takePart_103 (fun q46 eq46 gq46 => ?_)
          refine q_word E hS0 (i := 9) (by decide) w_677 dX10_takePart_106 (fun q47 gq47 => ?_)
          refine lv_bipush (v := 9) hx hb dX10_takePart_109 rfl ?_
          refine q_goI (q_runV (As := [.ref h1, .ref q45, .ref q46, va_rf (some q47), .int 9]) (rest := []) E hC0 hS0 (m_X10_takeHeap l X Γ H0 hC0 h0 g0 h1 g1 q45 gq45 q46 gq46 (some q47) (fun _ h => by cases h; exact gq47) 9 (a5 := 9) (by decide)) cw_X10_takeHeap cl_RX10_119 g0 ⟨rfl, rfl⟩ rfl hl.1 rfl (Nat.zero_le _) (by decide) dX10_takePart_111) hS0 (fun v48 H48 locs48 hr48 hC48 hS48 => ?_)
          obtain ⟨hp48, hr48⟩ := hr48
          have hKp48 := hKp0.tr (hp48.mono rfl)
          rcases hr48 with rfl | rfl
          · exact ret 0 H48 locs48 _ _ dX10_takePart_114 (Or.inl rfl) ⟨hKp48, Or.inl rfl⟩ hC48 hS48
          · exact ret 1 H48 locs48 _ _ dX10_takePart_114 (Or.inr rfl) ⟨hKp48, Or.inr rfl⟩ hC48 hS48
      · refine lv_aload_n hx hb dX10_takePart_64 rfl (lv_at hl 0 rfl) ?_
        refine lv_aload_n hx hb dX10_takePart_65 rfl (lv_at hl 1 rfl) ?_
        refine lv_aload_n hx hb dX10_takePart_66 rfl (lv_at hl 1 rfl) ?_
        refine q_getR E hC0 g1 fa_RX10_57 dX10_takePart_67 (fun q49 eq49 gq49 => ?_)
        refine lv_aload_n hx hb dX10_takePart_70 rfl (lv_at hl 0 rfl) ?_
        refine q_getR E hC0 g0 fa_RX10_15 dX10_takePart_71 (fun q50 eq50 gq50 => ?_)
        refine q_word E hS0 (i := 7) (by decide) w_673 dX10_takePart_74 (fun q51 gq51 => ?_)
        refine lv_bipush (v := 99) hx hb dX10_takePart_77 rfl ?_
        refine q_goI (q_runV (As := [.ref h1, .ref q49, .ref q50, va_rf (some q51), .int 99]) (rest := []) E hC0 hS0 (m_X10_takeHeap l X Γ H0 hC0 h0 g0 h1 g1 q49 gq49 q50 gq50 (some q51) (fun _ h => by cases h; exact gq51) 99 (a5 := 99) (by decide)) cw_X10_takeHeap cl_RX10_119 g0 ⟨rfl, rfl⟩ rfl hl.1 rfl (Nat.zero_le _) (by decide) dX10_takePart_79) hS0 (fun v52 H52 locs52 hr52 hC52 hS52 => ?_)
        obtain ⟨hp52, hr52⟩ := hr52
        have hKp52 := hKp0.tr (hp52.mono rfl)
        rcases hr52 with rfl | rfl
        · exact ret 0 H52 locs52 _ _ dX10_takePart_82 (Or.inl rfl) ⟨hKp52, Or.inl rfl⟩ hC52 hS52
        · exact ret 1 H52 locs52 _ _ dX10_takePart_82 (Or.inr rfl) ⟨hKp52, Or.inr rfl⟩ hC52 hS52
    · refine lv_aload_n hx hb dX10_takePart_32 rfl (lv_at hl 0 rfl) ?_
      refine lv_aload_n hx hb dX10_takePart_33 rfl (lv_at hl 1 rfl) ?_
      refine lv_aload_n hx hb dX10_takePart_34 rfl (lv_at hl 1 rfl) ?_
      refine q_getR E hC0 g1 fa_RX10_113 dX10_takePart_35 (fun q53 eq53 gq53 => ?_)
      refine lv_aload_n hx hb dX10_takePart_38 rfl (lv_at hl 0 rfl) ?_
      refine q_getR E hC0 g0 fa_RX10_9 dX10_takePart_39 (fun q54 eq54 gq54 => ?_)
      refine q_word E hS0 (i := 5) (by decide) w_665 dX10_takePart_42 (fun q55 gq55 => ?_)
      refine lv_bipush (v := 99) hx hb dX10_takePart_45 rfl ?_
      refine q_goI (q_runV (As := [.ref h1, .ref q53, .ref q54, va_rf (some q55), .int 99]) (rest := []) E hC0 hS0 (m_X10_takeHeap l X Γ H0 hC0 h0 g0 h1 g1 q53 gq53 q54 gq54 (some q55) (fun _ h => by cases h; exact gq55) 99 (a5 := 99) (by decide)) cw_X10_takeHeap cl_RX10_119 g0 ⟨rfl, rfl⟩ rfl hl.1 rfl (Nat.zero_le _) (by decide) dX10_takePart_47) hS0 (fun v56 H56 locs56 hr56 hC56 hS56 => ?_)
      obtain ⟨hp56, hr56⟩ := hr56
      have hKp56 := hKp0.tr (hp56.mono rfl)
      rcases hr56 with rfl | rfl
      · exact ret 0 H56 locs56 _ _ dX10_takePart_50 (Or.inl rfl) ⟨hKp56, Or.inl rfl⟩ hC56 hS56
      · exact ret 1 H56 locs56 _ _ dX10_takePart_50 (Or.inr rfl) ⟨hKp56, Or.inr rfl⟩ hC56 hS56
  · refine lv_aload_n hx hb dX10_takePart_13 rfl (lv_at hl 0 rfl) ?_
    refine lv_aload_n hx hb dX10_takePart_14 rfl (lv_at hl 1 rfl) ?_
    refine q_goI (q_runV (As := [.ref h1]) (rest := []) E hC0 hS0 (m_X10_takeSchool l X Γ H0 hC0 h0 g0 h1 g1) cw_X10_takeSchool cl_RX10_107 g0 ⟨rfl, rfl⟩ rfl hl.1 rfl (Nat.zero_le _) (by decide) dX10_takePart_15) hS0 (fun v57 H57 locs57 hr57 hC57 hS57 => ?_)
    obtain ⟨hp57, hr57⟩ := hr57
    have hKp57 := hKp0.tr (hp57.mono rfl)
    rcases hr57 with rfl | rfl
    · exact ret 0 H57 locs57 _ _ dX10_takePart_18 (Or.inl rfl) ⟨hKp57, Or.inl rfl⟩ hC57 hS57
    · exact ret 1 H57 locs57 _ _ dX10_takePart_18 (Or.inr rfl) ⟨hKp57, Or.inr rfl⟩ hC57 hS57
set_option maxRecDepth 100000 in
set_option maxHeartbeats 4000000 in
theorem m_X10_parse (l : Launch) (X : xW) (Γ : Nat → Option Nat) (H0 : Heap) (hC0 : Conf X Γ H0) (h0 : Nat) (g0 : Γ h0 = some 3) (p1 : Int32) {a1 : Int} (e1 : p1.toInt = a1) (h2 : Nat) (g2 : Γ h2 = some 5) : Ctr l X Γ yX10_parse cX10_parse 4 (some .boolean) 6 [.ref h0, .int p1, .ref h2] H0 (QI X Γ (fun v H1 => Kp X Γ [0, 2, 3, 4, 5, 18, 21, 23, 25, 27] H0 H1 ∧ (v = 0 ∨ v = 1))) := by
  refine q_enterZ (own := "SnowForts$YardText") (by decide) rfl (Nat.le_of_ble_eq_true rfl) ?_
  intro p e s m args below meth c ls Qz E hl ret hS0
  have hx := E.1; have hb := E.2.1
  have hKp0 : Kp X Γ [0, 2, 3, 4, 5, 18, 21, 23, 25, 27] H0 H0 := Kp.rf
  have hl : lv_has ls 4 [(0, .ref h0), (1, .int p1), (2, .ref h2)] := hl
  refine lv_aload_n hx hb dX10_parse_0 rfl (lv_at hl 2 rfl) ?_
  refine q_goV (q_runV (As := []) (rest := []) E hC0 hS0 (m_X9_clear l X Γ H0 hC0 h2 g2) cw_X9_clear cl_RX10_25 g2 ⟨rfl, rfl⟩ rfl hl.1 rfl (Nat.zero_le _) (by decide) dX10_parse_1) hS0 (fun H21 locs21 hr21 hC21 hS21 => ?_)
  have hKp21 := hKp0.tr (hr21.mono rfl)
  refine lv_aload_n hx hb dX10_parse_4 rfl (lv_at hl 0 rfl) ?_
  refine q_getR E hC21 g0 fa_RX10_9 dX10_parse_5 (fun q22 eq22 gq22 => ?_)
  refine lv_iconst (v := 0) hx hb dX10_parse_8 rfl ?_
  refine q_goV (q_runS (As := [.ref q22, .int 0]) (rest := []) E hS21 (m_fillI l X Γ H21 hC21 q22 gq22 (by decide) rfl rfl (fun _ => rfl) (by decide) 0) cw_J7_fill_53178 cl_RX10_30 rfl hl.1 rfl (Nat.zero_le _) (by decide) dX10_parse_9) hS21 (fun H23 locs23 U23 hC23 hS23 => ?_)
  obtain ⟨U23, F23⟩ := U23
  have hKp23 := Kp.upC gq22 rfl (by decide) rfl U23 hKp21
  refine lv_aload_n hx hb dX10_parse_12 rfl (lv_at hl 0 rfl) ?_
  refine q_getR E hC23 g0 fa_RX10_15 dX10_parse_13 (fun q24 eq24 gq24 => ?_)
  refine lv_iconst (v := 0) hx hb dX10_parse_16 rfl ?_
  refine q_goV (q_runS (As := [.ref q24, .int 0]) (rest := []) E hS23 (m_fillI l X Γ H23 hC23 q24 gq24 (by decide) rfl rfl (fun _ => rfl) (by decide) 0) cw_J7_fill_53178 cl_RX10_30 rfl hl.1 rfl (Nat.zero_le _) (by decide) dX10_parse_17) hS23 (fun H25 locs25 U25 hC25 hS25 => ?_)
  obtain ⟨U25, F25⟩ := U25
  have hKp25 := Kp.upC gq24 rfl (by decide) rfl U25 hKp23
  refine lv_aload_n hx hb dX10_parse_20 rfl (lv_at hl 0 rfl) ?_
  refine q_getR E hC25 g0 fa_RX10_18 dX10_parse_21 (fun q26 eq26 gq26 => ?_)
  refine lv_iconst (v := 0) hx hb dX10_parse_24 rfl ?_
  refine q_goV (q_runS (As := [.ref q26, .int 0]) (rest := []) E hS25 (m_fillI l X Γ H25 hC25 q26 gq26 (by decide) rfl rfl (fun _ => rfl) (by decide) 0) cw_J7_fill_53178 cl_RX10_30 rfl hl.1 rfl (Nat.zero_le _) (by decide) dX10_parse_25) hS25 (fun H27 locs27 U27 hC27 hS27 => ?_)
  obtain ⟨U27, F27⟩ := U27
  have hKp27 := Kp.upC gq26 rfl (by decide) rfl U27 hKp25
  refine lv_aload_n hx hb dX10_parse_28 rfl (lv_at hl 0 rfl) ?_
  refine q_getR E hC27 g0 fa_RX10_21 dX10_parse_29 (fun q28 eq28 gq28 => ?_)
  refine lv_iload_n hx hb dX10_parse_32 rfl (lv_at hl 1 rfl) ?_
  refine q_goV (q_runV (As := [.int p1]) (rest := []) E hC27 hS27 (m_X4_start l X Γ H27 hC27 q28 gq28 p1 (a1 := a1) e1) cw_X4_start cl_RX10_36 gq28 ⟨rfl, rfl⟩ rfl hl.1 rfl (Nat.zero_le _) (by decide) dX10_parse_33) hS27 (fun H29 locs29 hr29 hC29 hS29 => ?_)
  have hKp29 := hKp27.tr (hr29.mono rfl)
  refine lv_aload_n hx hb dX10_parse_36 rfl (lv_at hl 0 rfl) ?_
  refine lv_aload_n hx hb dX10_parse_37 rfl (lv_at hl 2 rfl) ?_
  refine q_goI (q_runV (As := [.ref h2]) (rest := []) E hC29 hS29 (m_X10_takeSize l X Γ H29 hC29 h0 g0 h2 g2) cw_X10_takeSize cl_RX10_42 g0 ⟨rfl, rfl⟩ rfl hl.1 rfl (Nat.zero_le _) (by decide) dX10_parse_38) hS29 (fun v30 H30 locs30 hr30 hC30 hS30 => ?_)
  obtain ⟨hp30, hr30⟩ := hr30
  have hKp30 := hKp29.tr (hp30.mono rfl)
  rcases hr30 with rfl | rfl
  · refine q_if_ne hx hb (a := 0) (by decide) (tgt := 46) dX10_parse_41 rfl (fun c31 => absurd c31 (by omega)) (fun c31 => ?_)
    refine lv_iconst (v := 0) hx hb dX10_parse_44 rfl ?_
    exact ret 0 H30 locs30 _ _ dX10_parse_45 (Or.inl rfl) ⟨hKp30, Or.inl rfl⟩ hC30 hS30
  · refine q_if_ne hx hb (a := 1) (by decide) (tgt := 46) dX10_parse_41 rfl (fun c32 => ?_) (fun c32 => absurd c32 (by omega))
    refine lv_iconst (v := 0) hx hb dX10_parse_46 rfl ?_
    refine lv_istore_n hx hb dX10_parse_47 rfl hl (by decide) rfl (fun ls hl => ?_)
    replace hl : lv_has ls 4 [(3, .int 0), (0, .ref h0), (1, .int p1), (2, .ref h2)] := hl
    have L48 : ∀ (n34 : Nat) (H34 : Heap) (locs34 : List Loc) (v33 : Int32) (z33 : Int) (ls : Array Slot), (900 - z33).toNat < n34 → v33.toInt = z33 → z33 ≤ 900 → 0 ≤ z33 → Conf X Γ H34 → va_S (AΓ Γ) H0 H34 locs34 → Kp X Γ [0, 2, 3, 4, 5, 18, 21, 23, 25, 27] H0 H34 → lv_has ls 4 [(3, .int v33), (0, .ref h0), (1, .int p1), (2, .ref h2)] → W p l e (rmL 6) s m args below meth c H34 locs34 0 0 Qz (F0 m 48 ls []) := by
      intro n34
      induction n34 with
      | zero => intro H34 locs34 v33 z33 ls hm34 ev33 iv34_0 iv34_1 hC34 hS34 hKp34 hl; exact absurd hm34 (Nat.not_lt_zero _)
      | succ n34 ih34 =>
        intro H34 locs34 v33 z33 ls hm34 ev33 iv34_0 iv34_1 hC34 hS34 hKp34 hl
        refine lv_iload_n hx hb dX10_parse_48 rfl (lv_at hl 0 rfl) ?_
        refine lv_sipush (v := 900) hx hb dX10_parse_49 rfl ?_
        refine q_icmp_ge hx hb (a := z33) (b := 900) ev33 (by decide) (tgt := 93) dX10_parse_52 rfl (fun c35 => ?_) (fun c35 => ?_)
        · refine lv_aload_n hx hb dX10_parse_93 rfl (lv_at hl 3 rfl) ?_
          refine q_getR E hC34 g2 fa_RX10_57 dX10_parse_94 (fun q36 eq36 gq36 => ?_)
          refine lv_iconst (v := 0) hx hb dX10_parse_97 rfl ?_
          refine lv_aload_n hx hb dX10_parse_98 rfl (lv_at hl 3 rfl) ?_
          refine q_getR E hC34 g2 fa_RX10_60 dX10_parse_99 (fun q37 eq37 gq37 => ?_)
          refine lv_iconst (v := 0) hx hb dX10_parse_102 rfl ?_
          refine lv_bipush (v := 36) hx hb dX10_parse_103 rfl ?_
          refine q_copyI E hl.1 w_703 arrw hC34 hS34 gq36 gq37 (by decide) rfl rfl rfl rfl (fun _ => rfl) (fun _ => rfl) (a := 0) (b := 0) (d := 36) (show (0 : Int32).toInt = 0 from by decide) (show (0 : Int32).toInt = 0 from by decide) (show (36 : Int32).toInt = 36 from by decide) (by omega) (by omega) (by omega) (by omega) (by omega) (by decide) (Nat.zero_le _) dX10_parse_105 (fun H38 locs38 hC38 hS38 U38 => ?_)
          obtain ⟨U38, C38⟩ := U38
          have hKp38 := Kp.upC gq37 rfl (by decide) rfl U38 hKp34
          refine lv_iconst (v := 1) hx hb dX10_parse_108 rfl ?_
          exact ret 1 H38 locs38 _ _ dX10_parse_109 (Or.inr rfl) ⟨hKp38, Or.inr rfl⟩ hC38 hS38
        · refine lv_aload_n hx hb dX10_parse_55 rfl (lv_at hl 1 rfl) ?_
          refine q_getR E hC34 g0 fa_RX10_21 dX10_parse_56 (fun q39 eq39 gq39 => ?_)
          refine q_getI E hC34 gq39 fa_RX10_46 dX10_parse_59 (fun v40 ev40 _ _ => ?_)
          refine q_if_eq hx hb (a := v40.toInt) rfl (tgt := 93) dX10_parse_62 rfl (fun c41 => ?_) (fun c41 => ?_)
          · refine lv_aload_n hx hb dX10_parse_93 rfl (lv_at hl 3 rfl) ?_
            refine q_getR E hC34 g2 fa_RX10_57 dX10_parse_94 (fun q42 eq42 gq42 => ?_)
            refine lv_iconst (v := 0) hx hb dX10_parse_97 rfl ?_
            refine lv_aload_n hx hb dX10_parse_98 rfl (lv_at hl 3 rfl) ?_
            refine q_getR E hC34 g2 fa_RX10_60 dX10_parse_99 (fun q43 eq43 gq43 => ?_)
            refine lv_iconst (v := 0) hx hb dX10_parse_102 rfl ?_
            refine lv_bipush (v := 36) hx hb dX10_parse_103 rfl ?_
            refine q_copyI E hl.1 w_703 arrw hC34 hS34 gq42 gq43 (by decide) rfl rfl rfl rfl (fun _ => rfl) (fun _ => rfl) (a := 0) (b := 0) (d := 36) (show (0 : Int32).toInt = 0 from by decide) (show (0 : Int32).toInt = 0 from by decide) (show (36 : Int32).toInt = 36 from by decide) (by omega) (by omega) (by omega) (by omega) (by omega) (by decide) (Nat.zero_le _) dX10_parse_105 (fun H44 locs44 hC44 hS44 U44 => ?_)
            obtain ⟨U44, C44⟩ := U44
            have hKp44 := Kp.upC gq43 rfl (by decide) rfl U44 hKp34
            refine lv_iconst (v := 1) hx hb dX10_parse_108 rfl ?_
            exact ret 1 H44 locs44 _ _ dX10_parse_109 (Or.inr rfl) ⟨hKp44, Or.inr rfl⟩ hC44 hS44
          · refine lv_aload_n hx hb dX10_parse_65 rfl (lv_at hl 1 rfl) ?_
            refine lv_aload_n hx hb dX10_parse_66 rfl (lv_at hl 3 rfl) ?_
            refine q_goI (q_runV (As := [.ref h2]) (rest := []) E hC34 hS34 (m_X10_takePart l X Γ H34 hC34 h0 g0 h2 g2) cw_X10_takePart cl_RX10_50 g0 ⟨rfl, rfl⟩ rfl hl.1 rfl (Nat.zero_le _) (by decide) dX10_parse_67) hS34 (fun v45 H45 locs45 hr45 hC45 hS45 => ?_)
            obtain ⟨hp45, hr45⟩ := hr45
            have hKp45 := hKp34.tr (hp45.mono rfl)
            rcases hr45 with rfl | rfl
            · refine q_if_eq hx hb (a := 0) (by decide) (tgt := 85) dX10_parse_70 rfl (fun c46 => ?_) (fun c46 => absurd c46 (by omega))
              refine lv_iconst (v := 0) hx hb dX10_parse_85 rfl ?_
              exact ret 0 H45 locs45 _ _ dX10_parse_86 (Or.inl rfl) ⟨hKp45, Or.inl rfl⟩ hC45 hS45
            · refine q_if_eq hx hb (a := 1) (by decide) (tgt := 85) dX10_parse_70 rfl (fun c47 => absurd c47 (by omega)) (fun c47 => ?_)
              refine lv_aload_n hx hb dX10_parse_73 rfl (lv_at hl 1 rfl) ?_
              refine q_getR E hC45 g0 fa_RX10_21 dX10_parse_74 (fun q48 eq48 gq48 => ?_)
              refine lv_bipush (v := 59) hx hb dX10_parse_77 rfl ?_
              refine q_goI (q_runV (As := [.int 59]) (rest := []) E hC45 hS45 (m_X4_takeSign l X Γ H45 hC45 q48 gq48 59 (a1 := 59) (by decide)) cw_X4_takeSign cl_RX10_53 gq48 ⟨rfl, rfl⟩ rfl hl.1 rfl (Nat.zero_le _) (by decide) dX10_parse_79) hS45 (fun v49 H49 locs49 hr49 hC49 hS49 => ?_)
              obtain ⟨hp49, hr49⟩ := hr49
              have hKp49 := hKp45.tr (hp49.mono rfl)
              rcases hr49 with rfl | rfl
              · refine q_if_ne hx hb (a := 0) (by decide) (tgt := 87) dX10_parse_82 rfl (fun c50 => absurd c50 (by omega)) (fun c50 => ?_)
                refine lv_iconst (v := 0) hx hb dX10_parse_85 rfl ?_
                exact ret 0 H49 locs49 _ _ dX10_parse_86 (Or.inl rfl) ⟨hKp49, Or.inl rfl⟩ hC49 hS49
              · refine q_if_ne hx hb (a := 1) (by decide) (tgt := 87) dX10_parse_82 rfl (fun c51 => ?_) (fun c51 => absurd c51 (by omega))
                obtain ⟨v52, ev52⟩ : ∃ z, z = v33 + Int32.ofInt 1 := ⟨_, rfl⟩
                have ev52i : v52.toInt = (z33 + 1) := i_add ev52 ev33 (by decide) (by omega) (by omega)
                refine lv_iinc hx hb dX10_parse_87 hl (k := 0) rfl ev52.symm (by decide) rfl (fun ls hl => ?_)
                replace hl : lv_has ls 4 [(3, .int v52), (0, .ref h0), (1, .int p1), (2, .ref h2)] := hl
                refine lv_goto (tgt := 48) hx hb dX10_parse_90 rfl ?_
                exact ih34 H49 locs49 v52 ((z33 + 1)) ls (by omega) ev52i (by omega) (by omega) hC49 hS49 hKp49 hl
    exact L48 _ H30 locs30 0 0 ls (Nat.lt_succ_self _) (by decide) (by omega) (by omega) hC30 hS30 hKp30 hl
set_option maxRecDepth 100000 in
set_option maxHeartbeats 4000000 in
theorem m_X2_clear (l : Launch) (X : xW) (Γ : Nat → Option Nat) (H0 : Heap) (hC0 : Conf X Γ H0) (h0 : Nat) (g0 : Γ h0 = some 6) : Ctr l X Γ yX2_clear cX2_clear 1 none 0 [.ref h0] H0 (QV X Γ (fun H1 => Kp X Γ [0, 2, 3, 4, 5, 18, 21, 23, 25, 27] H0 H1)) := by
  refine q_enterV (own := "SnowForts$Orders") (by decide) rfl (Nat.le_of_ble_eq_true rfl) ?_
  intro p e s m args below meth c ls Qz E hl ret hS0
  have hx := E.1; have hb := E.2.1
  have hKp0 : Kp X Γ [0, 2, 3, 4, 5, 18, 21, 23, 25, 27] H0 H0 := Kp.rf
  have hl : lv_has ls 1 [(0, .ref h0)] := hl
  refine lv_aload_n hx hb dX2_clear_0 rfl (lv_at hl 0 rfl) ?_
  refine lv_iconst (v := 0) hx hb dX2_clear_1 rfl ?_
  refine q_put E hC0 hS0 g0 fp_RX2_28 (tv_I (show (0 : Int32).toInt = 0 from by decide) (by omega) (by omega)) (z_of (z01 (show (0 : Int32).toInt = 0 from by decide) (by omega) (by omega))) (fit_B (z01 (show (0 : Int32).toInt = 0 from by decide) (by omega) (by omega))) dX2_clear_2 (fun H21 locs21 hC21 hS21 U21 => ?_)
  have hKp21 := Kp.upO E g0 fp_RX2_28 rfl U21 hKp0
  have e22 := up_I U21
  refine lv_aload_n hx hb dX2_clear_5 rfl (lv_at hl 0 rfl) ?_
  refine lv_iconst (v := 0) hx hb dX2_clear_6 rfl ?_
  refine q_put E hC21 hS21 g0 fp_RX2_32 tv_F rfl rfl dX2_clear_7 (fun H23 locs23 hC23 hS23 U23 => ?_)
  have hKp23 := Kp.upO E g0 fp_RX2_32 rfl U23 hKp21
  have e24 := up_I U23
  refine lv_aload_n hx hb dX2_clear_10 rfl (lv_at hl 0 rfl) ?_
  refine lv_iconst (v := 0) hx hb dX2_clear_11 rfl ?_
  refine q_put E hC23 hS23 g0 fp_RX2_36 tv_F rfl rfl dX2_clear_12 (fun H25 locs25 hC25 hS25 U25 => ?_)
  have hKp25 := Kp.upO E g0 fp_RX2_36 rfl U25 hKp23
  have e26 := up_I U25
  exact ret H25 locs25 _ _ dX2_clear_15 hKp25 hC25 hS25
set_option maxRecDepth 100000 in
set_option maxHeartbeats 4000000 in
theorem m_X11_answer (l : Launch) (X : xW) (Γ : Nat → Option Nat) (H0 : Heap) (hC0 : Conf X Γ H0) (h0 : Nat) (g0 : Γ h0 = some 0) (p1 : Int32) {a1 : Int} (e1 : p1.toInt = a1) : Ctr l X Γ yX11_answer cX11_answer 2 (some .int) 0 [.ref h0, .int p1] H0 (QI X Γ (fun v H1 => Kp X Γ [0, 2, 3, 4, 5, 18, 21, 23, 25, 27] H0 H1 ∧ ((v.toInt = a1)))) := by
  refine q_enterI (own := "SnowForts") (by decide) rfl (Nat.le_of_ble_eq_true rfl) ?_
  intro p e s m args below meth c ls Qz E hl ret hS0
  have hx := E.1; have hb := E.2.1
  have hKp0 : Kp X Γ [0, 2, 3, 4, 5, 18, 21, 23, 25, 27] H0 H0 := Kp.rf
  have hl : lv_has ls 2 [(0, .ref h0), (1, .int p1)] := hl
  refine lv_aload_n hx hb dX11_answer_0 rfl (lv_at hl 0 rfl) ?_
  refine lv_iconst (v := 0) hx hb dX11_answer_1 rfl ?_
  refine q_put E hC0 hS0 g0 fp_RX11_102 tv_F rfl rfl dX11_answer_2 (fun H21 locs21 hC21 hS21 U21 => ?_)
  have hKp21 := Kp.upO E g0 fp_RX11_102 rfl U21 hKp0
  have e22 := up_I U21
  refine lv_iload_n hx hb dX11_answer_5 rfl (lv_at hl 1 rfl) ?_
  have c23 : p1.toInt = a1 := e1
  exact ret p1 H21 locs21 _ _ dX11_answer_6 ⟨hKp21, by omega⟩ hC21 hS21
set_option maxRecDepth 100000 in
set_option maxHeartbeats 4000000 in
theorem m_X11_yard (l : Launch) (X : xW) (Γ : Nat → Option Nat) (H0 : Heap) (hC0 : Conf X Γ H0) (h0 : Nat) (g0 : Γ h0 = some 0) (p1 : Int32) {a1 : Int} (e1 : p1.toInt = a1) (ra : Nat) (gra : Γ ra = some 2) (ur : ∀ a, Γ a = some 2 → a = ra) : Ctr l X Γ yX11_yard cX11_yard 4 (some .int) 7 [.ref h0, .int p1] H0 (QI X Γ (fun v H1 => Kp X Γ [0, 2, 4, 5, 18, 21, 23, 25, 27] H0 H1 ∧ ((((a1 < 0 ∨ (sI H0 ra (X.1.2 4 1)).toInt < a1) ∧ (sI H1 ra (X.1.2 4 1)).toInt = (sI H0 ra (X.1.2 4 1)).toInt) ∨ (0 ≤ a1 ∧ a1 ≤ (sI H0 ra (X.1.2 4 1)).toInt ∧ (sI H1 ra (X.1.2 4 1)).toInt = 0))))) := by
  refine q_enterI (own := "SnowForts") (by decide) rfl (Nat.le_of_ble_eq_true rfl) ?_
  intro p e s m args below meth c ls Qz E hl ret hS0
  have hx := E.1; have hb := E.2.1
  have hKp0 : Kp X Γ [0, 2, 4, 5, 18, 21, 23, 25, 27] H0 H0 := Kp.rf
  have hl : lv_has ls 4 [(0, .ref h0), (1, .int p1)] := hl
  have rf : (sI H0 ra (X.1.2 4 1)).toInt = (sI H0 ra (X.1.2 4 1)).toInt := rfl
  refine lv_iload_n hx hb dX11_yard_0 rfl (lv_at hl 1 rfl) ?_
  refine lv_i2l (v := p1.toInt64) hx hb dX11_yard_1 rfl (lv_topl (fun v21 ev21 => ?_))
  have ev21i : v21.toInt = a1 := l_ofi ev21.symm e1
  refine lv_iconst (v := 0) hx hb dX11_yard_2 rfl ?_
  refine lv_aload_n hx hb dX11_yard_3 rfl (lv_at hl 0 rfl) ?_
  refine q_getU E hC0 g0 fa_RX11_19 ur dX11_yard_4 ?_
  refine q_getI E hC0 gra fa_RX11_171 dX11_yard_7 (fun v22 ev22 lv22 uv22 => ?_)
  have m23 : (sI H0 ra (X.1.2 4 1)).toInt = v22.toInt := congrArg Int32.toInt ev22
  refine q_goIp (q_runS (As := [.long v21, .int 0, .int v22]) (rest := []) E hS0 (m_X11_isWithin l X Γ H0 hC0 v21 (a0 := a1) ev21i 0 (a1 := 0) (by decide) v22 (a2 := v22.toInt) rfl) cw_X11_isWithin cl_RX11_113 rfl hl.1 rfl (Nat.zero_le _) (by decide) dX11_yard_10) hS0 (fun v24 locs24 hr24 hS24 => ?_)
  rcases hr24 with ⟨rfl, f24a0, f24a1⟩ | ⟨rfl, f24b⟩
  · refine q_if_ne hx hb (a := 1) (by decide) (tgt := 22) dX11_yard_13 rfl (fun c25 => ?_) (fun c25 => absurd c25 (by omega))
    refine lv_aload_n hx hb dX11_yard_22 rfl (lv_at hl 0 rfl) ?_
    refine q_getR E hC0 g0 fa_RX11_28 dX11_yard_23 (fun q26 eq26 gq26 => ?_)
    refine lv_iload_n hx hb dX11_yard_26 rfl (lv_at hl 1 rfl) ?_
    refine lv_aload_n hx hb dX11_yard_27 rfl (lv_at hl 0 rfl) ?_
    refine q_getR E hC0 g0 fa_RX11_46 dX11_yard_28 (fun q27 eq27 gq27 => ?_)
    refine q_goI (q_runV (As := [.int p1, .ref q27]) (rest := []) E hC0 hS24 (m_X10_parse l X Γ H0 hC0 q26 gq26 p1 (a1 := a1) e1 q27 gq27) cw_X10_parse cl_RX11_178 gq26 ⟨rfl, rfl⟩ rfl hl.1 rfl (Nat.zero_le _) (by decide) dX11_yard_31) hS24 (fun v28 H28 locs28 hr28 hC28 hS28 => ?_)
    obtain ⟨hp28, hr28⟩ := hr28
    have hKp28 := hKp0.tr (hp28.mono rfl)
    have rf : (sI H28 ra (X.1.2 4 1)).toInt = (sI H0 ra (X.1.2 4 1)).toInt := (congrArg Int32.toInt (kp_I hp28 gra (k := 1) rfl (by decide) rfl)).trans rf
    rcases hr28 with rfl | rfl
    · refine lv_istore_n hx hb dX11_yard_34 rfl hl (by decide) rfl (fun ls hl => ?_)
      replace hl : lv_has ls 4 [(2, .int 0), (0, .ref h0), (1, .int p1)] := hl
      refine lv_aload_n hx hb dX11_yard_35 rfl (lv_at hl 1 rfl) ?_
      refine q_getU E hC28 g0 fa_RX11_19 ur dX11_yard_36 ?_
      refine lv_iconst (v := 0) hx hb dX11_yard_39 rfl ?_
      refine q_put E hC28 hS28 gra fp_RX11_171 (tv_I (show (0 : Int32).toInt = 0 from by decide) (by omega) (by omega)) rfl rfl dX11_yard_40 (fun H29 locs29 hC29 hS29 U29 => ?_)
      have hKp29 := Kp.upO E gra fp_RX11_171 rfl U29 hKp28
      have e30 := up_I U29
      have rz : (sI H29 ra (X.1.2 4 1)).toInt = 0 := congrArg Int32.toInt (up_I U29)
      refine lv_iload_n hx hb dX11_yard_43 rfl (lv_at hl 0 rfl) ?_
      refine q_if_ne hx hb (a := 0) (by decide) (tgt := 54) dX11_yard_44 rfl (fun c31 => absurd c31 (by omega)) (fun c31 => ?_)
      refine lv_aload_n hx hb dX11_yard_47 rfl (lv_at hl 1 rfl) ?_
      refine lv_bipush (v := 10) hx hb dX11_yard_48 rfl ?_
      refine q_goI (q_runV (As := [.int 10]) (rest := []) E hC29 hS29 (m_X11_refuse l X Γ H29 hC29 h0 g0 10 (a1 := 10) (by decide)) cw_X11_refuse cl_RX11_146 g0 ⟨rfl, rfl⟩ rfl hl.1 rfl (Nat.zero_le _) (by decide) dX11_yard_50) hS29 (fun v32 H32 locs32 hr32 hC32 hS32 => ?_)
      obtain ⟨hp32, hr32⟩ := hr32
      have hKp32 := hKp29.tr (hp32.mono rfl)
      have rz : (sI H32 ra (X.1.2 4 1)).toInt = 0 := (congrArg Int32.toInt (kp_I hp32 gra (k := 1) rfl (by decide) rfl)).trans rz
      have f32_0 := hr32
      have c33 : v32.toInt = v32.toInt := rfl
      exact ret v32 H32 locs32 _ _ dX11_yard_53 ⟨hKp32, by omega⟩ hC32 hS32
    · refine lv_istore_n hx hb dX11_yard_34 rfl hl (by decide) rfl (fun ls hl => ?_)
      replace hl : lv_has ls 4 [(2, .int 1), (0, .ref h0), (1, .int p1)] := hl
      refine lv_aload_n hx hb dX11_yard_35 rfl (lv_at hl 1 rfl) ?_
      refine q_getU E hC28 g0 fa_RX11_19 ur dX11_yard_36 ?_
      refine lv_iconst (v := 0) hx hb dX11_yard_39 rfl ?_
      refine q_put E hC28 hS28 gra fp_RX11_171 (tv_I (show (0 : Int32).toInt = 0 from by decide) (by omega) (by omega)) rfl rfl dX11_yard_40 (fun H34 locs34 hC34 hS34 U34 => ?_)
      have hKp34 := Kp.upO E gra fp_RX11_171 rfl U34 hKp28
      have e35 := up_I U34
      have rz : (sI H34 ra (X.1.2 4 1)).toInt = 0 := congrArg Int32.toInt (up_I U34)
      refine lv_iload_n hx hb dX11_yard_43 rfl (lv_at hl 0 rfl) ?_
      refine q_if_ne hx hb (a := 1) (by decide) (tgt := 54) dX11_yard_44 rfl (fun c36 => ?_) (fun c36 => absurd c36 (by omega))
      refine lv_aload_n hx hb dX11_yard_54 rfl (lv_at hl 1 rfl) ?_
      refine q_getR E hC34 g0 fa_RX11_42 dX11_yard_55 (fun q37 eq37 gq37 => ?_)
      refine lv_astore_n hx hb dX11_yard_58 rfl hl (by decide) rfl (fun ls hl => ?_)
      replace hl : lv_has ls 4 [(3, .ref q37), (2, .int 1), (0, .ref h0), (1, .int p1)] := hl
      refine lv_aload_n hx hb dX11_yard_59 rfl (lv_at hl 2 rfl) ?_
      refine lv_aload_n hx hb dX11_yard_60 rfl (lv_at hl 2 rfl) ?_
      refine q_getR E hC34 g0 fa_RX11_46 dX11_yard_61 (fun q38 eq38 gq38 => ?_)
      refine q_put E hC34 hS34 g0 fp_RX11_42 (tv_R gq38) rfl rfl dX11_yard_64 (fun H39 locs39 hC39 hS39 U39 => ?_)
      have hKp39 := Kp.upO E g0 fp_RX11_42 rfl U39 hKp34
      have rz : (sI H39 ra (X.1.2 4 1)).toInt = 0 := (congrArg Int32.toInt (up_nI U39 (ne_k gra g0 (by decide)))).trans rz
      refine lv_aload_n hx hb dX11_yard_67 rfl (lv_at hl 2 rfl) ?_
      refine lv_aload_n hx hb dX11_yard_68 rfl (lv_at hl 0 rfl) ?_
      refine q_put E hC39 hS39 g0 fp_RX11_46 (tv_R gq37) rfl rfl dX11_yard_69 (fun H40 locs40 hC40 hS40 U40 => ?_)
      have hKp40 := Kp.upO E g0 fp_RX11_46 rfl U40 hKp39
      have rz : (sI H40 ra (X.1.2 4 1)).toInt = 0 := (congrArg Int32.toInt (up_nI U40 (ne_k gra g0 (by decide)))).trans rz
      refine lv_aload_n hx hb dX11_yard_72 rfl (lv_at hl 2 rfl) ?_
      refine q_getR E hC40 g0 fa_RX11_52 dX11_yard_73 (fun q41 eq41 gq41 => ?_)
      refine q_goV (q_runV (As := []) (rest := []) E hC40 hS40 (m_X2_clear l X Γ H40 hC40 q41 gq41) cw_X2_clear cl_RX11_182 gq41 ⟨rfl, rfl⟩ rfl hl.1 rfl (Nat.zero_le _) (by decide) dX11_yard_76) hS40 (fun H42 locs42 hr42 hC42 hS42 => ?_)
      have hKp42 := hKp40.tr (hr42.mono rfl)
      have rz : (sI H42 ra (X.1.2 4 1)).toInt = 0 := (congrArg Int32.toInt (kp_I hr42 gra (k := 1) rfl (by decide) rfl)).trans rz
      refine lv_aload_n hx hb dX11_yard_79 rfl (lv_at hl 2 rfl) ?_
      refine lv_aload_n hx hb dX11_yard_80 rfl (lv_at hl 2 rfl) ?_
      refine q_getR E hC42 g0 fa_RX11_42 dX11_yard_81 (fun q43 eq43 gq43 => ?_)
      refine q_getI E hC42 gq43 fa_RX11_185 dX11_yard_84 (fun v44 ev44 _ _ => ?_)
      refine lv_aload_n hx hb dX11_yard_87 rfl (lv_at hl 2 rfl) ?_
      refine q_getR E hC42 g0 fa_RX11_42 dX11_yard_88 (fun q45 eq45 gq45 => ?_)
      refine q_getI E hC42 gq45 fa_RX11_188 dX11_yard_91 (fun v46 ev46 _ _ => ?_)
      refine lv_imul hx hb dX11_yard_94 (lv_topi (fun v47 ev47 => ?_))
      refine q_goI (q_runV (As := [.int v47]) (rest := []) E hC42 hS42 (m_X11_answer l X Γ H42 hC42 h0 g0 v47 (a1 := v47.toInt) rfl) cw_X11_answer cl_RX11_191 g0 ⟨rfl, rfl⟩ rfl hl.1 rfl (Nat.zero_le _) (by decide) dX11_yard_95) hS42 (fun v48 H48 locs48 hr48 hC48 hS48 => ?_)
      obtain ⟨hp48, hr48⟩ := hr48
      have hKp48 := hKp42.tr (hp48.mono rfl)
      have rz : (sI H48 ra (X.1.2 4 1)).toInt = 0 := (congrArg Int32.toInt (kp_I hp48 gra (k := 1) rfl (by decide) rfl)).trans rz
      have f48_0 := hr48
      have c49 : v48.toInt = v48.toInt := rfl
      exact ret v48 H48 locs48 _ _ dX11_yard_98 ⟨hKp48, by omega⟩ hC48 hS48
  · refine q_if_ne hx hb (a := 0) (by decide) (tgt := 22) dX11_yard_13 rfl (fun c50 => absurd c50 (by omega)) (fun c50 => ?_)
    refine lv_aload_n hx hb dX11_yard_16 rfl (lv_at hl 0 rfl) ?_
    refine lv_iconst (v := 5) hx hb dX11_yard_17 rfl ?_
    refine q_goI (q_runV (As := [.int 5]) (rest := []) E hC0 hS24 (m_X11_refuse l X Γ H0 hC0 h0 g0 5 (a1 := 5) (by decide)) cw_X11_refuse cl_RX11_146 g0 ⟨rfl, rfl⟩ rfl hl.1 rfl (Nat.zero_le _) (by decide) dX11_yard_18) hS24 (fun v51 H51 locs51 hr51 hC51 hS51 => ?_)
    obtain ⟨hp51, hr51⟩ := hr51
    have hKp51 := hKp0.tr (hp51.mono rfl)
    have rf : (sI H51 ra (X.1.2 4 1)).toInt = (sI H0 ra (X.1.2 4 1)).toInt := (congrArg Int32.toInt (kp_I hp51 gra (k := 1) rfl (by decide) rfl)).trans rf
    have f51_0 := hr51
    have c52 : v51.toInt = v51.toInt := rfl
    exact ret v51 H51 locs51 _ _ dX11_yard_21 ⟨hKp51, by omega⟩ hC51 hS51
set_option maxRecDepth 100000 in
set_option maxHeartbeats 4000000 in
theorem m_X2_isItem (l : Launch) (X : xW) (Γ : Nat → Option Nat) (H0 : Heap) (hC0 : Conf X Γ H0) (p0 : Int32) {a0 : Int} (e0 : p0.toInt = a0) : Ctr l X Γ yX2_isItem cX2_isItem 1 (some .boolean) 0 [.int p0] H0 (QI X Γ (fun v H1 => H1 = H0 ∧ ((v = 1 ∧ (0 ≤ a0 ∧ a0 ≤ 59)) ∨ (v = 0 ∧ (True))))) := by
  refine q_enterZ (own := "SnowForts$Orders") (by decide) rfl (Nat.le_of_ble_eq_true rfl) ?_
  intro p e s m args below meth c ls Qz E hl ret hS0
  have hx := E.1; have hb := E.2.1
  have hl : lv_has ls 1 [(0, .int p0)] := hl
  refine lv_iload_n hx hb dX2_isItem_0 rfl (lv_at hl 0 rfl) ?_
  refine q_if_lt hx hb (a := a0) e0 (tgt := 14) dX2_isItem_1 rfl (fun c21 => ?_) (fun c21 => ?_)
  · refine lv_iconst (v := 0) hx hb dX2_isItem_14 rfl ?_
    exact ret 0 H0 [] _ _ dX2_isItem_15 (Or.inl rfl) ⟨rfl, Or.inr ⟨rfl, trivial⟩⟩ hC0 hS0
  · refine lv_iload_n hx hb dX2_isItem_4 rfl (lv_at hl 0 rfl) ?_
    refine lv_bipush (v := 60) hx hb dX2_isItem_5 rfl ?_
    refine q_icmp_ge hx hb (a := a0) (b := 60) e0 (by decide) (tgt := 14) dX2_isItem_7 rfl (fun c22 => ?_) (fun c22 => ?_)
    · refine lv_iconst (v := 0) hx hb dX2_isItem_14 rfl ?_
      exact ret 0 H0 [] _ _ dX2_isItem_15 (Or.inl rfl) ⟨rfl, Or.inr ⟨rfl, trivial⟩⟩ hC0 hS0
    · refine lv_iconst (v := 1) hx hb dX2_isItem_10 rfl ?_
      refine lv_goto (tgt := 15) hx hb dX2_isItem_11 rfl ?_
      exact ret 1 H0 [] _ _ dX2_isItem_15 (Or.inr rfl) ⟨rfl, Or.inl ⟨rfl, by omega, by omega⟩⟩ hC0 hS0
set_option maxRecDepth 100000 in
set_option maxHeartbeats 4000000 in
theorem m_X3_takeEnd (l : Launch) (X : xW) (Γ : Nat → Option Nat) (H0 : Heap) (hC0 : Conf X Γ H0) (h0 : Nat) (g0 : Γ h0 = some 4) (h1 : Nat) (g1 : Γ h1 = some 6) : Ctr l X Γ yX3_takeEnd cX3_takeEnd 4 (some .boolean) 2 [.ref h0, .ref h1] H0 (QI X Γ (fun v H1 => Kp X Γ [0, 2, 3, 4, 5, 18, 21, 23, 25, 27] H0 H1 ∧ (v = 0 ∨ v = 1))) := by
  refine q_enterZ (own := "SnowForts$OrdersText") (by decide) rfl (Nat.le_of_ble_eq_true rfl) ?_
  intro p e s m args below meth c ls Qz E hl ret hS0
  have hx := E.1; have hb := E.2.1
  have hKp0 : Kp X Γ [0, 2, 3, 4, 5, 18, 21, 23, 25, 27] H0 H0 := Kp.rf
  have hl : lv_has ls 4 [(0, .ref h0), (1, .ref h1)] := hl
  refine lv_aload_n hx hb dX3_takeEnd_0 rfl (lv_at hl 1 rfl) ?_
  refine q_getI E hC0 g1 fa_RX3_66 dX3_takeEnd_1 (fun v21 ev21 _ _ => ?_)
  refine lv_istore_n hx hb dX3_takeEnd_4 rfl hl (by decide) rfl (fun ls hl => ?_)
  replace hl : lv_has ls 4 [(2, .int v21), (0, .ref h0), (1, .ref h1)] := hl
  refine lv_aload_n hx hb dX3_takeEnd_5 rfl (lv_at hl 1 rfl) ?_
  refine q_getI E hC0 g0 fa_RX3_24 dX3_takeEnd_6 (fun v22 ev22 _ _ => ?_)
  refine lv_i2l (v := v22.toInt64) hx hb dX3_takeEnd_9 rfl (lv_topl (fun v23 ev23 => ?_))
  have ev23i : v23.toInt = v22.toInt := l_ofi ev23.symm rfl
  refine lv_iconst (v := 1) hx hb dX3_takeEnd_10 rfl ?_
  refine lv_iconst (v := 3) hx hb dX3_takeEnd_11 rfl ?_
  refine q_goIp (q_runSN (As := [.long v23, .int 1, .int 3]) (rest := []) E hS0 (m_X11_isWithin l X Γ H0 hC0 v23 (a0 := v22.toInt) ev23i 1 (a1 := 1) (by decide) 3 (a2 := 3) (by decide)) cw_X11_isWithin cl_RX3_69 rfl hl.1 rfl (Nat.zero_le _) (by decide) dX3_takeEnd_12) hS0 (fun v24 locs24 hr24 hS24 => ?_)
  rcases hr24 with ⟨rfl, f24a0, f24a1⟩ | ⟨rfl, f24b⟩
  · refine q_if_eq hx hb (a := 1) (by decide) (tgt := 25) dX3_takeEnd_15 rfl (fun c25 => absurd c25 (by omega)) (fun c25 => ?_)
    refine lv_iload_n hx hb dX3_takeEnd_18 rfl (lv_at hl 0 rfl) ?_
    refine q_goIp (q_runS (As := [.int v21]) (rest := []) E hS24 (m_X2_isItem l X Γ H0 hC0 v21 (a0 := v21.toInt) rfl) cw_X2_isItem cl_RX3_73 rfl hl.1 rfl (Nat.zero_le _) (by decide) dX3_takeEnd_19) hS24 (fun v26 locs26 hr26 hS26 => ?_)
    rcases hr26 with ⟨rfl, f26a0, f26a1⟩ | ⟨rfl, -⟩
    · refine q_if_ne hx hb (a := 1) (by decide) (tgt := 33) dX3_takeEnd_22 rfl (fun c27 => ?_) (fun c27 => absurd c27 (by omega))
      refine lv_aload_n hx hb dX3_takeEnd_33 rfl (lv_at hl 1 rfl) ?_
      refine lv_dup hx hb dX3_takeEnd_34 rfl ?_
      refine q_getI E hC0 g0 fa_RX3_24 dX3_takeEnd_35 (fun v28 ev28 _ _ => ?_)
      have qv28 := ev22.symm.trans ev28; subst qv28
      refine lv_iconst (v := 1) hx hb dX3_takeEnd_38 rfl ?_
      refine lv_isub hx hb dX3_takeEnd_39 (lv_topi (fun v29 ev29 => ?_))
      have ev29i : v29.toInt = (v22.toInt - 1) := i_sub ev29 rfl (by decide) (by omega) (by omega)
      refine q_put E hC0 hS26 g0 fp_RX3_24 tv_F rfl rfl dX3_takeEnd_40 (fun H30 locs30 hC30 hS30 U30 => ?_)
      have hKp30 := Kp.upO E g0 fp_RX3_24 rfl U30 hKp0
      have e31 := up_I U30
      refine lv_aload_n hx hb dX3_takeEnd_43 rfl (lv_at hl 1 rfl) ?_
      refine q_getR E hC30 g0 fa_RX3_11 dX3_takeEnd_44 (fun q32 eq32 gq32 => ?_)
      refine lv_aload_n hx hb dX3_takeEnd_47 rfl (lv_at hl 1 rfl) ?_
      refine q_getI E hC30 g0 fa_RX3_24 dX3_takeEnd_48 (fun v33 ev33 _ _ => ?_)
      have qv33 := e31.symm.trans ev33; subst qv33
      refine q_iald E hC30 gq32 rfl rfl (fun _ h => h) (i_in (a := (v22.toInt - 1)) ev29i (by omega) (by omega)) dX3_takeEnd_51 (fun v34 ev34 _ _ => ?_)
      refine lv_istore_n hx hb dX3_takeEnd_52 rfl hl (by decide) rfl (fun ls hl => ?_)
      replace hl : lv_has ls 4 [(3, .int v34), (2, .int v21), (0, .ref h0), (1, .ref h1)] := hl
      refine lv_iload_n hx hb dX3_takeEnd_53 rfl (lv_at hl 0 rfl) ?_
      refine q_goIp (q_runS (As := [.int v34]) (rest := []) E hS30 (m_X2_isItem l X Γ H30 hC30 v34 (a0 := v34.toInt) rfl) cw_X2_isItem cl_RX3_73 rfl hl.1 rfl (Nat.zero_le _) (by decide) dX3_takeEnd_54) hS30 (fun v35 locs35 hr35 hS35 => ?_)
      rcases hr35 with ⟨rfl, f35a0, f35a1⟩ | ⟨rfl, -⟩
      · refine q_if_ne hx hb (a := 1) (by decide) (tgt := 68) dX3_takeEnd_57 rfl (fun c36 => ?_) (fun c36 => absurd c36 (by omega))
        refine lv_aload_n hx hb dX3_takeEnd_68 rfl (lv_at hl 3 rfl) ?_
        refine q_getR E hC30 g1 fa_RX3_76 dX3_takeEnd_69 (fun q37 eq37 gq37 => ?_)
        refine lv_iload_n hx hb dX3_takeEnd_72 rfl (lv_at hl 1 rfl) ?_
        refine lv_bipush (v := 13) hx hb dX3_takeEnd_73 rfl ?_
        refine q_iast E hC30 hS35 gq37 (by decide) rfl rfl (i_in (a := v21.toInt) rfl (by omega) (by omega)) tv_F dX3_takeEnd_75 (fun H38 locs38 hC38 hS38 U38 => ?_)
        have hKp38 := Kp.upA gq37 rfl (by decide) rfl U38 hKp30
        refine lv_aload_n hx hb dX3_takeEnd_76 rfl (lv_at hl 3 rfl) ?_
        refine q_getR E hC38 g1 fa_RX3_79 dX3_takeEnd_77 (fun q39 eq39 gq39 => ?_)
        refine lv_iload_n hx hb dX3_takeEnd_80 rfl (lv_at hl 1 rfl) ?_
        refine lv_iload_n hx hb dX3_takeEnd_81 rfl (lv_at hl 0 rfl) ?_
        refine q_iast E hC38 hS38 gq39 (by decide) rfl rfl (i_in (a := v21.toInt) rfl (by omega) (by omega)) tv_F dX3_takeEnd_82 (fun H40 locs40 hC40 hS40 U40 => ?_)
        have hKp40 := Kp.upA gq39 rfl (by decide) rfl U40 hKp38
        refine lv_aload_n hx hb dX3_takeEnd_83 rfl (lv_at hl 3 rfl) ?_
        refine q_getR E hC40 g1 fa_RX3_79 dX3_takeEnd_84 (fun q41 eq41 gq41 => ?_)
        refine lv_iload_n hx hb dX3_takeEnd_87 rfl (lv_at hl 0 rfl) ?_
        refine lv_iload_n hx hb dX3_takeEnd_88 rfl (lv_at hl 1 rfl) ?_
        refine q_iast E hC40 hS40 gq41 (by decide) rfl rfl (i_in (a := v34.toInt) rfl (by omega) (by omega)) tv_F dX3_takeEnd_89 (fun H42 locs42 hC42 hS42 U42 => ?_)
        have hKp42 := Kp.upA gq41 rfl (by decide) rfl U42 hKp40
        refine lv_aload_n hx hb dX3_takeEnd_90 rfl (lv_at hl 3 rfl) ?_
        refine lv_dup hx hb dX3_takeEnd_91 rfl ?_
        have e44 := (up_nI U30 (ne_k g1 g0 (by decide))).trans ev21
        have e45 := (up_nI U38 (ne_k g1 gq37 (by decide))).trans e44
        have e46 := (up_nI U40 (ne_k g1 gq39 (by decide))).trans e45
        have e47 := (up_nI U42 (ne_k g1 gq41 (by decide))).trans e46
        refine q_getI E hC42 g1 fa_RX3_66 dX3_takeEnd_92 (fun v43 ev43 _ _ => ?_)
        have qv43 := e47.symm.trans ev43; subst qv43
        refine lv_iconst (v := 1) hx hb dX3_takeEnd_95 rfl ?_
        refine lv_iadd hx hb dX3_takeEnd_96 (lv_topi (fun v48 ev48 => ?_))
        have ev48i : v48.toInt = (v21.toInt + 1) := i_add ev48 rfl (by decide) (by omega) (by omega)
        refine q_put E hC42 hS42 g1 fp_RX3_66 tv_F rfl rfl dX3_takeEnd_97 (fun H49 locs49 hC49 hS49 U49 => ?_)
        have hKp49 := Kp.upO E g1 fp_RX3_66 rfl U49 hKp42
        have e50 := up_I U49
        refine lv_aload_n hx hb dX3_takeEnd_100 rfl (lv_at hl 2 rfl) ?_
        refine q_getR E hC49 g0 fa_RX3_15 dX3_takeEnd_101 (fun q51 eq51 gq51 => ?_)
        refine q_goV (q_runV (As := []) (rest := []) E hC49 hS49 (m_X4_advance l X Γ H49 hC49 q51 gq51) cw_X4_advance cl_RX3_82 gq51 ⟨rfl, rfl⟩ rfl hl.1 rfl (Nat.zero_le _) (by decide) dX3_takeEnd_104) hS49 (fun H52 locs52 hr52 hC52 hS52 => ?_)
        have hKp52 := hKp49.tr (hr52.mono rfl)
        refine lv_iconst (v := 1) hx hb dX3_takeEnd_107 rfl ?_
        exact ret 1 H52 locs52 _ _ dX3_takeEnd_108 (Or.inr rfl) ⟨hKp52, Or.inr rfl⟩ hC52 hS52
      · refine q_if_ne hx hb (a := 0) (by decide) (tgt := 68) dX3_takeEnd_57 rfl (fun c53 => absurd c53 (by omega)) (fun c53 => ?_)
        refine lv_aload_n hx hb dX3_takeEnd_60 rfl (lv_at hl 2 rfl) ?_
        refine q_getR E hC30 g0 fa_RX3_15 dX3_takeEnd_61 (fun q54 eq54 gq54 => ?_)
        refine q_goI (q_runV (As := []) (rest := []) E hC30 hS35 (m_X4_misfit l X Γ H30 hC30 q54 gq54) cw_X4_misfit cl_RX3_58 gq54 ⟨rfl, rfl⟩ rfl hl.1 rfl (Nat.zero_le _) (by decide) dX3_takeEnd_64) hS35 (fun v55 H55 locs55 hr55 hC55 hS55 => ?_)
        obtain ⟨hp55, hr55⟩ := hr55
        have hKp55 := hKp30.tr (hp55.mono rfl)
        rcases hr55 with rfl | rfl
        · exact ret 0 H55 locs55 _ _ dX3_takeEnd_67 (Or.inl rfl) ⟨hKp55, Or.inl rfl⟩ hC55 hS55
        · exact ret 1 H55 locs55 _ _ dX3_takeEnd_67 (Or.inr rfl) ⟨hKp55, Or.inr rfl⟩ hC55 hS55
    · refine q_if_ne hx hb (a := 0) (by decide) (tgt := 33) dX3_takeEnd_22 rfl (fun c56 => absurd c56 (by omega)) (fun c56 => ?_)
      refine lv_aload_n hx hb dX3_takeEnd_25 rfl (lv_at hl 1 rfl) ?_
      refine q_getR E hC0 g0 fa_RX3_15 dX3_takeEnd_26 (fun q57 eq57 gq57 => ?_)
      refine q_goI (q_runV (As := []) (rest := []) E hC0 hS26 (m_X4_misfit l X Γ H0 hC0 q57 gq57) cw_X4_misfit cl_RX3_58 gq57 ⟨rfl, rfl⟩ rfl hl.1 rfl (Nat.zero_le _) (by decide) dX3_takeEnd_29) hS26 (fun v58 H58 locs58 hr58 hC58 hS58 => ?_)
      obtain ⟨hp58, hr58⟩ := hr58
      have hKp58 := hKp0.tr (hp58.mono rfl)
      rcases hr58 with rfl | rfl
      · exact ret 0 H58 locs58 _ _ dX3_takeEnd_32 (Or.inl rfl) ⟨hKp58, Or.inl rfl⟩ hC58 hS58
      · exact ret 1 H58 locs58 _ _ dX3_takeEnd_32 (Or.inr rfl) ⟨hKp58, Or.inr rfl⟩ hC58 hS58
  · refine q_if_eq hx hb (a := 0) (by decide) (tgt := 25) dX3_takeEnd_15 rfl (fun c59 => ?_) (fun c59 => absurd c59 (by omega))
    refine lv_aload_n hx hb dX3_takeEnd_25 rfl (lv_at hl 1 rfl) ?_
    refine q_getR E hC0 g0 fa_RX3_15 dX3_takeEnd_26 (fun q60 eq60 gq60 => ?_)
    refine q_goI (q_runV (As := []) (rest := []) E hC0 hS24 (m_X4_misfit l X Γ H0 hC0 q60 gq60) cw_X4_misfit cl_RX3_58 gq60 ⟨rfl, rfl⟩ rfl hl.1 rfl (Nat.zero_le _) (by decide) dX3_takeEnd_29) hS24 (fun v61 H61 locs61 hr61 hC61 hS61 => ?_)
    obtain ⟨hp61, hr61⟩ := hr61
    have hKp61 := hKp0.tr (hp61.mono rfl)
    rcases hr61 with rfl | rfl
    · exact ret 0 H61 locs61 _ _ dX3_takeEnd_32 (Or.inl rfl) ⟨hKp61, Or.inl rfl⟩ hC61 hS61
    · exact ret 1 H61 locs61 _ _ dX3_takeEnd_32 (Or.inr rfl) ⟨hKp61, Or.inr rfl⟩ hC61 hS61
set_option maxRecDepth 100000 in
set_option maxHeartbeats 4000000 in
theorem m_X3_kindOf (l : Launch) (X : xW) (Γ : Nat → Option Nat) (H0 : Heap) (hC0 : Conf X Γ H0) (o0 : Option Nat) (g0 : ∀ q, o0 = some q → Γ q = some 12) : Ctr l X Γ yX3_kindOf cX3_kindOf 1 (some .int) 0 [va_rf o0] H0 (QI X Γ (fun v H1 => H1 = H0 ∧ (True))) := by
  refine q_enterI (own := "SnowForts$OrdersText") (by decide) rfl (by cases o0 <;> exact Nat.le_of_ble_eq_true rfl) ?_
  intro p e s m args below meth c ls Qz E hl ret hS0
  have hx := E.1; have hb := E.2.1
  have hl : lv_has ls 1 [(0, va_rf o0)] := by revert hl; cases o0 <;> exact fun h => h
  refine q_alq_n (o := o0) hx hb dX3_kindOf_0 rfl (lv_at hl 0 rfl) ?_
  refine q_word E hS0 (i := 16) (by decide) w_741 dX3_kindOf_1 (fun q21 gq21 => ?_)
  refine lv_acmp_ne (rx := o0) (ry := (some q21)) (tgt := 9) hx hb dX3_kindOf_4 rfl (fun c22 => ?_) (fun c22 => ?_)
  · refine q_alq_n (o := o0) hx hb dX3_kindOf_9 rfl (lv_at hl 0 rfl) ?_
    refine q_word E hS0 (i := 17) (by decide) w_743 dX3_kindOf_10 (fun q23 gq23 => ?_)
    refine lv_acmp_ne (rx := o0) (ry := (some q23)) (tgt := 18) hx hb dX3_kindOf_13 rfl (fun c24 => ?_) (fun c24 => ?_)
    · refine q_alq_n (o := o0) hx hb dX3_kindOf_18 rfl (lv_at hl 0 rfl) ?_
      refine q_word E hS0 (i := 18) (by decide) w_745 dX3_kindOf_19 (fun q25 gq25 => ?_)
      refine lv_acmp_ne (rx := o0) (ry := (some q25)) (tgt := 27) hx hb dX3_kindOf_22 rfl (fun c26 => ?_) (fun c26 => ?_)
      · refine q_alq_n (o := o0) hx hb dX3_kindOf_27 rfl (lv_at hl 0 rfl) ?_
        refine q_word E hS0 (i := 12) (by decide) w_747 dX3_kindOf_28 (fun q27 gq27 => ?_)
        refine lv_acmp_ne (rx := o0) (ry := (some q27)) (tgt := 36) hx hb dX3_kindOf_31 rfl (fun c28 => ?_) (fun c28 => ?_)
        · refine q_alq_n (o := o0) hx hb dX3_kindOf_36 rfl (lv_at hl 0 rfl) ?_
          refine q_word E hS0 (i := 15) (by decide) w_748 dX3_kindOf_37 (fun q29 gq29 => ?_)
          refine lv_acmp_ne (rx := o0) (ry := (some q29)) (tgt := 45) hx hb dX3_kindOf_40 rfl (fun c30 => ?_) (fun c30 => ?_)
          · refine q_alq_n (o := o0) hx hb dX3_kindOf_45 rfl (lv_at hl 0 rfl) ?_
            refine q_word E hS0 (i := 14) (by decide) w_749 dX3_kindOf_46 (fun q31 gq31 => ?_)
            refine lv_acmp_ne (rx := o0) (ry := (some q31)) (tgt := 54) hx hb dX3_kindOf_49 rfl (fun c32 => ?_) (fun c32 => ?_)
            · refine q_alq_n (o := o0) hx hb dX3_kindOf_54 rfl (lv_at hl 0 rfl) ?_
              refine q_word E hS0 (i := 20) (by decide) w_750 dX3_kindOf_55 (fun q33 gq33 => ?_)
              refine lv_acmp_ne (rx := o0) (ry := (some q33)) (tgt := 64) hx hb dX3_kindOf_58 rfl (fun c34 => ?_) (fun c34 => ?_)
              · refine q_alq_n (o := o0) hx hb dX3_kindOf_64 rfl (lv_at hl 0 rfl) ?_
                refine q_word E hS0 (i := 22) (by decide) w_752 dX3_kindOf_65 (fun q35 gq35 => ?_)
                refine lv_acmp_ne (rx := o0) (ry := (some q35)) (tgt := 74) hx hb dX3_kindOf_68 rfl (fun c36 => ?_) (fun c36 => ?_)
                · refine q_alq_n (o := o0) hx hb dX3_kindOf_74 rfl (lv_at hl 0 rfl) ?_
                  refine q_word E hS0 (i := 26) (by decide) w_754 dX3_kindOf_75 (fun q37 gq37 => ?_)
                  refine lv_acmp_ne (rx := o0) (ry := (some q37)) (tgt := 84) hx hb dX3_kindOf_78 rfl (fun c38 => ?_) (fun c38 => ?_)
                  · refine q_alq_n (o := o0) hx hb dX3_kindOf_84 rfl (lv_at hl 0 rfl) ?_
                    refine q_word E hS0 (i := 28) (by decide) w_756 dX3_kindOf_85 (fun q39 gq39 => ?_)
                    refine lv_acmp_ne (rx := o0) (ry := (some q39)) (tgt := 96) hx hb dX3_kindOf_88 rfl (fun c40 => ?_) (fun c40 => ?_)
                    · refine lv_iconst (v := (-1)) hx hb dX3_kindOf_96 rfl ?_
                      exact ret (-1) H0 [] _ _ dX3_kindOf_97 ⟨rfl, trivial⟩ hC0 hS0
                    · refine lv_bipush (v := 12) hx hb dX3_kindOf_91 rfl ?_
                      refine lv_goto (tgt := 97) hx hb dX3_kindOf_93 rfl ?_
                      exact ret 12 H0 [] _ _ dX3_kindOf_97 ⟨rfl, trivial⟩ hC0 hS0
                  · refine lv_bipush (v := 11) hx hb dX3_kindOf_81 rfl ?_
                    exact ret 11 H0 [] _ _ dX3_kindOf_83 ⟨rfl, trivial⟩ hC0 hS0
                · refine lv_bipush (v := 9) hx hb dX3_kindOf_71 rfl ?_
                  exact ret 9 H0 [] _ _ dX3_kindOf_73 ⟨rfl, trivial⟩ hC0 hS0
              · refine lv_bipush (v := 6) hx hb dX3_kindOf_61 rfl ?_
                exact ret 6 H0 [] _ _ dX3_kindOf_63 ⟨rfl, trivial⟩ hC0 hS0
            · refine lv_iconst (v := 5) hx hb dX3_kindOf_52 rfl ?_
              exact ret 5 H0 [] _ _ dX3_kindOf_53 ⟨rfl, trivial⟩ hC0 hS0
          · refine lv_iconst (v := 4) hx hb dX3_kindOf_43 rfl ?_
            exact ret 4 H0 [] _ _ dX3_kindOf_44 ⟨rfl, trivial⟩ hC0 hS0
        · refine lv_iconst (v := 3) hx hb dX3_kindOf_34 rfl ?_
          exact ret 3 H0 [] _ _ dX3_kindOf_35 ⟨rfl, trivial⟩ hC0 hS0
      · refine lv_iconst (v := 2) hx hb dX3_kindOf_25 rfl ?_
        exact ret 2 H0 [] _ _ dX3_kindOf_26 ⟨rfl, trivial⟩ hC0 hS0
    · refine lv_iconst (v := 1) hx hb dX3_kindOf_16 rfl ?_
      exact ret 1 H0 [] _ _ dX3_kindOf_17 ⟨rfl, trivial⟩ hC0 hS0
  · refine lv_iconst (v := 0) hx hb dX3_kindOf_7 rfl ?_
    exact ret 0 H0 [] _ _ dX3_kindOf_8 ⟨rfl, trivial⟩ hC0 hS0
set_option maxRecDepth 100000 in
set_option maxHeartbeats 4000000 in
theorem m_X9_halfOfColumn (l : Launch) (X : xW) (Γ : Nat → Option Nat) (H0 : Heap) (hC0 : Conf X Γ H0) (h0 : Nat) (g0 : Γ h0 = some 5) (p1 : Int32) {a1 : Int} (e1 : p1.toInt = a1) : Ctr l X Γ yX9_halfOfColumn cX9_halfOfColumn 2 (some .int) 0 [.ref h0, .int p1] H0 (QI X Γ (fun v H1 => H1 = H0 ∧ ((0 ≤ v.toInt) ∧ (v.toInt ≤ 1)))) := by
  refine q_enterI (own := "SnowForts$Yard") (by decide) rfl (Nat.le_of_ble_eq_true rfl) ?_
  intro p e s m args below meth c ls Qz E hl ret hS0
  have hx := E.1; have hb := E.2.1
  have hl : lv_has ls 2 [(0, .ref h0), (1, .int p1)] := hl
  refine lv_iload_n hx hb dX9_halfOfColumn_0 rfl (lv_at hl 1 rfl) ?_
  refine lv_aload_n hx hb dX9_halfOfColumn_1 rfl (lv_at hl 0 rfl) ?_
  refine q_getI E hC0 g0 fa_RX9_9 dX9_halfOfColumn_2 (fun v21 ev21 _ _ => ?_)
  refine lv_iconst (v := 2) hx hb dX9_halfOfColumn_5 rfl ?_
  refine lv_idiv hx hb dX9_halfOfColumn_6 (by decide) (lv_topi (fun v22 ev22 => ?_))
  have c23 := i_rng p1; rw [show p1.toInt = a1 from e1] at c23
  have c24 := i_rng v22; rw [show v22.toInt = v22.toInt from rfl] at c24
  refine q_icmp_ge hx hb (a := a1) (b := v22.toInt) e1 rfl (tgt := 14) dX9_halfOfColumn_7 rfl (fun c25 => ?_) (fun c25 => ?_)
  · refine lv_iconst (v := 1) hx hb dX9_halfOfColumn_14 rfl ?_
    have c26 : (1 : Int32).toInt = 1 := (by decide)
    exact ret 1 H0 [] _ _ dX9_halfOfColumn_15 ⟨rfl, ⟨by omega, by omega⟩⟩ hC0 hS0
  · refine lv_iconst (v := 0) hx hb dX9_halfOfColumn_10 rfl ?_
    refine lv_goto (tgt := 15) hx hb dX9_halfOfColumn_11 rfl ?_
    have c27 : (0 : Int32).toInt = 0 := (by decide)
    exact ret 0 H0 [] _ _ dX9_halfOfColumn_15 ⟨rfl, ⟨by omega, by omega⟩⟩ hC0 hS0
set_option maxRecDepth 100000 in
set_option maxHeartbeats 4000000 in
theorem m_X9_isSchool (l : Launch) (X : xW) (Γ : Nat → Option Nat) (H0 : Heap) (hC0 : Conf X Γ H0) (h0 : Nat) (g0 : Γ h0 = some 5) (p1 : Int32) {a1 : Int} (e1 : p1.toInt = a1) : Ctr l X Γ yX9_isSchool cX9_isSchool 2 (some .boolean) 0 [.ref h0, .int p1] H0 (QI X Γ (fun v H1 => H1 = H0 ∧ ((v = 1 ∧ (0 ≤ a1 ∧ a1 ≤ 1)) ∨ (v = 0 ∧ (True))))) := by
  refine q_enterZ (own := "SnowForts$Yard") (by decide) rfl (Nat.le_of_ble_eq_true rfl) ?_
  intro p e s m args below meth c ls Qz E hl ret hS0
  have hx := E.1; have hb := E.2.1
  have hl : lv_has ls 2 [(0, .ref h0), (1, .int p1)] := hl
  refine lv_iload_n hx hb dX9_isSchool_0 rfl (lv_at hl 1 rfl) ?_
  refine q_if_lt hx hb (a := a1) e1 (tgt := 21) dX9_isSchool_1 rfl (fun c21 => ?_) (fun c21 => ?_)
  · refine lv_iconst (v := 0) hx hb dX9_isSchool_21 rfl ?_
    exact ret 0 H0 [] _ _ dX9_isSchool_22 (Or.inl rfl) ⟨rfl, Or.inr ⟨rfl, trivial⟩⟩ hC0 hS0
  · refine lv_iload_n hx hb dX9_isSchool_4 rfl (lv_at hl 1 rfl) ?_
    refine lv_aload_n hx hb dX9_isSchool_5 rfl (lv_at hl 0 rfl) ?_
    refine q_getI E hC0 g0 fa_RX9_52 dX9_isSchool_6 (fun v22 ev22 _ _ => ?_)
    have c23 := i_rng v22; rw [show v22.toInt = v22.toInt from rfl] at c23
    refine q_icmp_ge hx hb (a := a1) (b := v22.toInt) e1 rfl (tgt := 21) dX9_isSchool_9 rfl (fun c24 => ?_) (fun c24 => ?_)
    · refine lv_iconst (v := 0) hx hb dX9_isSchool_21 rfl ?_
      exact ret 0 H0 [] _ _ dX9_isSchool_22 (Or.inl rfl) ⟨rfl, Or.inr ⟨rfl, trivial⟩⟩ hC0 hS0
    · refine lv_iload_n hx hb dX9_isSchool_12 rfl (lv_at hl 1 rfl) ?_
      refine lv_iconst (v := 2) hx hb dX9_isSchool_13 rfl ?_
      refine q_icmp_ge hx hb (a := a1) (b := 2) e1 (by decide) (tgt := 21) dX9_isSchool_14 rfl (fun c25 => ?_) (fun c25 => ?_)
      · refine lv_iconst (v := 0) hx hb dX9_isSchool_21 rfl ?_
        exact ret 0 H0 [] _ _ dX9_isSchool_22 (Or.inl rfl) ⟨rfl, Or.inr ⟨rfl, trivial⟩⟩ hC0 hS0
      · refine lv_iconst (v := 1) hx hb dX9_isSchool_17 rfl ?_
        refine lv_goto (tgt := 22) hx hb dX9_isSchool_18 rfl ?_
        exact ret 1 H0 [] _ _ dX9_isSchool_22 (Or.inr rfl) ⟨rfl, Or.inl ⟨rfl, by omega, by omega⟩⟩ hC0 hS0
set_option maxRecDepth 100000 in
set_option maxHeartbeats 4000000 in
theorem m_X3_takeCell (l : Launch) (X : xW) (Γ : Nat → Option Nat) (H0 : Heap) (hC0 : Conf X Γ H0) (h0 : Nat) (g0 : Γ h0 = some 4) (h1 : Nat) (g1 : Γ h1 = some 5) (p2 : Int32) {a2 : Int} (e2 : p2.toInt = a2) (h3 : Nat) (g3 : Γ h3 = some 43) : Ctr l X Γ yX3_takeCell cX3_takeCell 5 (some .boolean) 3 [.ref h0, .ref h1, .int p2, .ref h3] H0 (QI X Γ (fun v H1 => Kp X Γ [0, 2, 3, 4, 5, 18, 21, 23, 25, 27] H0 H1 ∧ (v = 0 ∨ v = 1))) := by
  refine q_enterZ (own := "SnowForts$OrdersText") (by decide) rfl (Nat.le_of_ble_eq_true rfl) ?_
  intro p e s m args below meth c ls Qz E hl ret hS0
  have hx := E.1; have hb := E.2.1
  have hKp0 : Kp X Γ [0, 2, 3, 4, 5, 18, 21, 23, 25, 27] H0 H0 := Kp.rf
  have hl : lv_has ls 5 [(0, .ref h0), (1, .ref h1), (2, .int p2), (3, .ref h3)] := hl
  refine lv_aload_n hx hb dX3_takeCell_0 rfl (lv_at hl 0 rfl) ?_
  refine q_getR E hC0 g0 fa_RX3_15 dX3_takeCell_1 (fun q21 eq21 gq21 => ?_)
  refine lv_iconst (v := 0) hx hb dX3_takeCell_4 rfl ?_
  refine lv_aload_n hx hb dX3_takeCell_5 rfl (lv_at hl 1 rfl) ?_
  refine q_getI E hC0 g1 fa_RX3_187 dX3_takeCell_6 (fun v22 ev22 _ _ => ?_)
  refine lv_iconst (v := 1) hx hb dX3_takeCell_9 rfl ?_
  refine lv_isub hx hb dX3_takeCell_10 (lv_topi (fun v23 ev23 => ?_))
  refine q_goI (q_runV (As := [.int 0, .int v23]) (rest := []) E hC0 hS0 (m_X4_takeNumber l X Γ H0 hC0 q21 gq21 0 (a1 := 0) (by decide) v23 (a2 := v23.toInt) rfl) cw_X4_takeNumber cl_RX3_169 gq21 ⟨rfl, rfl⟩ rfl hl.1 rfl (Nat.zero_le _) (by decide) dX3_takeCell_11) hS0 (fun v24 H24 locs24 hr24 hC24 hS24 => ?_)
  obtain ⟨hp24, hr24⟩ := hr24
  have hKp24 := hKp0.tr (hp24.mono rfl)
  rcases hr24 with rfl | rfl
  · refine q_if_ne hx hb (a := 0) (by decide) (tgt := 19) dX3_takeCell_14 rfl (fun c25 => absurd c25 (by omega)) (fun c25 => ?_)
    refine lv_iconst (v := 0) hx hb dX3_takeCell_17 rfl ?_
    exact ret 0 H24 locs24 _ _ dX3_takeCell_18 (Or.inl rfl) ⟨hKp24, Or.inl rfl⟩ hC24 hS24
  · refine q_if_ne hx hb (a := 1) (by decide) (tgt := 19) dX3_takeCell_14 rfl (fun c26 => ?_) (fun c26 => absurd c26 (by omega))
    refine lv_aload_n hx hb dX3_takeCell_19 rfl (lv_at hl 0 rfl) ?_
    refine q_getR E hC24 g0 fa_RX3_15 dX3_takeCell_20 (fun q27 eq27 gq27 => ?_)
    refine q_getI E hC24 gq27 fa_RX3_175 dX3_takeCell_23 (fun v28 ev28 _ _ => ?_)
    refine lv_istore hx hb dX3_takeCell_26 hl (by decide) rfl (fun ls hl => ?_)
    replace hl : lv_has ls 5 [(4, .int v28), (0, .ref h0), (1, .ref h1), (2, .int p2), (3, .ref h3)] := hl
    refine lv_iload_n hx hb dX3_takeCell_28 rfl (lv_at hl 3 rfl) ?_
    refine q_if_eq hx hb (a := a2) e2 (tgt := 61) dX3_takeCell_29 rfl (fun c29 => ?_) (fun c29 => ?_)
    · refine lv_aload_n hx hb dX3_takeCell_61 rfl (lv_at hl 1 rfl) ?_
      refine q_getR E hC24 g0 fa_RX3_15 dX3_takeCell_62 (fun q30 eq30 gq30 => ?_)
      refine lv_iconst (v := 0) hx hb dX3_takeCell_65 rfl ?_
      refine lv_aload_n hx hb dX3_takeCell_66 rfl (lv_at hl 2 rfl) ?_
      refine q_getI E hC24 g1 fa_RX3_199 dX3_takeCell_67 (fun v31 ev31 _ _ => ?_)
      refine lv_iconst (v := 1) hx hb dX3_takeCell_70 rfl ?_
      refine lv_isub hx hb dX3_takeCell_71 (lv_topi (fun v32 ev32 => ?_))
      refine q_goI (q_runV (As := [.int 0, .int v32]) (rest := []) E hC24 hS24 (m_X4_takeNumber l X Γ H24 hC24 q30 gq30 0 (a1 := 0) (by decide) v32 (a2 := v32.toInt) rfl) cw_X4_takeNumber cl_RX3_169 gq30 ⟨rfl, rfl⟩ rfl hl.1 rfl (Nat.zero_le _) (by decide) dX3_takeCell_72) hS24 (fun v33 H33 locs33 hr33 hC33 hS33 => ?_)
      obtain ⟨hp33, hr33⟩ := hr33
      have hKp33 := hKp24.tr (hp33.mono rfl)
      rcases hr33 with rfl | rfl
      · refine q_if_eq hx hb (a := 0) (by decide) (tgt := 88) dX3_takeCell_75 rfl (fun c34 => ?_) (fun c34 => absurd c34 (by omega))
        refine lv_iconst (v := 0) hx hb dX3_takeCell_88 rfl ?_
        exact ret 0 H33 locs33 _ _ dX3_takeCell_89 (Or.inl rfl) ⟨hKp33, Or.inl rfl⟩ hC33 hS33
      · refine q_if_eq hx hb (a := 1) (by decide) (tgt := 88) dX3_takeCell_75 rfl (fun c35 => absurd c35 (by omega)) (fun c35 => ?_)
        refine lv_aload_n hx hb dX3_takeCell_78 rfl (lv_at hl 1 rfl) ?_
        refine q_getI E hC33 g0 fa_RX3_99 dX3_takeCell_79 (fun v36 ev36 lv36 uv36 => ?_)
        refine q_goIp (q_runS (As := [.int v36]) (rest := []) E hS33 (m_X2_isItem l X Γ H33 hC33 v36 (a0 := v36.toInt) rfl) cw_X2_isItem cl_RX3_73 rfl hl.1 rfl (Nat.zero_le _) (by decide) dX3_takeCell_82) hS33 (fun v37 locs37 hr37 hS37 => ?_)
        rcases hr37 with ⟨rfl, f37a0, f37a1⟩ | ⟨rfl, -⟩
        · refine q_if_ne hx hb (a := 1) (by decide) (tgt := 90) dX3_takeCell_85 rfl (fun c38 => ?_) (fun c38 => absurd c38 (by omega))
          refine lv_aload_n hx hb dX3_takeCell_90 rfl (lv_at hl 4 rfl) ?_
          refine lv_aload_n hx hb dX3_takeCell_91 rfl (lv_at hl 1 rfl) ?_
          refine q_getI E hC33 g0 fa_RX3_99 dX3_takeCell_92 (fun v39 ev39 lv39 uv39 => ?_)
          have qv39 := ev36.symm.trans ev39; subst qv39
          refine lv_aload_n hx hb dX3_takeCell_95 rfl (lv_at hl 1 rfl) ?_
          refine q_getR E hC33 g0 fa_RX3_15 dX3_takeCell_96 (fun q40 eq40 gq40 => ?_)
          refine q_getI E hC33 gq40 fa_RX3_175 dX3_takeCell_99 (fun v41 ev41 _ _ => ?_)
          refine lv_bipush (v := 6) hx hb dX3_takeCell_102 rfl ?_
          refine lv_imul hx hb dX3_takeCell_104 (lv_topi (fun v42 ev42 => ?_))
          refine lv_iload hx hb dX3_takeCell_105 (lv_at hl 0 rfl) ?_
          refine lv_iadd hx hb dX3_takeCell_107 (lv_topi (fun v43 ev43 => ?_))
          refine q_iast E hC33 hS37 g3 (by decide) rfl rfl (i_in (a := v36.toInt) rfl (by omega) (by omega)) tv_F dX3_takeCell_108 (fun H44 locs44 hC44 hS44 U44 => ?_)
          have hKp44 := Kp.upA g3 rfl (by decide) rfl U44 hKp33
          refine lv_iconst (v := 1) hx hb dX3_takeCell_109 rfl ?_
          exact ret 1 H44 locs44 _ _ dX3_takeCell_110 (Or.inr rfl) ⟨hKp44, Or.inr rfl⟩ hC44 hS44
        · refine q_if_ne hx hb (a := 0) (by decide) (tgt := 90) dX3_takeCell_85 rfl (fun c45 => absurd c45 (by omega)) (fun c45 => ?_)
          refine lv_iconst (v := 0) hx hb dX3_takeCell_88 rfl ?_
          exact ret 0 H33 locs37 _ _ dX3_takeCell_89 (Or.inl rfl) ⟨hKp33, Or.inl rfl⟩ hC33 hS37
    · refine lv_aload_n hx hb dX3_takeCell_32 rfl (lv_at hl 2 rfl) ?_
      refine lv_aload_n hx hb dX3_takeCell_33 rfl (lv_at hl 2 rfl) ?_
      refine lv_iload hx hb dX3_takeCell_34 (lv_at hl 0 rfl) ?_
      refine q_goIp (q_runV (As := [.int v28]) (rest := [.ref h1]) E hC24 hS24 (m_X9_halfOfColumn l X Γ H24 hC24 h1 g1 v28 (a1 := v28.toInt) rfl) cw_X9_halfOfColumn cl_RX3_192 g1 ⟨rfl, rfl⟩ rfl hl.1 rfl (show _ ≤ _ from by simp [Value.category]) (by decide) dX3_takeCell_36) hS24 (fun v46 locs46 hr46 hS46 => ?_)
      obtain ⟨f46_0, f46_1⟩ := hr46
      refine q_goIp (q_runV (As := [.int v46]) (rest := []) E hC24 hS46 (m_X9_isSchool l X Γ H24 hC24 h1 g1 v46 (a1 := v46.toInt) rfl) cw_X9_isSchool cl_RX3_196 g1 ⟨rfl, rfl⟩ rfl hl.1 rfl (Nat.zero_le _) (by decide) dX3_takeCell_39) hS46 (fun v47 locs47 hr47 hS47 => ?_)
      rcases hr47 with ⟨rfl, f47a0, f47a1⟩ | ⟨rfl, -⟩
      · refine q_if_ne hx hb (a := 1) (by decide) (tgt := 61) dX3_takeCell_42 rfl (fun c48 => ?_) (fun c48 => absurd c48 (by omega))
        refine lv_aload_n hx hb dX3_takeCell_61 rfl (lv_at hl 1 rfl) ?_
        refine q_getR E hC24 g0 fa_RX3_15 dX3_takeCell_62 (fun q49 eq49 gq49 => ?_)
        refine lv_iconst (v := 0) hx hb dX3_takeCell_65 rfl ?_
        refine lv_aload_n hx hb dX3_takeCell_66 rfl (lv_at hl 2 rfl) ?_
        refine q_getI E hC24 g1 fa_RX3_199 dX3_takeCell_67 (fun v50 ev50 _ _ => ?_)
        refine lv_iconst (v := 1) hx hb dX3_takeCell_70 rfl ?_
        refine lv_isub hx hb dX3_takeCell_71 (lv_topi (fun v51 ev51 => ?_))
        refine q_goI (q_runV (As := [.int 0, .int v51]) (rest := []) E hC24 hS47 (m_X4_takeNumber l X Γ H24 hC24 q49 gq49 0 (a1 := 0) (by decide) v51 (a2 := v51.toInt) rfl) cw_X4_takeNumber cl_RX3_169 gq49 ⟨rfl, rfl⟩ rfl hl.1 rfl (Nat.zero_le _) (by decide) dX3_takeCell_72) hS47 (fun v52 H52 locs52 hr52 hC52 hS52 => ?_)
        obtain ⟨hp52, hr52⟩ := hr52
        have hKp52 := hKp24.tr (hp52.mono rfl)
        rcases hr52 with rfl | rfl
        · refine q_if_eq hx hb (a := 0) (by decide) (tgt := 88) dX3_takeCell_75 rfl (fun c53 => ?_) (fun c53 => absurd c53 (by omega))
          refine lv_iconst (v := 0) hx hb dX3_takeCell_88 rfl ?_
          exact ret 0 H52 locs52 _ _ dX3_takeCell_89 (Or.inl rfl) ⟨hKp52, Or.inl rfl⟩ hC52 hS52
        · refine q_if_eq hx hb (a := 1) (by decide) (tgt := 88) dX3_takeCell_75 rfl (fun c54 => absurd c54 (by omega)) (fun c54 => ?_)
          refine lv_aload_n hx hb dX3_takeCell_78 rfl (lv_at hl 1 rfl) ?_
          refine q_getI E hC52 g0 fa_RX3_99 dX3_takeCell_79 (fun v55 ev55 lv55 uv55 => ?_)
          refine q_goIp (q_runS (As := [.int v55]) (rest := []) E hS52 (m_X2_isItem l X Γ H52 hC52 v55 (a0 := v55.toInt) rfl) cw_X2_isItem cl_RX3_73 rfl hl.1 rfl (Nat.zero_le _) (by decide) dX3_takeCell_82) hS52 (fun v56 locs56 hr56 hS56 => ?_)
          rcases hr56 with ⟨rfl, f56a0, f56a1⟩ | ⟨rfl, -⟩
          · refine q_if_ne hx hb (a := 1) (by decide) (tgt := 90) dX3_takeCell_85 rfl (fun c57 => ?_) (fun c57 => absurd c57 (by omega))
            refine lv_aload_n hx hb dX3_takeCell_90 rfl (lv_at hl 4 rfl) ?_
            refine lv_aload_n hx hb dX3_takeCell_91 rfl (lv_at hl 1 rfl) ?_
            refine q_getI E hC52 g0 fa_RX3_99 dX3_takeCell_92 (fun v58 ev58 lv58 uv58 => ?_)
            have qv58 := ev55.symm.trans ev58; subst qv58
            refine lv_aload_n hx hb dX3_takeCell_95 rfl (lv_at hl 1 rfl) ?_
            refine q_getR E hC52 g0 fa_RX3_15 dX3_takeCell_96 (fun q59 eq59 gq59 => ?_)
            refine q_getI E hC52 gq59 fa_RX3_175 dX3_takeCell_99 (fun v60 ev60 _ _ => ?_)
            refine lv_bipush (v := 6) hx hb dX3_takeCell_102 rfl ?_
            refine lv_imul hx hb dX3_takeCell_104 (lv_topi (fun v61 ev61 => ?_))
            refine lv_iload hx hb dX3_takeCell_105 (lv_at hl 0 rfl) ?_
            refine lv_iadd hx hb dX3_takeCell_107 (lv_topi (fun v62 ev62 => ?_))
            refine q_iast E hC52 hS56 g3 (by decide) rfl rfl (i_in (a := v55.toInt) rfl (by omega) (by omega)) tv_F dX3_takeCell_108 (fun H63 locs63 hC63 hS63 U63 => ?_)
            have hKp63 := Kp.upA g3 rfl (by decide) rfl U63 hKp52
            refine lv_iconst (v := 1) hx hb dX3_takeCell_109 rfl ?_
            exact ret 1 H63 locs63 _ _ dX3_takeCell_110 (Or.inr rfl) ⟨hKp63, Or.inr rfl⟩ hC63 hS63
          · refine q_if_ne hx hb (a := 0) (by decide) (tgt := 90) dX3_takeCell_85 rfl (fun c64 => absurd c64 (by omega)) (fun c64 => ?_)
            refine lv_iconst (v := 0) hx hb dX3_takeCell_88 rfl ?_
            exact ret 0 H52 locs56 _ _ dX3_takeCell_89 (Or.inl rfl) ⟨hKp52, Or.inl rfl⟩ hC52 hS56
      · refine q_if_ne hx hb (a := 0) (by decide) (tgt := 61) dX3_takeCell_42 rfl (fun c65 => absurd c65 (by omega)) (fun c65 => ?_)
        refine lv_aload_n hx hb dX3_takeCell_45 rfl (lv_at hl 1 rfl) ?_
        refine q_getR E hC24 g0 fa_RX3_15 dX3_takeCell_46 (fun q66 eq66 gq66 => ?_)
        refine lv_iconst (v := 4) hx hb dX3_takeCell_49 rfl ?_
        refine lv_aload_n hx hb dX3_takeCell_50 rfl (lv_at hl 1 rfl) ?_
        refine q_getR E hC24 g0 fa_RX3_15 dX3_takeCell_51 (fun q67 eq67 gq67 => ?_)
        refine q_getI E hC24 gq67 fa_RX3_178 dX3_takeCell_54 (fun v68 ev68 _ _ => ?_)
        refine q_goI (q_runV (As := [.int 4, .int v68]) (rest := []) E hC24 hS47 (m_X4_fail l X Γ H24 hC24 q66 gq66 4 (a1 := 4) (by decide) v68 (a2 := v68.toInt) rfl) cw_X4_fail cl_RX3_95 gq66 ⟨rfl, rfl⟩ rfl hl.1 rfl (Nat.zero_le _) (by decide) dX3_takeCell_57) hS47 (fun v69 H69 locs69 hr69 hC69 hS69 => ?_)
        obtain ⟨hp69, hr69⟩ := hr69
        have hKp69 := hKp24.tr (hp69.mono rfl)
        rcases hr69 with rfl | rfl
        · exact ret 0 H69 locs69 _ _ dX3_takeCell_60 (Or.inl rfl) ⟨hKp69, Or.inl rfl⟩ hC69 hS69
        · exact ret 1 H69 locs69 _ _ dX3_takeCell_60 (Or.inr rfl) ⟨hKp69, Or.inr rfl⟩ hC69 hS69
set_option maxRecDepth 100000 in
set_option maxHeartbeats 4000000 in
theorem m_X3_takeComparing (l : Launch) (X : xW) (Γ : Nat → Option Nat) (H0 : Heap) (hC0 : Conf X Γ H0) (h0 : Nat) (g0 : Γ h0 = some 4) (h1 : Nat) (g1 : Γ h1 = some 6) : Ctr l X Γ yX3_takeComparing cX3_takeComparing 3 (some .boolean) 2 [.ref h0, .ref h1] H0 (QI X Γ (fun v H1 => Kp X Γ [0, 2, 3, 4, 5, 18, 21, 23, 25, 27] H0 H1 ∧ (v = 0 ∨ v = 1))) := by
  refine q_enterZ (own := "SnowForts$OrdersText") (by decide) rfl (Nat.le_of_ble_eq_true rfl) ?_
  intro p e s m args below meth c ls Qz E hl ret hS0
  have hx := E.1; have hb := E.2.1
  have hKp0 : Kp X Γ [0, 2, 3, 4, 5, 18, 21, 23, 25, 27] H0 H0 := Kp.rf
  have hl : lv_has ls 3 [(0, .ref h0), (1, .ref h1)] := hl
  refine lv_aload_n hx hb dX3_takeComparing_0 rfl (lv_at hl 0 rfl) ?_
  refine q_getR E hC0 g0 fa_RX3_15 dX3_takeComparing_1 (fun q21 eq21 gq21 => ?_)
  refine q_getI E hC0 gq21 fa_RX3_34 dX3_takeComparing_4 (fun v22 ev22 _ _ => ?_)
  refine lv_istore_n hx hb dX3_takeComparing_7 rfl hl (by decide) rfl (fun ls hl => ?_)
  replace hl : lv_has ls 3 [(2, .int v22), (0, .ref h0), (1, .ref h1)] := hl
  refine lv_iload_n hx hb dX3_takeComparing_8 rfl (lv_at hl 0 rfl) ?_
  refine lv_bipush (v := 60) hx hb dX3_takeComparing_9 rfl ?_
  refine q_icmp_eq hx hb (a := v22.toInt) (b := 60) rfl (by decide) (tgt := 26) dX3_takeComparing_11 rfl (fun c23 => ?_) (fun c23 => ?_)
  · refine lv_aload_n hx hb dX3_takeComparing_26 rfl (lv_at hl 1 rfl) ?_
    refine q_getI E hC0 g0 fa_RX3_99 dX3_takeComparing_27 (fun v24 ev24 lv24 uv24 => ?_)
    refine q_goIp (q_runS (As := [.int v24]) (rest := []) E hS0 (m_X2_isItem l X Γ H0 hC0 v24 (a0 := v24.toInt) rfl) cw_X2_isItem cl_RX3_73 rfl hl.1 rfl (Nat.zero_le _) (by decide) dX3_takeComparing_30) hS0 (fun v25 locs25 hr25 hS25 => ?_)
    rcases hr25 with ⟨rfl, f25a0, f25a1⟩ | ⟨rfl, -⟩
    · refine q_if_ne hx hb (a := 1) (by decide) (tgt := 44) dX3_takeComparing_33 rfl (fun c26 => ?_) (fun c26 => absurd c26 (by omega))
      refine lv_aload_n hx hb dX3_takeComparing_44 rfl (lv_at hl 2 rfl) ?_
      refine q_getR E hC0 g1 fa_RX3_184 dX3_takeComparing_45 (fun q27 eq27 gq27 => ?_)
      refine lv_aload_n hx hb dX3_takeComparing_48 rfl (lv_at hl 1 rfl) ?_
      refine q_getI E hC0 g0 fa_RX3_99 dX3_takeComparing_49 (fun v28 ev28 lv28 uv28 => ?_)
      have qv28 := ev24.symm.trans ev28; subst qv28
      refine lv_iload_n hx hb dX3_takeComparing_52 rfl (lv_at hl 0 rfl) ?_
      refine q_iast E hC0 hS25 gq27 (by decide) rfl rfl (i_in (a := v24.toInt) rfl (by omega) (by omega)) tv_F dX3_takeComparing_53 (fun H29 locs29 hC29 hS29 U29 => ?_)
      have hKp29 := Kp.upA gq27 rfl (by decide) rfl U29 hKp0
      refine lv_aload_n hx hb dX3_takeComparing_54 rfl (lv_at hl 1 rfl) ?_
      refine q_getR E hC29 g0 fa_RX3_15 dX3_takeComparing_55 (fun q30 eq30 gq30 => ?_)
      refine q_goV (q_runV (As := []) (rest := []) E hC29 hS29 (m_X4_advance l X Γ H29 hC29 q30 gq30) cw_X4_advance cl_RX3_82 gq30 ⟨rfl, rfl⟩ rfl hl.1 rfl (Nat.zero_le _) (by decide) dX3_takeComparing_58) hS29 (fun H31 locs31 hr31 hC31 hS31 => ?_)
      have hKp31 := hKp29.tr (hr31.mono rfl)
      refine lv_iconst (v := 1) hx hb dX3_takeComparing_61 rfl ?_
      exact ret 1 H31 locs31 _ _ dX3_takeComparing_62 (Or.inr rfl) ⟨hKp31, Or.inr rfl⟩ hC31 hS31
    · refine q_if_ne hx hb (a := 0) (by decide) (tgt := 44) dX3_takeComparing_33 rfl (fun c32 => absurd c32 (by omega)) (fun c32 => ?_)
      refine lv_aload_n hx hb dX3_takeComparing_36 rfl (lv_at hl 1 rfl) ?_
      refine q_getR E hC0 g0 fa_RX3_15 dX3_takeComparing_37 (fun q33 eq33 gq33 => ?_)
      refine q_goI (q_runV (As := []) (rest := []) E hC0 hS25 (m_X4_misfit l X Γ H0 hC0 q33 gq33) cw_X4_misfit cl_RX3_58 gq33 ⟨rfl, rfl⟩ rfl hl.1 rfl (Nat.zero_le _) (by decide) dX3_takeComparing_40) hS25 (fun v34 H34 locs34 hr34 hC34 hS34 => ?_)
      obtain ⟨hp34, hr34⟩ := hr34
      have hKp34 := hKp0.tr (hp34.mono rfl)
      rcases hr34 with rfl | rfl
      · exact ret 0 H34 locs34 _ _ dX3_takeComparing_43 (Or.inl rfl) ⟨hKp34, Or.inl rfl⟩ hC34 hS34
      · exact ret 1 H34 locs34 _ _ dX3_takeComparing_43 (Or.inr rfl) ⟨hKp34, Or.inr rfl⟩ hC34 hS34
  · refine lv_iload_n hx hb dX3_takeComparing_14 rfl (lv_at hl 0 rfl) ?_
    refine lv_bipush (v := 62) hx hb dX3_takeComparing_15 rfl ?_
    refine q_icmp_eq hx hb (a := v22.toInt) (b := 62) rfl (by decide) (tgt := 26) dX3_takeComparing_17 rfl (fun c35 => ?_) (fun c35 => ?_)
    · refine lv_aload_n hx hb dX3_takeComparing_26 rfl (lv_at hl 1 rfl) ?_
      refine q_getI E hC0 g0 fa_RX3_99 dX3_takeComparing_27 (fun v36 ev36 lv36 uv36 => ?_)
      refine q_goIp (q_runS (As := [.int v36]) (rest := []) E hS0 (m_X2_isItem l X Γ H0 hC0 v36 (a0 := v36.toInt) rfl) cw_X2_isItem cl_RX3_73 rfl hl.1 rfl (Nat.zero_le _) (by decide) dX3_takeComparing_30) hS0 (fun v37 locs37 hr37 hS37 => ?_)
      rcases hr37 with ⟨rfl, f37a0, f37a1⟩ | ⟨rfl, -⟩
      · refine q_if_ne hx hb (a := 1) (by decide) (tgt := 44) dX3_takeComparing_33 rfl (fun c38 => ?_) (fun c38 => absurd c38 (by omega))
        refine lv_aload_n hx hb dX3_takeComparing_44 rfl (lv_at hl 2 rfl) ?_
        refine q_getR E hC0 g1 fa_RX3_184 dX3_takeComparing_45 (fun q39 eq39 gq39 => ?_)
        refine lv_aload_n hx hb dX3_takeComparing_48 rfl (lv_at hl 1 rfl) ?_
        refine q_getI E hC0 g0 fa_RX3_99 dX3_takeComparing_49 (fun v40 ev40 lv40 uv40 => ?_)
        have qv40 := ev36.symm.trans ev40; subst qv40
        refine lv_iload_n hx hb dX3_takeComparing_52 rfl (lv_at hl 0 rfl) ?_
        refine q_iast E hC0 hS37 gq39 (by decide) rfl rfl (i_in (a := v36.toInt) rfl (by omega) (by omega)) tv_F dX3_takeComparing_53 (fun H41 locs41 hC41 hS41 U41 => ?_)
        have hKp41 := Kp.upA gq39 rfl (by decide) rfl U41 hKp0
        refine lv_aload_n hx hb dX3_takeComparing_54 rfl (lv_at hl 1 rfl) ?_
        refine q_getR E hC41 g0 fa_RX3_15 dX3_takeComparing_55 (fun q42 eq42 gq42 => ?_)
        refine q_goV (q_runV (As := []) (rest := []) E hC41 hS41 (m_X4_advance l X Γ H41 hC41 q42 gq42) cw_X4_advance cl_RX3_82 gq42 ⟨rfl, rfl⟩ rfl hl.1 rfl (Nat.zero_le _) (by decide) dX3_takeComparing_58) hS41 (fun H43 locs43 hr43 hC43 hS43 => ?_)
        have hKp43 := hKp41.tr (hr43.mono rfl)
        refine lv_iconst (v := 1) hx hb dX3_takeComparing_61 rfl ?_
        exact ret 1 H43 locs43 _ _ dX3_takeComparing_62 (Or.inr rfl) ⟨hKp43, Or.inr rfl⟩ hC43 hS43
      · refine q_if_ne hx hb (a := 0) (by decide) (tgt := 44) dX3_takeComparing_33 rfl (fun c44 => absurd c44 (by omega)) (fun c44 => ?_)
        refine lv_aload_n hx hb dX3_takeComparing_36 rfl (lv_at hl 1 rfl) ?_
        refine q_getR E hC0 g0 fa_RX3_15 dX3_takeComparing_37 (fun q45 eq45 gq45 => ?_)
        refine q_goI (q_runV (As := []) (rest := []) E hC0 hS37 (m_X4_misfit l X Γ H0 hC0 q45 gq45) cw_X4_misfit cl_RX3_58 gq45 ⟨rfl, rfl⟩ rfl hl.1 rfl (Nat.zero_le _) (by decide) dX3_takeComparing_40) hS37 (fun v46 H46 locs46 hr46 hC46 hS46 => ?_)
        obtain ⟨hp46, hr46⟩ := hr46
        have hKp46 := hKp0.tr (hp46.mono rfl)
        rcases hr46 with rfl | rfl
        · exact ret 0 H46 locs46 _ _ dX3_takeComparing_43 (Or.inl rfl) ⟨hKp46, Or.inl rfl⟩ hC46 hS46
        · exact ret 1 H46 locs46 _ _ dX3_takeComparing_43 (Or.inr rfl) ⟨hKp46, Or.inr rfl⟩ hC46 hS46
    · refine lv_iload_n hx hb dX3_takeComparing_20 rfl (lv_at hl 0 rfl) ?_
      refine lv_bipush (v := 61) hx hb dX3_takeComparing_21 rfl ?_
      refine q_icmp_ne hx hb (a := v22.toInt) (b := 61) rfl (by decide) (tgt := 36) dX3_takeComparing_23 rfl (fun c47 => ?_) (fun c47 => ?_)
      · refine lv_aload_n hx hb dX3_takeComparing_36 rfl (lv_at hl 1 rfl) ?_
        refine q_getR E hC0 g0 fa_RX3_15 dX3_takeComparing_37 (fun q48 eq48 gq48 => ?_)
        refine q_goI (q_runV (As := []) (rest := []) E hC0 hS0 (m_X4_misfit l X Γ H0 hC0 q48 gq48) cw_X4_misfit cl_RX3_58 gq48 ⟨rfl, rfl⟩ rfl hl.1 rfl (Nat.zero_le _) (by decide) dX3_takeComparing_40) hS0 (fun v49 H49 locs49 hr49 hC49 hS49 => ?_)
        obtain ⟨hp49, hr49⟩ := hr49
        have hKp49 := hKp0.tr (hp49.mono rfl)
        rcases hr49 with rfl | rfl
        · exact ret 0 H49 locs49 _ _ dX3_takeComparing_43 (Or.inl rfl) ⟨hKp49, Or.inl rfl⟩ hC49 hS49
        · exact ret 1 H49 locs49 _ _ dX3_takeComparing_43 (Or.inr rfl) ⟨hKp49, Or.inr rfl⟩ hC49 hS49
      · refine lv_aload_n hx hb dX3_takeComparing_26 rfl (lv_at hl 1 rfl) ?_
        refine q_getI E hC0 g0 fa_RX3_99 dX3_takeComparing_27 (fun v50 ev50 lv50 uv50 => ?_)
        refine q_goIp (q_runS (As := [.int v50]) (rest := []) E hS0 (m_X2_isItem l X Γ H0 hC0 v50 (a0 := v50.toInt) rfl) cw_X2_isItem cl_RX3_73 rfl hl.1 rfl (Nat.zero_le _) (by decide) dX3_takeComparing_30) hS0 (fun v51 locs51 hr51 hS51 => ?_)
        rcases hr51 with ⟨rfl, f51a0, f51a1⟩ | ⟨rfl, -⟩
        · refine q_if_ne hx hb (a := 1) (by decide) (tgt := 44) dX3_takeComparing_33 rfl (fun c52 => ?_) (fun c52 => absurd c52 (by omega))
          refine lv_aload_n hx hb dX3_takeComparing_44 rfl (lv_at hl 2 rfl) ?_
          refine q_getR E hC0 g1 fa_RX3_184 dX3_takeComparing_45 (fun q53 eq53 gq53 => ?_)
          refine lv_aload_n hx hb dX3_takeComparing_48 rfl (lv_at hl 1 rfl) ?_
          refine q_getI E hC0 g0 fa_RX3_99 dX3_takeComparing_49 (fun v54 ev54 lv54 uv54 => ?_)
          have qv54 := ev50.symm.trans ev54; subst qv54
          refine lv_iload_n hx hb dX3_takeComparing_52 rfl (lv_at hl 0 rfl) ?_
          refine q_iast E hC0 hS51 gq53 (by decide) rfl rfl (i_in (a := v50.toInt) rfl (by omega) (by omega)) tv_F dX3_takeComparing_53 (fun H55 locs55 hC55 hS55 U55 => ?_)
          have hKp55 := Kp.upA gq53 rfl (by decide) rfl U55 hKp0
          refine lv_aload_n hx hb dX3_takeComparing_54 rfl (lv_at hl 1 rfl) ?_
          refine q_getR E hC55 g0 fa_RX3_15 dX3_takeComparing_55 (fun q56 eq56 gq56 => ?_)
          refine q_goV (q_runV (As := []) (rest := []) E hC55 hS55 (m_X4_advance l X Γ H55 hC55 q56 gq56) cw_X4_advance cl_RX3_82 gq56 ⟨rfl, rfl⟩ rfl hl.1 rfl (Nat.zero_le _) (by decide) dX3_takeComparing_58) hS55 (fun H57 locs57 hr57 hC57 hS57 => ?_)
          have hKp57 := hKp55.tr (hr57.mono rfl)
          refine lv_iconst (v := 1) hx hb dX3_takeComparing_61 rfl ?_
          exact ret 1 H57 locs57 _ _ dX3_takeComparing_62 (Or.inr rfl) ⟨hKp57, Or.inr rfl⟩ hC57 hS57
        · refine q_if_ne hx hb (a := 0) (by decide) (tgt := 44) dX3_takeComparing_33 rfl (fun c58 => absurd c58 (by omega)) (fun c58 => ?_)
          refine lv_aload_n hx hb dX3_takeComparing_36 rfl (lv_at hl 1 rfl) ?_
          refine q_getR E hC0 g0 fa_RX3_15 dX3_takeComparing_37 (fun q59 eq59 gq59 => ?_)
          refine q_goI (q_runV (As := []) (rest := []) E hC0 hS51 (m_X4_misfit l X Γ H0 hC0 q59 gq59) cw_X4_misfit cl_RX3_58 gq59 ⟨rfl, rfl⟩ rfl hl.1 rfl (Nat.zero_le _) (by decide) dX3_takeComparing_40) hS51 (fun v60 H60 locs60 hr60 hC60 hS60 => ?_)
          obtain ⟨hp60, hr60⟩ := hr60
          have hKp60 := hKp0.tr (hp60.mono rfl)
          rcases hr60 with rfl | rfl
          · exact ret 0 H60 locs60 _ _ dX3_takeComparing_43 (Or.inl rfl) ⟨hKp60, Or.inl rfl⟩ hC60 hS60
          · exact ret 1 H60 locs60 _ _ dX3_takeComparing_43 (Or.inr rfl) ⟨hKp60, Or.inr rfl⟩ hC60 hS60
set_option maxRecDepth 100000 in
set_option maxHeartbeats 4000000 in
theorem m_X3_takeAmount (l : Launch) (X : xW) (Γ : Nat → Option Nat) (H0 : Heap) (hC0 : Conf X Γ H0) (h0 : Nat) (g0 : Γ h0 = some 4) (h1 : Nat) (g1 : Γ h1 = some 6) (p2 : Int32) {a2 : Int} (e2 : p2.toInt = a2) (p3 : Int32) {a3 : Int} (e3 : p3.toInt = a3) : Ctr l X Γ yX3_takeAmount cX3_takeAmount 4 (some .boolean) 3 [.ref h0, .ref h1, .int p2, .int p3] H0 (QI X Γ (fun v H1 => Kp X Γ [0, 2, 3, 4, 5, 18, 21, 23, 25, 27] H0 H1 ∧ (v = 0 ∨ v = 1))) := by
  refine q_enterZ (own := "SnowForts$OrdersText") (by decide) rfl (Nat.le_of_ble_eq_true rfl) ?_
  intro p e s m args below meth c ls Qz E hl ret hS0
  have hx := E.1; have hb := E.2.1
  have hKp0 : Kp X Γ [0, 2, 3, 4, 5, 18, 21, 23, 25, 27] H0 H0 := Kp.rf
  have hl : lv_has ls 4 [(0, .ref h0), (1, .ref h1), (2, .int p2), (3, .int p3)] := hl
  refine lv_aload_n hx hb dX3_takeAmount_0 rfl (lv_at hl 0 rfl) ?_
  refine q_getR E hC0 g0 fa_RX3_15 dX3_takeAmount_1 (fun q21 eq21 gq21 => ?_)
  refine lv_iload_n hx hb dX3_takeAmount_4 rfl (lv_at hl 2 rfl) ?_
  refine lv_iload_n hx hb dX3_takeAmount_5 rfl (lv_at hl 3 rfl) ?_
  refine q_goI (q_runV (As := [.int p2, .int p3]) (rest := []) E hC0 hS0 (m_X4_takeNumber l X Γ H0 hC0 q21 gq21 p2 (a1 := a2) e2 p3 (a2 := a3) e3) cw_X4_takeNumber cl_RX3_169 gq21 ⟨rfl, rfl⟩ rfl hl.1 rfl (Nat.zero_le _) (by decide) dX3_takeAmount_6) hS0 (fun v22 H22 locs22 hr22 hC22 hS22 => ?_)
  obtain ⟨hp22, hr22⟩ := hr22
  have hKp22 := hKp0.tr (hp22.mono rfl)
  rcases hr22 with rfl | rfl
  · refine q_if_eq hx hb (a := 0) (by decide) (tgt := 22) dX3_takeAmount_9 rfl (fun c23 => ?_) (fun c23 => absurd c23 (by omega))
    refine lv_iconst (v := 0) hx hb dX3_takeAmount_22 rfl ?_
    exact ret 0 H22 locs22 _ _ dX3_takeAmount_23 (Or.inl rfl) ⟨hKp22, Or.inl rfl⟩ hC22 hS22
  · refine q_if_eq hx hb (a := 1) (by decide) (tgt := 22) dX3_takeAmount_9 rfl (fun c24 => absurd c24 (by omega)) (fun c24 => ?_)
    refine lv_aload_n hx hb dX3_takeAmount_12 rfl (lv_at hl 0 rfl) ?_
    refine q_getI E hC22 g0 fa_RX3_99 dX3_takeAmount_13 (fun v25 ev25 lv25 uv25 => ?_)
    refine q_goIp (q_runS (As := [.int v25]) (rest := []) E hS22 (m_X2_isItem l X Γ H22 hC22 v25 (a0 := v25.toInt) rfl) cw_X2_isItem cl_RX3_73 rfl hl.1 rfl (Nat.zero_le _) (by decide) dX3_takeAmount_16) hS22 (fun v26 locs26 hr26 hS26 => ?_)
    rcases hr26 with ⟨rfl, f26a0, f26a1⟩ | ⟨rfl, -⟩
    · refine q_if_ne hx hb (a := 1) (by decide) (tgt := 24) dX3_takeAmount_19 rfl (fun c27 => ?_) (fun c27 => absurd c27 (by omega))
      refine lv_aload_n hx hb dX3_takeAmount_24 rfl (lv_at hl 1 rfl) ?_
      refine q_getR E hC22 g1 fa_RX3_172 dX3_takeAmount_25 (fun q28 eq28 gq28 => ?_)
      refine lv_aload_n hx hb dX3_takeAmount_28 rfl (lv_at hl 0 rfl) ?_
      refine q_getI E hC22 g0 fa_RX3_99 dX3_takeAmount_29 (fun v29 ev29 lv29 uv29 => ?_)
      have qv29 := ev25.symm.trans ev29; subst qv29
      refine lv_aload_n hx hb dX3_takeAmount_32 rfl (lv_at hl 0 rfl) ?_
      refine q_getR E hC22 g0 fa_RX3_15 dX3_takeAmount_33 (fun q30 eq30 gq30 => ?_)
      refine q_getI E hC22 gq30 fa_RX3_175 dX3_takeAmount_36 (fun v31 ev31 _ _ => ?_)
      refine q_iast E hC22 hS26 gq28 (by decide) rfl rfl (i_in (a := v25.toInt) rfl (by omega) (by omega)) tv_F dX3_takeAmount_39 (fun H32 locs32 hC32 hS32 U32 => ?_)
      have hKp32 := Kp.upA gq28 rfl (by decide) rfl U32 hKp22
      refine lv_iconst (v := 1) hx hb dX3_takeAmount_40 rfl ?_
      exact ret 1 H32 locs32 _ _ dX3_takeAmount_41 (Or.inr rfl) ⟨hKp32, Or.inr rfl⟩ hC32 hS32
    · refine q_if_ne hx hb (a := 0) (by decide) (tgt := 24) dX3_takeAmount_19 rfl (fun c33 => absurd c33 (by omega)) (fun c33 => ?_)
      refine lv_iconst (v := 0) hx hb dX3_takeAmount_22 rfl ?_
      exact ret 0 H22 locs26 _ _ dX3_takeAmount_23 (Or.inl rfl) ⟨hKp22, Or.inl rfl⟩ hC22 hS26
set_option maxRecDepth 100000 in
set_option maxHeartbeats 4000000 in
theorem m_X3_takeTest (l : Launch) (X : xW) (Γ : Nat → Option Nat) (H0 : Heap) (hC0 : Conf X Γ H0) (h0 : Nat) (g0 : Γ h0 = some 4) (h1 : Nat) (g1 : Γ h1 = some 5) (h2 : Nat) (g2 : Γ h2 = some 6) : Ctr l X Γ yX3_takeTest cX3_takeTest 4 (some .boolean) 4 [.ref h0, .ref h1, .ref h2] H0 (QI X Γ (fun v H1 => Kp X Γ [0, 2, 3, 4, 5, 18, 21, 23, 25, 27] H0 H1 ∧ (v = 0 ∨ v = 1))) := by
  refine q_enterZ (own := "SnowForts$OrdersText") (by decide) rfl (Nat.le_of_ble_eq_true rfl) ?_
  intro p e s m args below meth c ls Qz E hl ret hS0
  have hx := E.1; have hb := E.2.1
  have hKp0 : Kp X Γ [0, 2, 3, 4, 5, 18, 21, 23, 25, 27] H0 H0 := Kp.rf
  have hl : lv_has ls 4 [(0, .ref h0), (1, .ref h1), (2, .ref h2)] := hl
  refine lv_aload_n hx hb dX3_takeTest_0 rfl (lv_at hl 0 rfl) ?_
  refine q_getR E hC0 g0 fa_RX3_15 dX3_takeTest_1 (fun q21 eq21 gq21 => ?_)
  refine q_getQ E hC0 gq21 fa_RX3_37 dX3_takeTest_4 (fun q22 eq22 gq22 => ?_)
  refine q_asq_n (o := q22) hx hb dX3_takeTest_7 rfl hl (by decide) rfl (fun ls hl => ?_)
  replace hl : lv_has ls 4 [(3, va_rf q22), (0, .ref h0), (1, .ref h1), (2, .ref h2)] := hl
  refine q_alq_n (o := q22) hx hb dX3_takeTest_8 rfl (lv_at hl 0 rfl) ?_
  refine q_word E hS0 (i := 24) (by decide) w_763 dX3_takeTest_9 (fun q23 gq23 => ?_)
  refine lv_acmp_eq (rx := q22) (ry := (some q23)) (tgt := 36) hx hb dX3_takeTest_12 rfl (fun c24 => ?_) (fun c24 => ?_)
  · refine lv_aload_n hx hb dX3_takeTest_36 rfl (lv_at hl 1 rfl) ?_
    refine q_getI E hC0 g0 fa_RX3_99 dX3_takeTest_37 (fun v25 ev25 lv25 uv25 => ?_)
    refine q_goIp (q_runS (As := [.int v25]) (rest := []) E hS0 (m_X2_isItem l X Γ H0 hC0 v25 (a0 := v25.toInt) rfl) cw_X2_isItem cl_RX3_73 rfl hl.1 rfl (Nat.zero_le _) (by decide) dX3_takeTest_40) hS0 (fun v26 locs26 hr26 hS26 => ?_)
    rcases hr26 with ⟨rfl, f26a0, f26a1⟩ | ⟨rfl, -⟩
    · refine q_if_ne hx hb (a := 1) (by decide) (tgt := 54) dX3_takeTest_43 rfl (fun c27 => ?_) (fun c27 => absurd c27 (by omega))
      refine lv_aload_n hx hb dX3_takeTest_54 rfl (lv_at hl 1 rfl) ?_
      refine q_getR E hC0 g0 fa_RX3_15 dX3_takeTest_55 (fun q28 eq28 gq28 => ?_)
      refine q_goV (q_runV (As := []) (rest := []) E hC0 hS26 (m_X4_advance l X Γ H0 hC0 q28 gq28) cw_X4_advance cl_RX3_82 gq28 ⟨rfl, rfl⟩ rfl hl.1 rfl (Nat.zero_le _) (by decide) dX3_takeTest_58) hS26 (fun H29 locs29 hr29 hC29 hS29 => ?_)
      have hKp29 := hKp0.tr (hr29.mono rfl)
      refine q_alq_n (o := q22) hx hb dX3_takeTest_61 rfl (lv_at hl 0 rfl) ?_
      refine q_word E hS29 (i := 24) (by decide) w_763 dX3_takeTest_62 (fun q30 gq30 => ?_)
      refine lv_acmp_ne (rx := q22) (ry := (some q30)) (tgt := 81) hx hb dX3_takeTest_65 rfl (fun c31 => ?_) (fun c31 => ?_)
      · refine q_alq_n (o := q22) hx hb dX3_takeTest_81 rfl (lv_at hl 0 rfl) ?_
        refine q_word E hS29 (i := 6) (by decide) w_767 dX3_takeTest_82 (fun q32 gq32 => ?_)
        refine lv_acmp_ne (rx := q22) (ry := (some q32)) (tgt := 137) hx hb dX3_takeTest_85 rfl (fun c33 => ?_) (fun c33 => ?_)
        · refine lv_aload_n hx hb dX3_takeTest_137 rfl (lv_at hl 3 rfl) ?_
          refine q_getR E hC29 g2 fa_RX3_76 dX3_takeTest_138 (fun q34 eq34 gq34 => ?_)
          refine lv_aload_n hx hb dX3_takeTest_141 rfl (lv_at hl 1 rfl) ?_
          refine q_getI E hC29 g0 fa_RX3_99 dX3_takeTest_142 (fun v35 ev35 lv35 uv35 => ?_)
          refine q_alq_n (o := q22) hx hb dX3_takeTest_145 rfl (lv_at hl 0 rfl) ?_
          refine q_word E hS29 (i := 23) (by decide) w_765 dX3_takeTest_146 (fun q36 gq36 => ?_)
          refine lv_acmp_ne (rx := q22) (ry := (some q36)) (tgt := 157) hx hb dX3_takeTest_149 rfl (fun c37 => ?_) (fun c37 => ?_)
          · refine lv_bipush (v := 10) hx hb dX3_takeTest_157 rfl ?_
            refine q_iast E hC29 hS29 gq34 (by decide) rfl rfl (i_in (a := v35.toInt) rfl (by omega) (by omega)) tv_F dX3_takeTest_159 (fun H38 locs38 hC38 hS38 U38 => ?_)
            have hKp38 := Kp.upA gq34 rfl (by decide) rfl U38 hKp29
            refine lv_aload_n hx hb dX3_takeTest_160 rfl (lv_at hl 1 rfl) ?_
            refine lv_aload_n hx hb dX3_takeTest_161 rfl (lv_at hl 3 rfl) ?_
            refine q_goI (q_runV (As := [.ref h2]) (rest := []) E hC38 hS38 (m_X3_takeComparing l X Γ H38 hC38 h0 g0 h2 g2) cw_X3_takeComparing cl_RX3_214 g0 ⟨rfl, rfl⟩ rfl hl.1 rfl (Nat.zero_le _) (by decide) dX3_takeTest_162) hS38 (fun v39 H39 locs39 hr39 hC39 hS39 => ?_)
            obtain ⟨hp39, hr39⟩ := hr39
            have hKp39 := hKp38.tr (hp39.mono rfl)
            rcases hr39 with rfl | rfl
            · refine q_if_eq hx hb (a := 0) (by decide) (tgt := 184) dX3_takeTest_165 rfl (fun c40 => ?_) (fun c40 => absurd c40 (by omega))
              refine lv_iconst (v := 0) hx hb dX3_takeTest_184 rfl ?_
              exact ret 0 H39 locs39 _ _ dX3_takeTest_185 (Or.inl rfl) ⟨hKp39, Or.inl rfl⟩ hC39 hS39
            · refine q_if_eq hx hb (a := 1) (by decide) (tgt := 184) dX3_takeTest_165 rfl (fun c41 => absurd c41 (by omega)) (fun c41 => ?_)
              refine lv_aload_n hx hb dX3_takeTest_168 rfl (lv_at hl 1 rfl) ?_
              refine lv_aload_n hx hb dX3_takeTest_169 rfl (lv_at hl 3 rfl) ?_
              refine lv_iconst (v := 0) hx hb dX3_takeTest_170 rfl ?_
              refine lv_sipush (v := 999) hx hb dX3_takeTest_171 rfl ?_
              refine q_goI (q_runV (As := [.ref h2, .int 0, .int 999]) (rest := []) E hC39 hS39 (m_X3_takeAmount l X Γ H39 hC39 h0 g0 h2 g2 0 (a2 := 0) (by decide) 999 (a3 := 999) (by decide)) cw_X3_takeAmount cl_RX3_139 g0 ⟨rfl, rfl⟩ rfl hl.1 rfl (Nat.zero_le _) (by decide) dX3_takeTest_174) hS39 (fun v42 H42 locs42 hr42 hC42 hS42 => ?_)
              obtain ⟨hp42, hr42⟩ := hr42
              have hKp42 := hKp39.tr (hp42.mono rfl)
              rcases hr42 with rfl | rfl
              · refine q_if_eq hx hb (a := 0) (by decide) (tgt := 184) dX3_takeTest_177 rfl (fun c43 => ?_) (fun c43 => absurd c43 (by omega))
                refine lv_iconst (v := 0) hx hb dX3_takeTest_184 rfl ?_
                exact ret 0 H42 locs42 _ _ dX3_takeTest_185 (Or.inl rfl) ⟨hKp42, Or.inl rfl⟩ hC42 hS42
              · refine q_if_eq hx hb (a := 1) (by decide) (tgt := 184) dX3_takeTest_177 rfl (fun c44 => absurd c44 (by omega)) (fun c44 => ?_)
                refine lv_iconst (v := 1) hx hb dX3_takeTest_180 rfl ?_
                refine lv_goto (tgt := 185) hx hb dX3_takeTest_181 rfl ?_
                exact ret 1 H42 locs42 _ _ dX3_takeTest_185 (Or.inr rfl) ⟨hKp42, Or.inr rfl⟩ hC42 hS42
          · refine lv_bipush (v := 7) hx hb dX3_takeTest_152 rfl ?_
            refine lv_goto (tgt := 159) hx hb dX3_takeTest_154 rfl ?_
            refine q_iast E hC29 hS29 gq34 (by decide) rfl rfl (i_in (a := v35.toInt) rfl (by omega) (by omega)) tv_F dX3_takeTest_159 (fun H45 locs45 hC45 hS45 U45 => ?_)
            have hKp45 := Kp.upA gq34 rfl (by decide) rfl U45 hKp29
            refine lv_aload_n hx hb dX3_takeTest_160 rfl (lv_at hl 1 rfl) ?_
            refine lv_aload_n hx hb dX3_takeTest_161 rfl (lv_at hl 3 rfl) ?_
            refine q_goI (q_runV (As := [.ref h2]) (rest := []) E hC45 hS45 (m_X3_takeComparing l X Γ H45 hC45 h0 g0 h2 g2) cw_X3_takeComparing cl_RX3_214 g0 ⟨rfl, rfl⟩ rfl hl.1 rfl (Nat.zero_le _) (by decide) dX3_takeTest_162) hS45 (fun v46 H46 locs46 hr46 hC46 hS46 => ?_)
            obtain ⟨hp46, hr46⟩ := hr46
            have hKp46 := hKp45.tr (hp46.mono rfl)
            rcases hr46 with rfl | rfl
            · refine q_if_eq hx hb (a := 0) (by decide) (tgt := 184) dX3_takeTest_165 rfl (fun c47 => ?_) (fun c47 => absurd c47 (by omega))
              refine lv_iconst (v := 0) hx hb dX3_takeTest_184 rfl ?_
              exact ret 0 H46 locs46 _ _ dX3_takeTest_185 (Or.inl rfl) ⟨hKp46, Or.inl rfl⟩ hC46 hS46
            · refine q_if_eq hx hb (a := 1) (by decide) (tgt := 184) dX3_takeTest_165 rfl (fun c48 => absurd c48 (by omega)) (fun c48 => ?_)
              refine lv_aload_n hx hb dX3_takeTest_168 rfl (lv_at hl 1 rfl) ?_
              refine lv_aload_n hx hb dX3_takeTest_169 rfl (lv_at hl 3 rfl) ?_
              refine lv_iconst (v := 0) hx hb dX3_takeTest_170 rfl ?_
              refine lv_sipush (v := 999) hx hb dX3_takeTest_171 rfl ?_
              refine q_goI (q_runV (As := [.ref h2, .int 0, .int 999]) (rest := []) E hC46 hS46 (m_X3_takeAmount l X Γ H46 hC46 h0 g0 h2 g2 0 (a2 := 0) (by decide) 999 (a3 := 999) (by decide)) cw_X3_takeAmount cl_RX3_139 g0 ⟨rfl, rfl⟩ rfl hl.1 rfl (Nat.zero_le _) (by decide) dX3_takeTest_174) hS46 (fun v49 H49 locs49 hr49 hC49 hS49 => ?_)
              obtain ⟨hp49, hr49⟩ := hr49
              have hKp49 := hKp46.tr (hp49.mono rfl)
              rcases hr49 with rfl | rfl
              · refine q_if_eq hx hb (a := 0) (by decide) (tgt := 184) dX3_takeTest_177 rfl (fun c50 => ?_) (fun c50 => absurd c50 (by omega))
                refine lv_iconst (v := 0) hx hb dX3_takeTest_184 rfl ?_
                exact ret 0 H49 locs49 _ _ dX3_takeTest_185 (Or.inl rfl) ⟨hKp49, Or.inl rfl⟩ hC49 hS49
              · refine q_if_eq hx hb (a := 1) (by decide) (tgt := 184) dX3_takeTest_177 rfl (fun c51 => absurd c51 (by omega)) (fun c51 => ?_)
                refine lv_iconst (v := 1) hx hb dX3_takeTest_180 rfl ?_
                refine lv_goto (tgt := 185) hx hb dX3_takeTest_181 rfl ?_
                exact ret 1 H49 locs49 _ _ dX3_takeTest_185 (Or.inr rfl) ⟨hKp49, Or.inr rfl⟩ hC49 hS49
        · refine lv_aload_n hx hb dX3_takeTest_88 rfl (lv_at hl 3 rfl) ?_
          refine q_getR E hC29 g2 fa_RX3_76 dX3_takeTest_89 (fun q52 eq52 gq52 => ?_)
          refine lv_aload_n hx hb dX3_takeTest_92 rfl (lv_at hl 1 rfl) ?_
          refine q_getI E hC29 g0 fa_RX3_99 dX3_takeTest_93 (fun v53 ev53 lv53 uv53 => ?_)
          refine lv_bipush (v := 8) hx hb dX3_takeTest_96 rfl ?_
          refine q_iast E hC29 hS29 gq52 (by decide) rfl rfl (i_in (a := v53.toInt) rfl (by omega) (by omega)) tv_F dX3_takeTest_98 (fun H54 locs54 hC54 hS54 U54 => ?_)
          have hKp54 := Kp.upA gq52 rfl (by decide) rfl U54 hKp29
          refine lv_aload_n hx hb dX3_takeTest_99 rfl (lv_at hl 1 rfl) ?_
          refine lv_aload_n hx hb dX3_takeTest_100 rfl (lv_at hl 2 rfl) ?_
          refine lv_iconst (v := 1) hx hb dX3_takeTest_101 rfl ?_
          refine lv_aload_n hx hb dX3_takeTest_102 rfl (lv_at hl 3 rfl) ?_
          refine q_getR E hC54 g2 fa_RX3_146 dX3_takeTest_103 (fun q55 eq55 gq55 => ?_)
          refine q_goI (q_runV (As := [.ref h1, .int 1, .ref q55]) (rest := []) E hC54 hS54 (m_X3_takeCell l X Γ H54 hC54 h0 g0 h1 g1 1 (a2 := 1) (by decide) q55 gq55) cw_X3_takeCell cl_RX3_149 g0 ⟨rfl, rfl⟩ rfl hl.1 rfl (Nat.zero_le _) (by decide) dX3_takeTest_106) hS54 (fun v56 H56 locs56 hr56 hC56 hS56 => ?_)
          obtain ⟨hp56, hr56⟩ := hr56
          have hKp56 := hKp54.tr (hp56.mono rfl)
          rcases hr56 with rfl | rfl
          · refine q_if_eq hx hb (a := 0) (by decide) (tgt := 135) dX3_takeTest_109 rfl (fun c57 => ?_) (fun c57 => absurd c57 (by omega))
            refine lv_iconst (v := 0) hx hb dX3_takeTest_135 rfl ?_
            exact ret 0 H56 locs56 _ _ dX3_takeTest_136 (Or.inl rfl) ⟨hKp56, Or.inl rfl⟩ hC56 hS56
          · refine q_if_eq hx hb (a := 1) (by decide) (tgt := 135) dX3_takeTest_109 rfl (fun c58 => absurd c58 (by omega)) (fun c58 => ?_)
            refine lv_aload_n hx hb dX3_takeTest_112 rfl (lv_at hl 1 rfl) ?_
            refine lv_aload_n hx hb dX3_takeTest_113 rfl (lv_at hl 3 rfl) ?_
            refine q_goI (q_runV (As := [.ref h2]) (rest := []) E hC56 hS56 (m_X3_takeComparing l X Γ H56 hC56 h0 g0 h2 g2) cw_X3_takeComparing cl_RX3_214 g0 ⟨rfl, rfl⟩ rfl hl.1 rfl (Nat.zero_le _) (by decide) dX3_takeTest_114) hS56 (fun v59 H59 locs59 hr59 hC59 hS59 => ?_)
            obtain ⟨hp59, hr59⟩ := hr59
            have hKp59 := hKp56.tr (hp59.mono rfl)
            rcases hr59 with rfl | rfl
            · refine q_if_eq hx hb (a := 0) (by decide) (tgt := 135) dX3_takeTest_117 rfl (fun c60 => ?_) (fun c60 => absurd c60 (by omega))
              refine lv_iconst (v := 0) hx hb dX3_takeTest_135 rfl ?_
              exact ret 0 H59 locs59 _ _ dX3_takeTest_136 (Or.inl rfl) ⟨hKp59, Or.inl rfl⟩ hC59 hS59
            · refine q_if_eq hx hb (a := 1) (by decide) (tgt := 135) dX3_takeTest_117 rfl (fun c61 => absurd c61 (by omega)) (fun c61 => ?_)
              refine lv_aload_n hx hb dX3_takeTest_120 rfl (lv_at hl 1 rfl) ?_
              refine lv_aload_n hx hb dX3_takeTest_121 rfl (lv_at hl 3 rfl) ?_
              refine lv_iconst (v := 0) hx hb dX3_takeTest_122 rfl ?_
              refine lv_bipush (v := 99) hx hb dX3_takeTest_123 rfl ?_
              refine q_goI (q_runV (As := [.ref h2, .int 0, .int 99]) (rest := []) E hC59 hS59 (m_X3_takeAmount l X Γ H59 hC59 h0 g0 h2 g2 0 (a2 := 0) (by decide) 99 (a3 := 99) (by decide)) cw_X3_takeAmount cl_RX3_139 g0 ⟨rfl, rfl⟩ rfl hl.1 rfl (Nat.zero_le _) (by decide) dX3_takeTest_125) hS59 (fun v62 H62 locs62 hr62 hC62 hS62 => ?_)
              obtain ⟨hp62, hr62⟩ := hr62
              have hKp62 := hKp59.tr (hp62.mono rfl)
              rcases hr62 with rfl | rfl
              · refine q_if_eq hx hb (a := 0) (by decide) (tgt := 135) dX3_takeTest_128 rfl (fun c63 => ?_) (fun c63 => absurd c63 (by omega))
                refine lv_iconst (v := 0) hx hb dX3_takeTest_135 rfl ?_
                exact ret 0 H62 locs62 _ _ dX3_takeTest_136 (Or.inl rfl) ⟨hKp62, Or.inl rfl⟩ hC62 hS62
              · refine q_if_eq hx hb (a := 1) (by decide) (tgt := 135) dX3_takeTest_128 rfl (fun c64 => absurd c64 (by omega)) (fun c64 => ?_)
                refine lv_iconst (v := 1) hx hb dX3_takeTest_131 rfl ?_
                refine lv_goto (tgt := 136) hx hb dX3_takeTest_132 rfl ?_
                exact ret 1 H62 locs62 _ _ dX3_takeTest_136 (Or.inr rfl) ⟨hKp62, Or.inr rfl⟩ hC62 hS62
      · refine lv_aload_n hx hb dX3_takeTest_68 rfl (lv_at hl 3 rfl) ?_
        refine q_getR E hC29 g2 fa_RX3_76 dX3_takeTest_69 (fun q65 eq65 gq65 => ?_)
        refine lv_aload_n hx hb dX3_takeTest_72 rfl (lv_at hl 1 rfl) ?_
        refine q_getI E hC29 g0 fa_RX3_99 dX3_takeTest_73 (fun v66 ev66 lv66 uv66 => ?_)
        refine lv_bipush (v := 9) hx hb dX3_takeTest_76 rfl ?_
        refine q_iast E hC29 hS29 gq65 (by decide) rfl rfl (i_in (a := v66.toInt) rfl (by omega) (by omega)) tv_F dX3_takeTest_78 (fun H67 locs67 hC67 hS67 U67 => ?_)
        have hKp67 := Kp.upA gq65 rfl (by decide) rfl U67 hKp29
        refine lv_iconst (v := 1) hx hb dX3_takeTest_79 rfl ?_
        exact ret 1 H67 locs67 _ _ dX3_takeTest_80 (Or.inr rfl) ⟨hKp67, Or.inr rfl⟩ hC67 hS67
    · refine q_if_ne hx hb (a := 0) (by decide) (tgt := 54) dX3_takeTest_43 rfl (fun c68 => absurd c68 (by omega)) (fun c68 => ?_)
      refine lv_aload_n hx hb dX3_takeTest_46 rfl (lv_at hl 1 rfl) ?_
      refine q_getR E hC0 g0 fa_RX3_15 dX3_takeTest_47 (fun q69 eq69 gq69 => ?_)
      refine q_goI (q_runV (As := []) (rest := []) E hC0 hS26 (m_X4_misfit l X Γ H0 hC0 q69 gq69) cw_X4_misfit cl_RX3_58 gq69 ⟨rfl, rfl⟩ rfl hl.1 rfl (Nat.zero_le _) (by decide) dX3_takeTest_50) hS26 (fun v70 H70 locs70 hr70 hC70 hS70 => ?_)
      obtain ⟨hp70, hr70⟩ := hr70
      have hKp70 := hKp0.tr (hp70.mono rfl)
      rcases hr70 with rfl | rfl
      · exact ret 0 H70 locs70 _ _ dX3_takeTest_53 (Or.inl rfl) ⟨hKp70, Or.inl rfl⟩ hC70 hS70
      · exact ret 1 H70 locs70 _ _ dX3_takeTest_53 (Or.inr rfl) ⟨hKp70, Or.inr rfl⟩ hC70 hS70
  · refine q_alq_n (o := q22) hx hb dX3_takeTest_15 rfl (lv_at hl 0 rfl) ?_
    refine q_word E hS0 (i := 23) (by decide) w_765 dX3_takeTest_16 (fun q71 gq71 => ?_)
    refine lv_acmp_eq (rx := q22) (ry := (some q71)) (tgt := 36) hx hb dX3_takeTest_19 rfl (fun c72 => ?_) (fun c72 => ?_)
    · refine lv_aload_n hx hb dX3_takeTest_36 rfl (lv_at hl 1 rfl) ?_
      refine q_getI E hC0 g0 fa_RX3_99 dX3_takeTest_37 (fun v73 ev73 lv73 uv73 => ?_)
      refine q_goIp (q_runS (As := [.int v73]) (rest := []) E hS0 (m_X2_isItem l X Γ H0 hC0 v73 (a0 := v73.toInt) rfl) cw_X2_isItem cl_RX3_73 rfl hl.1 rfl (Nat.zero_le _) (by decide) dX3_takeTest_40) hS0 (fun v74 locs74 hr74 hS74 => ?_)
      rcases hr74 with ⟨rfl, f74a0, f74a1⟩ | ⟨rfl, -⟩
      · refine q_if_ne hx hb (a := 1) (by decide) (tgt := 54) dX3_takeTest_43 rfl (fun c75 => ?_) (fun c75 => absurd c75 (by omega))
        refine lv_aload_n hx hb dX3_takeTest_54 rfl (lv_at hl 1 rfl) ?_
        refine q_getR E hC0 g0 fa_RX3_15 dX3_takeTest_55 (fun q76 eq76 gq76 => ?_)
        refine q_goV (q_runV (As := []) (rest := []) E hC0 hS74 (m_X4_advance l X Γ H0 hC0 q76 gq76) cw_X4_advance cl_RX3_82 gq76 ⟨rfl, rfl⟩ rfl hl.1 rfl (Nat.zero_le _) (by decide) dX3_takeTest_58) hS74 (fun H77 locs77 hr77 hC77 hS77 => ?_)
        have hKp77 := hKp0.tr (hr77.mono rfl)
        refine q_alq_n (o := q22) hx hb dX3_takeTest_61 rfl (lv_at hl 0 rfl) ?_
        refine q_word E hS77 (i := 24) (by decide) w_763 dX3_takeTest_62 (fun q78 gq78 => ?_)
        refine lv_acmp_ne (rx := q22) (ry := (some q78)) (tgt := 81) hx hb dX3_takeTest_65 rfl (fun c79 => ?_) (fun c79 => ?_)
        · refine q_alq_n (o := q22) hx hb dX3_takeTest_81 rfl (lv_at hl 0 rfl) ?_
          refine q_word E hS77 (i := 6) (by decide) w_767 dX3_takeTest_82 (fun q80 gq80 => ?_)
          refine lv_acmp_ne (rx := q22) (ry := (some q80)) (tgt := 137) hx hb dX3_takeTest_85 rfl (fun c81 => ?_) (fun c81 => ?_)
          · refine lv_aload_n hx hb dX3_takeTest_137 rfl (lv_at hl 3 rfl) ?_
            refine q_getR E hC77 g2 fa_RX3_76 dX3_takeTest_138 (fun q82 eq82 gq82 => ?_)
            refine lv_aload_n hx hb dX3_takeTest_141 rfl (lv_at hl 1 rfl) ?_
            refine q_getI E hC77 g0 fa_RX3_99 dX3_takeTest_142 (fun v83 ev83 lv83 uv83 => ?_)
            refine q_alq_n (o := q22) hx hb dX3_takeTest_145 rfl (lv_at hl 0 rfl) ?_
            refine q_word E hS77 (i := 23) (by decide) w_765 dX3_takeTest_146 (fun q84 gq84 => ?_)
            refine lv_acmp_ne (rx := q22) (ry := (some q84)) (tgt := 157) hx hb dX3_takeTest_149 rfl (fun c85 => ?_) (fun c85 => ?_)
            · refine lv_bipush (v := 10) hx hb dX3_takeTest_157 rfl ?_
              refine q_iast E hC77 hS77 gq82 (by decide) rfl rfl (i_in (a := v83.toInt) rfl (by omega) (by omega)) tv_F dX3_takeTest_159 (fun H86 locs86 hC86 hS86 U86 => ?_)
              have hKp86 := Kp.upA gq82 rfl (by decide) rfl U86 hKp77
              refine lv_aload_n hx hb dX3_takeTest_160 rfl (lv_at hl 1 rfl) ?_
              refine lv_aload_n hx hb dX3_takeTest_161 rfl (lv_at hl 3 rfl) ?_
              refine q_goI (q_runV (As := [.ref h2]) (rest := []) E hC86 hS86 (m_X3_takeComparing l X Γ H86 hC86 h0 g0 h2 g2) cw_X3_takeComparing cl_RX3_214 g0 ⟨rfl, rfl⟩ rfl hl.1 rfl (Nat.zero_le _) (by decide) dX3_takeTest_162) hS86 (fun v87 H87 locs87 hr87 hC87 hS87 => ?_)
              obtain ⟨hp87, hr87⟩ := hr87
              have hKp87 := hKp86.tr (hp87.mono rfl)
              rcases hr87 with rfl | rfl
              · refine q_if_eq hx hb (a := 0) (by decide) (tgt := 184) dX3_takeTest_165 rfl (fun c88 => ?_) (fun c88 => absurd c88 (by omega))
                refine lv_iconst (v := 0) hx hb dX3_takeTest_184 rfl ?_
                exact ret 0 H87 locs87 _ _ dX3_takeTest_185 (Or.inl rfl) ⟨hKp87, Or.inl rfl⟩ hC87 hS87
              · refine q_if_eq hx hb (a := 1) (by decide) (tgt := 184) dX3_takeTest_165 rfl (fun c89 => absurd c89 (by omega)) (fun c89 => ?_)
                refine lv_aload_n hx hb dX3_takeTest_168 rfl (lv_at hl 1 rfl) ?_
                refine lv_aload_n hx hb dX3_takeTest_169 rfl (lv_at hl 3 rfl) ?_
                refine lv_iconst (v := 0) hx hb dX3_takeTest_170 rfl ?_
                refine lv_sipush (v := 999) hx hb dX3_takeTest_171 rfl ?_
                refine q_goI (q_runV (As := [.ref h2, .int 0, .int 999]) (rest := []) E hC87 hS87 (m_X3_takeAmount l X Γ H87 hC87 h0 g0 h2 g2 0 (a2 := 0) (by decide) 999 (a3 := 999) (by decide)) cw_X3_takeAmount cl_RX3_139 g0 ⟨rfl, rfl⟩ rfl hl.1 rfl (Nat.zero_le _) (by decide) dX3_takeTest_174) hS87 (fun v90 H90 locs90 hr90 hC90 hS90 => ?_)
                obtain ⟨hp90, hr90⟩ := hr90
                have hKp90 := hKp87.tr (hp90.mono rfl)
                rcases hr90 with rfl | rfl
                · refine q_if_eq hx hb (a := 0) (by decide) (tgt := 184) dX3_takeTest_177 rfl (fun c91 => ?_) (fun c91 => absurd c91 (by omega))
                  refine lv_iconst (v := 0) hx hb dX3_takeTest_184 rfl ?_
                  exact ret 0 H90 locs90 _ _ dX3_takeTest_185 (Or.inl rfl) ⟨hKp90, Or.inl rfl⟩ hC90 hS90
                · refine q_if_eq hx hb (a := 1) (by decide) (tgt := 184) dX3_takeTest_177 rfl (fun c92 => absurd c92 (by omega)) (fun c92 => ?_)
                  refine lv_iconst (v := 1) hx hb dX3_takeTest_180 rfl ?_
                  refine lv_goto (tgt := 185) hx hb dX3_takeTest_181 rfl ?_
                  exact ret 1 H90 locs90 _ _ dX3_takeTest_185 (Or.inr rfl) ⟨hKp90, Or.inr rfl⟩ hC90 hS90
            · refine lv_bipush (v := 7) hx hb dX3_takeTest_152 rfl ?_
              refine lv_goto (tgt := 159) hx hb dX3_takeTest_154 rfl ?_
              refine q_iast E hC77 hS77 gq82 (by decide) rfl rfl (i_in (a := v83.toInt) rfl (by omega) (by omega)) tv_F dX3_takeTest_159 (fun H93 locs93 hC93 hS93 U93 => ?_)
              have hKp93 := Kp.upA gq82 rfl (by decide) rfl U93 hKp77
              refine lv_aload_n hx hb dX3_takeTest_160 rfl (lv_at hl 1 rfl) ?_
              refine lv_aload_n hx hb dX3_takeTest_161 rfl (lv_at hl 3 rfl) ?_
              refine q_goI (q_runV (As := [.ref h2]) (rest := []) E hC93 hS93 (m_X3_takeComparing l X Γ H93 hC93 h0 g0 h2 g2) cw_X3_takeComparing cl_RX3_214 g0 ⟨rfl, rfl⟩ rfl hl.1 rfl (Nat.zero_le _) (by decide) dX3_takeTest_162) hS93 (fun v94 H94 locs94 hr94 hC94 hS94 => ?_)
              obtain ⟨hp94, hr94⟩ := hr94
              have hKp94 := hKp93.tr (hp94.mono rfl)
              rcases hr94 with rfl | rfl
              · refine q_if_eq hx hb (a := 0) (by decide) (tgt := 184) dX3_takeTest_165 rfl (fun c95 => ?_) (fun c95 => absurd c95 (by omega))
                refine lv_iconst (v := 0) hx hb dX3_takeTest_184 rfl ?_
                exact ret 0 H94 locs94 _ _ dX3_takeTest_185 (Or.inl rfl) ⟨hKp94, Or.inl rfl⟩ hC94 hS94
              · refine q_if_eq hx hb (a := 1) (by decide) (tgt := 184) dX3_takeTest_165 rfl (fun c96 => absurd c96 (by omega)) (fun c96 => ?_)
                refine lv_aload_n hx hb dX3_takeTest_168 rfl (lv_at hl 1 rfl) ?_
                refine lv_aload_n hx hb dX3_takeTest_169 rfl (lv_at hl 3 rfl) ?_
                refine lv_iconst (v := 0) hx hb dX3_takeTest_170 rfl ?_
                refine lv_sipush (v := 999) hx hb dX3_takeTest_171 rfl ?_
                refine q_goI (q_runV (As := [.ref h2, .int 0, .int 999]) (rest := []) E hC94 hS94 (m_X3_takeAmount l X Γ H94 hC94 h0 g0 h2 g2 0 (a2 := 0) (by decide) 999 (a3 := 999) (by decide)) cw_X3_takeAmount cl_RX3_139 g0 ⟨rfl, rfl⟩ rfl hl.1 rfl (Nat.zero_le _) (by decide) dX3_takeTest_174) hS94 (fun v97 H97 locs97 hr97 hC97 hS97 => ?_)
                obtain ⟨hp97, hr97⟩ := hr97
                have hKp97 := hKp94.tr (hp97.mono rfl)
                rcases hr97 with rfl | rfl
                · refine q_if_eq hx hb (a := 0) (by decide) (tgt := 184) dX3_takeTest_177 rfl (fun c98 => ?_) (fun c98 => absurd c98 (by omega))
                  refine lv_iconst (v := 0) hx hb dX3_takeTest_184 rfl ?_
                  exact ret 0 H97 locs97 _ _ dX3_takeTest_185 (Or.inl rfl) ⟨hKp97, Or.inl rfl⟩ hC97 hS97
                · refine q_if_eq hx hb (a := 1) (by decide) (tgt := 184) dX3_takeTest_177 rfl (fun c99 => absurd c99 (by omega)) (fun c99 => ?_)
                  refine lv_iconst (v := 1) hx hb dX3_takeTest_180 rfl ?_
                  refine lv_goto (tgt := 185) hx hb dX3_takeTest_181 rfl ?_
                  exact ret 1 H97 locs97 _ _ dX3_takeTest_185 (Or.inr rfl) ⟨hKp97, Or.inr rfl⟩ hC97 hS97
          · refine lv_aload_n hx hb dX3_takeTest_88 rfl (lv_at hl 3 rfl) ?_
            refine q_getR E hC77 g2 fa_RX3_76 dX3_takeTest_89 (fun q100 eq100 gq100 => ?_)
            refine lv_aload_n hx hb dX3_takeTest_92 rfl (lv_at hl 1 rfl) ?_
            refine q_getI E hC77 g0 fa_RX3_99 dX3_takeTest_93 (fun v101 ev101 lv101 uv101 => ?_)
            refine lv_bipush (v := 8) hx hb dX3_takeTest_96 rfl ?_
            refine q_iast E hC77 hS77 gq100 (by decide) rfl rfl (i_in (a := v101.toInt) rfl (by omega) (by omega)) tv_F dX3_takeTest_98 (fun H102 locs102 hC102 hS102 U102 => ?_)
            have hKp102 := Kp.upA gq100 rfl (by decide) rfl U102 hKp77
            refine lv_aload_n hx hb dX3_takeTest_99 rfl (lv_at hl 1 rfl) ?_
            refine lv_aload_n hx hb dX3_takeTest_100 rfl (lv_at hl 2 rfl) ?_
            refine lv_iconst (v := 1) hx hb dX3_takeTest_101 rfl ?_
            refine lv_aload_n hx hb dX3_takeTest_102 rfl (lv_at hl 3 rfl) ?_
            refine q_getR E hC102 g2 fa_RX3_146 dX3_takeTest_103 (fun q103 eq103 gq103 => ?_)
            refine q_goI (q_runV (As := [.ref h1, .int 1, .ref q103]) (rest := []) E hC102 hS102 (m_X3_takeCell l X Γ H102 hC102 h0 g0 h1 g1 1 (a2 := 1) (by decide) q103 gq103) cw_X3_takeCell cl_RX3_149 g0 ⟨rfl, rfl⟩ rfl hl.1 rfl (Nat.zero_le _) (by decide) dX3_takeTest_106) hS102 (fun v104 H104 locs104 hr104 hC104 hS104 => ?_)
            obtain ⟨hp104, hr104⟩ := hr104
            have hKp104 := hKp102.tr (hp104.mono rfl)
            rcases hr104 with rfl | rfl
            · refine q_if_eq hx hb (a := 0) (by decide) (tgt := 135) dX3_takeTest_109 rfl (fun c105 => ?_) (fun c105 => absurd c105 (by omega))
              refine lv_iconst (v := 0) hx hb dX3_takeTest_135 rfl ?_
              exact ret 0 H104 locs104 _ _ dX3_takeTest_136 (Or.inl rfl) ⟨hKp104, Or.inl rfl⟩ hC104 hS104
            · refine q_if_eq hx hb (a := 1) (by decide) (tgt := 135) dX3_takeTest_109 rfl (fun c106 => absurd c106 (by omega)) (fun c106 => ?_)
              refine lv_aload_n hx hb dX3_takeTest_112 rfl (lv_at hl 1 rfl) ?_
              refine lv_aload_n hx hb dX3_takeTest_113 rfl (lv_at hl 3 rfl) ?_
              refine q_goI (q_runV (As := [.ref h2]) (rest := []) E hC104 hS104 (m_X3_takeComparing l X Γ H104 hC104 h0 g0 h2 g2) cw_X3_takeComparing cl_RX3_214 g0 ⟨rfl, rfl⟩ rfl hl.1 rfl (Nat.zero_le _) (by decide) dX3_takeTest_114) hS104 (fun v107 H107 locs107 hr107 hC107 hS107 => ?_)
              obtain ⟨hp107, hr107⟩ := hr107
              have hKp107 := hKp104.tr (hp107.mono rfl)
              rcases hr107 with rfl | rfl
              · refine q_if_eq hx hb (a := 0) (by decide) (tgt := 135) dX3_takeTest_117 rfl (fun c108 => ?_) (fun c108 => absurd c108 (by omega))
                refine lv_iconst (v := 0) hx hb dX3_takeTest_135 rfl ?_
                exact ret 0 H107 locs107 _ _ dX3_takeTest_136 (Or.inl rfl) ⟨hKp107, Or.inl rfl⟩ hC107 hS107
              · refine q_if_eq hx hb (a := 1) (by decide) (tgt := 135) dX3_takeTest_117 rfl (fun c109 => absurd c109 (by omega)) (fun c109 => ?_)
                refine lv_aload_n hx hb dX3_takeTest_120 rfl (lv_at hl 1 rfl) ?_
                refine lv_aload_n hx hb dX3_takeTest_121 rfl (lv_at hl 3 rfl) ?_
                refine lv_iconst (v := 0) hx hb dX3_takeTest_122 rfl ?_
                refine lv_bipush (v := 99) hx hb dX3_takeTest_123 rfl ?_
                refine q_goI (q_runV (As := [.ref h2, .int 0, .int 99]) (rest := []) E hC107 hS107 (m_X3_takeAmount l X Γ H107 hC107 h0 g0 h2 g2 0 (a2 := 0) (by decide) 99 (a3 := 99) (by decide)) cw_X3_takeAmount cl_RX3_139 g0 ⟨rfl, rfl⟩ rfl hl.1 rfl (Nat.zero_le _) (by decide) dX3_takeTest_125) hS107 (fun v110 H110 locs110 hr110 hC110 hS110 => ?_)
                obtain ⟨hp110, hr110⟩ := hr110
                have hKp110 := hKp107.tr (hp110.mono rfl)
                rcases hr110 with rfl | rfl
                · refine q_if_eq hx hb (a := 0) (by decide) (tgt := 135) dX3_takeTest_128 rfl (fun c111 => ?_) (fun c111 => absurd c111 (by omega))
                  refine lv_iconst (v := 0) hx hb dX3_takeTest_135 rfl ?_
                  exact ret 0 H110 locs110 _ _ dX3_takeTest_136 (Or.inl rfl) ⟨hKp110, Or.inl rfl⟩ hC110 hS110
                · refine q_if_eq hx hb (a := 1) (by decide) (tgt := 135) dX3_takeTest_128 rfl (fun c112 => absurd c112 (by omega)) (fun c112 => ?_)
                  refine lv_iconst (v := 1) hx hb dX3_takeTest_131 rfl ?_
                  refine lv_goto (tgt := 136) hx hb dX3_takeTest_132 rfl ?_
                  exact ret 1 H110 locs110 _ _ dX3_takeTest_136 (Or.inr rfl) ⟨hKp110, Or.inr rfl⟩ hC110 hS110
        · refine lv_aload_n hx hb dX3_takeTest_68 rfl (lv_at hl 3 rfl) ?_
          refine q_getR E hC77 g2 fa_RX3_76 dX3_takeTest_69 (fun q113 eq113 gq113 => ?_)
          refine lv_aload_n hx hb dX3_takeTest_72 rfl (lv_at hl 1 rfl) ?_
          refine q_getI E hC77 g0 fa_RX3_99 dX3_takeTest_73 (fun v114 ev114 lv114 uv114 => ?_)
          refine lv_bipush (v := 9) hx hb dX3_takeTest_76 rfl ?_
          refine q_iast E hC77 hS77 gq113 (by decide) rfl rfl (i_in (a := v114.toInt) rfl (by omega) (by omega)) tv_F dX3_takeTest_78 (fun H115 locs115 hC115 hS115 U115 => ?_)
          have hKp115 := Kp.upA gq113 rfl (by decide) rfl U115 hKp77
          refine lv_iconst (v := 1) hx hb dX3_takeTest_79 rfl ?_
          exact ret 1 H115 locs115 _ _ dX3_takeTest_80 (Or.inr rfl) ⟨hKp115, Or.inr rfl⟩ hC115 hS115
      · refine q_if_ne hx hb (a := 0) (by decide) (tgt := 54) dX3_takeTest_43 rfl (fun c116 => absurd c116 (by omega)) (fun c116 => ?_)
        refine lv_aload_n hx hb dX3_takeTest_46 rfl (lv_at hl 1 rfl) ?_
        refine q_getR E hC0 g0 fa_RX3_15 dX3_takeTest_47 (fun q117 eq117 gq117 => ?_)
        refine q_goI (q_runV (As := []) (rest := []) E hC0 hS74 (m_X4_misfit l X Γ H0 hC0 q117 gq117) cw_X4_misfit cl_RX3_58 gq117 ⟨rfl, rfl⟩ rfl hl.1 rfl (Nat.zero_le _) (by decide) dX3_takeTest_50) hS74 (fun v118 H118 locs118 hr118 hC118 hS118 => ?_)
        obtain ⟨hp118, hr118⟩ := hr118
        have hKp118 := hKp0.tr (hp118.mono rfl)
        rcases hr118 with rfl | rfl
        · exact ret 0 H118 locs118 _ _ dX3_takeTest_53 (Or.inl rfl) ⟨hKp118, Or.inl rfl⟩ hC118 hS118
        · exact ret 1 H118 locs118 _ _ dX3_takeTest_53 (Or.inr rfl) ⟨hKp118, Or.inr rfl⟩ hC118 hS118
    · refine q_alq_n (o := q22) hx hb dX3_takeTest_22 rfl (lv_at hl 0 rfl) ?_
      refine q_word E hS0 (i := 6) (by decide) w_767 dX3_takeTest_23 (fun q119 gq119 => ?_)
      refine lv_acmp_eq (rx := q22) (ry := (some q119)) (tgt := 36) hx hb dX3_takeTest_26 rfl (fun c120 => ?_) (fun c120 => ?_)
      · refine lv_aload_n hx hb dX3_takeTest_36 rfl (lv_at hl 1 rfl) ?_
        refine q_getI E hC0 g0 fa_RX3_99 dX3_takeTest_37 (fun v121 ev121 lv121 uv121 => ?_)
        refine q_goIp (q_runS (As := [.int v121]) (rest := []) E hS0 (m_X2_isItem l X Γ H0 hC0 v121 (a0 := v121.toInt) rfl) cw_X2_isItem cl_RX3_73 rfl hl.1 rfl (Nat.zero_le _) (by decide) dX3_takeTest_40) hS0 (fun v122 locs122 hr122 hS122 => ?_)
        rcases hr122 with ⟨rfl, f122a0, f122a1⟩ | ⟨rfl, -⟩
        · refine q_if_ne hx hb (a := 1) (by decide) (tgt := 54) dX3_takeTest_43 rfl (fun c123 => ?_) (fun c123 => absurd c123 (by omega))
          refine lv_aload_n hx hb dX3_takeTest_54 rfl (lv_at hl 1 rfl) ?_
          refine q_getR E hC0 g0 fa_RX3_15 dX3_takeTest_55 (fun q124 eq124 gq124 => ?_)
          refine q_goV (q_runV (As := []) (rest := []) E hC0 hS122 (m_X4_advance l X Γ H0 hC0 q124 gq124) cw_X4_advance cl_RX3_82 gq124 ⟨rfl, rfl⟩ rfl hl.1 rfl (Nat.zero_le _) (by decide) dX3_takeTest_58) hS122 (fun H125 locs125 hr125 hC125 hS125 => ?_)
          have hKp125 := hKp0.tr (hr125.mono rfl)
          refine q_alq_n (o := q22) hx hb dX3_takeTest_61 rfl (lv_at hl 0 rfl) ?_
          refine q_word E hS125 (i := 24) (by decide) w_763 dX3_takeTest_62 (fun q126 gq126 => ?_)
          refine lv_acmp_ne (rx := q22) (ry := (some q126)) (tgt := 81) hx hb dX3_takeTest_65 rfl (fun c127 => ?_) (fun c127 => ?_)
          · refine q_alq_n (o := q22) hx hb dX3_takeTest_81 rfl (lv_at hl 0 rfl) ?_
            refine q_word E hS125 (i := 6) (by decide) w_767 dX3_takeTest_82 (fun q128 gq128 => ?_)
            refine lv_acmp_ne (rx := q22) (ry := (some q128)) (tgt := 137) hx hb dX3_takeTest_85 rfl (fun c129 => ?_) (fun c129 => ?_)
            · refine lv_aload_n hx hb dX3_takeTest_137 rfl (lv_at hl 3 rfl) ?_
              refine q_getR E hC125 g2 fa_RX3_76 dX3_takeTest_138 (fun q130 eq130 gq130 => ?_)
              refine lv_aload_n hx hb dX3_takeTest_141 rfl (lv_at hl 1 rfl) ?_
              refine q_getI E hC125 g0 fa_RX3_99 dX3_takeTest_142 (fun v131 ev131 lv131 uv131 => ?_)
              refine q_alq_n (o := q22) hx hb dX3_takeTest_145 rfl (lv_at hl 0 rfl) ?_
              refine q_word E hS125 (i := 23) (by decide) w_765 dX3_takeTest_146 (fun q132 gq132 => ?_)
              refine lv_acmp_ne (rx := q22) (ry := (some q132)) (tgt := 157) hx hb dX3_takeTest_149 rfl (fun c133 => ?_) (fun c133 => ?_)
              · refine lv_bipush (v := 10) hx hb dX3_takeTest_157 rfl ?_
                refine q_iast E hC125 hS125 gq130 (by decide) rfl rfl (i_in (a := v131.toInt) rfl (by omega) (by omega)) tv_F dX3_takeTest_159 (fun H134 locs134 hC134 hS134 U134 => ?_)
                have hKp134 := Kp.upA gq130 rfl (by decide) rfl U134 hKp125
                refine lv_aload_n hx hb dX3_takeTest_160 rfl (lv_at hl 1 rfl) ?_
                refine lv_aload_n hx hb dX3_takeTest_161 rfl (lv_at hl 3 rfl) ?_
                refine q_goI (q_runV (As := [.ref h2]) (rest := []) E hC134 hS134 (m_X3_takeComparing l X Γ H134 hC134 h0 g0 h2 g2) cw_X3_takeComparing cl_RX3_214 g0 ⟨rfl, rfl⟩ rfl hl.1 rfl (Nat.zero_le _) (by decide) dX3_takeTest_162) hS134 (fun v135 H135 locs135 hr135 hC135 hS135 => ?_)
                obtain ⟨hp135, hr135⟩ := hr135
                have hKp135 := hKp134.tr (hp135.mono rfl)
                rcases hr135 with rfl | rfl
                · refine q_if_eq hx hb (a := 0) (by decide) (tgt := 184) dX3_takeTest_165 rfl (fun c136 => ?_) (fun c136 => absurd c136 (by omega))
                  refine lv_iconst (v := 0) hx hb dX3_takeTest_184 rfl ?_
                  exact ret 0 H135 locs135 _ _ dX3_takeTest_185 (Or.inl rfl) ⟨hKp135, Or.inl rfl⟩ hC135 hS135
                · refine q_if_eq hx hb (a := 1) (by decide) (tgt := 184) dX3_takeTest_165 rfl (fun c137 => absurd c137 (by omega)) (fun c137 => ?_)
                  refine lv_aload_n hx hb dX3_takeTest_168 rfl (lv_at hl 1 rfl) ?_
                  refine lv_aload_n hx hb dX3_takeTest_169 rfl (lv_at hl 3 rfl) ?_
                  refine lv_iconst (v := 0) hx hb dX3_takeTest_170 rfl ?_
                  refine lv_sipush (v := 999) hx hb dX3_takeTest_171 rfl ?_
                  refine q_goI (q_runV (As := [.ref h2, .int 0, .int 999]) (rest := []) E hC135 hS135 (m_X3_takeAmount l X Γ H135 hC135 h0 g0 h2 g2 0 (a2 := 0) (by decide) 999 (a3 := 999) (by decide)) cw_X3_takeAmount cl_RX3_139 g0 ⟨rfl, rfl⟩ rfl hl.1 rfl (Nat.zero_le _) (by decide) dX3_takeTest_174) hS135 (fun v138 H138 locs138 hr138 hC138 hS138 => ?_)
                  obtain ⟨hp138, hr138⟩ := hr138
                  have hKp138 := hKp135.tr (hp138.mono rfl)
                  rcases hr138 with rfl | rfl
                  · refine q_if_eq hx hb (a := 0) (by decide) (tgt := 184) dX3_takeTest_177 rfl (fun c139 => ?_) (fun c139 => absurd c139 (by omega))
                    refine lv_iconst (v := 0) hx hb dX3_takeTest_184 rfl ?_
                    exact ret 0 H138 locs138 _ _ dX3_takeTest_185 (Or.inl rfl) ⟨hKp138, Or.inl rfl⟩ hC138 hS138
                  · refine q_if_eq hx hb (a := 1) (by decide) (tgt := 184) dX3_takeTest_177 rfl (fun c140 => absurd c140 (by omega)) (fun c140 => ?_)
                    refine lv_iconst (v := 1) hx hb dX3_takeTest_180 rfl ?_
                    refine lv_goto (tgt := 185) hx hb dX3_takeTest_181 rfl ?_
                    exact ret 1 H138 locs138 _ _ dX3_takeTest_185 (Or.inr rfl) ⟨hKp138, Or.inr rfl⟩ hC138 hS138
              · refine lv_bipush (v := 7) hx hb dX3_takeTest_152 rfl ?_
                refine lv_goto (tgt := 159) hx hb dX3_takeTest_154 rfl ?_
                refine q_iast E hC125 hS125 gq130 (by decide) rfl rfl (i_in (a := v131.toInt) rfl (by omega) (by omega)) tv_F dX3_takeTest_159 (fun H141 locs141 hC141 hS141 U141 => ?_)
                have hKp141 := Kp.upA gq130 rfl (by decide) rfl U141 hKp125
                refine lv_aload_n hx hb dX3_takeTest_160 rfl (lv_at hl 1 rfl) ?_
                refine lv_aload_n hx hb dX3_takeTest_161 rfl (lv_at hl 3 rfl) ?_
                refine q_goI (q_runV (As := [.ref h2]) (rest := []) E hC141 hS141 (m_X3_takeComparing l X Γ H141 hC141 h0 g0 h2 g2) cw_X3_takeComparing cl_RX3_214 g0 ⟨rfl, rfl⟩ rfl hl.1 rfl (Nat.zero_le _) (by decide) dX3_takeTest_162) hS141 (fun v142 H142 locs142 hr142 hC142 hS142 => ?_)
                obtain ⟨hp142, hr142⟩ := hr142
                have hKp142 := hKp141.tr (hp142.mono rfl)
                rcases hr142 with rfl | rfl
                · refine q_if_eq hx hb (a := 0) (by decide) (tgt := 184) dX3_takeTest_165 rfl (fun c143 => ?_) (fun c143 => absurd c143 (by omega))
                  refine lv_iconst (v := 0) hx hb dX3_takeTest_184 rfl ?_
                  exact ret 0 H142 locs142 _ _ dX3_takeTest_185 (Or.inl rfl) ⟨hKp142, Or.inl rfl⟩ hC142 hS142
                · refine q_if_eq hx hb (a := 1) (by decide) (tgt := 184) dX3_takeTest_165 rfl (fun c144 => absurd c144 (by omega)) (fun c144 => ?_)
                  refine lv_aload_n hx hb dX3_takeTest_168 rfl (lv_at hl 1 rfl) ?_
                  refine lv_aload_n hx hb dX3_takeTest_169 rfl (lv_at hl 3 rfl) ?_
                  refine lv_iconst (v := 0) hx hb dX3_takeTest_170 rfl ?_
                  refine lv_sipush (v := 999) hx hb dX3_takeTest_171 rfl ?_
                  refine q_goI (q_runV (As := [.ref h2, .int 0, .int 999]) (rest := []) E hC142 hS142 (m_X3_takeAmount l X Γ H142 hC142 h0 g0 h2 g2 0 (a2 := 0) (by decide) 999 (a3 := 999) (by decide)) cw_X3_takeAmount cl_RX3_139 g0 ⟨rfl, rfl⟩ rfl hl.1 rfl (Nat.zero_le _) (by decide) dX3_takeTest_174) hS142 (fun v145 H145 locs145 hr145 hC145 hS145 => ?_)
                  obtain ⟨hp145, hr145⟩ := hr145
                  have hKp145 := hKp142.tr (hp145.mono rfl)
                  rcases hr145 with rfl | rfl
                  · refine q_if_eq hx hb (a := 0) (by decide) (tgt := 184) dX3_takeTest_177 rfl (fun c146 => ?_) (fun c146 => absurd c146 (by omega))
                    refine lv_iconst (v := 0) hx hb dX3_takeTest_184 rfl ?_
                    exact ret 0 H145 locs145 _ _ dX3_takeTest_185 (Or.inl rfl) ⟨hKp145, Or.inl rfl⟩ hC145 hS145
                  · refine q_if_eq hx hb (a := 1) (by decide) (tgt := 184) dX3_takeTest_177 rfl (fun c147 => absurd c147 (by omega)) (fun c147 => ?_)
                    refine lv_iconst (v := 1) hx hb dX3_takeTest_180 rfl ?_
                    refine lv_goto (tgt := 185) hx hb dX3_takeTest_181 rfl ?_
                    exact ret 1 H145 locs145 _ _ dX3_takeTest_185 (Or.inr rfl) ⟨hKp145, Or.inr rfl⟩ hC145 hS145
            · refine lv_aload_n hx hb dX3_takeTest_88 rfl (lv_at hl 3 rfl) ?_
              refine q_getR E hC125 g2 fa_RX3_76 dX3_takeTest_89 (fun q148 eq148 gq148 => ?_)
              refine lv_aload_n hx hb dX3_takeTest_92 rfl (lv_at hl 1 rfl) ?_
              refine q_getI E hC125 g0 fa_RX3_99 dX3_takeTest_93 (fun v149 ev149 lv149 uv149 => ?_)
              refine lv_bipush (v := 8) hx hb dX3_takeTest_96 rfl ?_
              refine q_iast E hC125 hS125 gq148 (by decide) rfl rfl (i_in (a := v149.toInt) rfl (by omega) (by omega)) tv_F dX3_takeTest_98 (fun H150 locs150 hC150 hS150 U150 => ?_)
              have hKp150 := Kp.upA gq148 rfl (by decide) rfl U150 hKp125
              refine lv_aload_n hx hb dX3_takeTest_99 rfl (lv_at hl 1 rfl) ?_
              refine lv_aload_n hx hb dX3_takeTest_100 rfl (lv_at hl 2 rfl) ?_
              refine lv_iconst (v := 1) hx hb dX3_takeTest_101 rfl ?_
              refine lv_aload_n hx hb dX3_takeTest_102 rfl (lv_at hl 3 rfl) ?_
              refine q_getR E hC150 g2 fa_RX3_146 dX3_takeTest_103 (fun q151 eq151 gq151 => ?_)
              refine q_goI (q_runV (As := [.ref h1, .int 1, .ref q151]) (rest := []) E hC150 hS150 (m_X3_takeCell l X Γ H150 hC150 h0 g0 h1 g1 1 (a2 := 1) (by decide) q151 gq151) cw_X3_takeCell cl_RX3_149 g0 ⟨rfl, rfl⟩ rfl hl.1 rfl (Nat.zero_le _) (by decide) dX3_takeTest_106) hS150 (fun v152 H152 locs152 hr152 hC152 hS152 => ?_)
              obtain ⟨hp152, hr152⟩ := hr152
              have hKp152 := hKp150.tr (hp152.mono rfl)
              rcases hr152 with rfl | rfl
              · refine q_if_eq hx hb (a := 0) (by decide) (tgt := 135) dX3_takeTest_109 rfl (fun c153 => ?_) (fun c153 => absurd c153 (by omega))
                refine lv_iconst (v := 0) hx hb dX3_takeTest_135 rfl ?_
                exact ret 0 H152 locs152 _ _ dX3_takeTest_136 (Or.inl rfl) ⟨hKp152, Or.inl rfl⟩ hC152 hS152
              · refine q_if_eq hx hb (a := 1) (by decide) (tgt := 135) dX3_takeTest_109 rfl (fun c154 => absurd c154 (by omega)) (fun c154 => ?_)
                refine lv_aload_n hx hb dX3_takeTest_112 rfl (lv_at hl 1 rfl) ?_
                refine lv_aload_n hx hb dX3_takeTest_113 rfl (lv_at hl 3 rfl) ?_
                refine q_goI (q_runV (As := [.ref h2]) (rest := []) E hC152 hS152 (m_X3_takeComparing l X Γ H152 hC152 h0 g0 h2 g2) cw_X3_takeComparing cl_RX3_214 g0 ⟨rfl, rfl⟩ rfl hl.1 rfl (Nat.zero_le _) (by decide) dX3_takeTest_114) hS152 (fun v155 H155 locs155 hr155 hC155 hS155 => ?_)
                obtain ⟨hp155, hr155⟩ := hr155
                have hKp155 := hKp152.tr (hp155.mono rfl)
                rcases hr155 with rfl | rfl
                · refine q_if_eq hx hb (a := 0) (by decide) (tgt := 135) dX3_takeTest_117 rfl (fun c156 => ?_) (fun c156 => absurd c156 (by omega))
                  refine lv_iconst (v := 0) hx hb dX3_takeTest_135 rfl ?_
                  exact ret 0 H155 locs155 _ _ dX3_takeTest_136 (Or.inl rfl) ⟨hKp155, Or.inl rfl⟩ hC155 hS155
                · refine q_if_eq hx hb (a := 1) (by decide) (tgt := 135) dX3_takeTest_117 rfl (fun c157 => absurd c157 (by omega)) (fun c157 => ?_)
                  refine lv_aload_n hx hb dX3_takeTest_120 rfl (lv_at hl 1 rfl) ?_
                  refine lv_aload_n hx hb dX3_takeTest_121 rfl (lv_at hl 3 rfl) ?_
                  refine lv_iconst (v := 0) hx hb dX3_takeTest_122 rfl ?_
                  refine lv_bipush (v := 99) hx hb dX3_takeTest_123 rfl ?_
                  refine q_goI (q_runV (As := [.ref h2, .int 0, .int 99]) (rest := []) E hC155 hS155 (m_X3_takeAmount l X Γ H155 hC155 h0 g0 h2 g2 0 (a2 := 0) (by decide) 99 (a3 := 99) (by decide)) cw_X3_takeAmount cl_RX3_139 g0 ⟨rfl, rfl⟩ rfl hl.1 rfl (Nat.zero_le _) (by decide) dX3_takeTest_125) hS155 (fun v158 H158 locs158 hr158 hC158 hS158 => ?_)
                  obtain ⟨hp158, hr158⟩ := hr158
                  have hKp158 := hKp155.tr (hp158.mono rfl)
                  rcases hr158 with rfl | rfl
                  · refine q_if_eq hx hb (a := 0) (by decide) (tgt := 135) dX3_takeTest_128 rfl (fun c159 => ?_) (fun c159 => absurd c159 (by omega))
                    refine lv_iconst (v := 0) hx hb dX3_takeTest_135 rfl ?_
                    exact ret 0 H158 locs158 _ _ dX3_takeTest_136 (Or.inl rfl) ⟨hKp158, Or.inl rfl⟩ hC158 hS158
                  · refine q_if_eq hx hb (a := 1) (by decide) (tgt := 135) dX3_takeTest_128 rfl (fun c160 => absurd c160 (by omega)) (fun c160 => ?_)
                    refine lv_iconst (v := 1) hx hb dX3_takeTest_131 rfl ?_
                    refine lv_goto (tgt := 136) hx hb dX3_takeTest_132 rfl ?_
                    exact ret 1 H158 locs158 _ _ dX3_takeTest_136 (Or.inr rfl) ⟨hKp158, Or.inr rfl⟩ hC158 hS158
          · refine lv_aload_n hx hb dX3_takeTest_68 rfl (lv_at hl 3 rfl) ?_
            refine q_getR E hC125 g2 fa_RX3_76 dX3_takeTest_69 (fun q161 eq161 gq161 => ?_)
            refine lv_aload_n hx hb dX3_takeTest_72 rfl (lv_at hl 1 rfl) ?_
            refine q_getI E hC125 g0 fa_RX3_99 dX3_takeTest_73 (fun v162 ev162 lv162 uv162 => ?_)
            refine lv_bipush (v := 9) hx hb dX3_takeTest_76 rfl ?_
            refine q_iast E hC125 hS125 gq161 (by decide) rfl rfl (i_in (a := v162.toInt) rfl (by omega) (by omega)) tv_F dX3_takeTest_78 (fun H163 locs163 hC163 hS163 U163 => ?_)
            have hKp163 := Kp.upA gq161 rfl (by decide) rfl U163 hKp125
            refine lv_iconst (v := 1) hx hb dX3_takeTest_79 rfl ?_
            exact ret 1 H163 locs163 _ _ dX3_takeTest_80 (Or.inr rfl) ⟨hKp163, Or.inr rfl⟩ hC163 hS163
        · refine q_if_ne hx hb (a := 0) (by decide) (tgt := 54) dX3_takeTest_43 rfl (fun c164 => absurd c164 (by omega)) (fun c164 => ?_)
          refine lv_aload_n hx hb dX3_takeTest_46 rfl (lv_at hl 1 rfl) ?_
          refine q_getR E hC0 g0 fa_RX3_15 dX3_takeTest_47 (fun q165 eq165 gq165 => ?_)
          refine q_goI (q_runV (As := []) (rest := []) E hC0 hS122 (m_X4_misfit l X Γ H0 hC0 q165 gq165) cw_X4_misfit cl_RX3_58 gq165 ⟨rfl, rfl⟩ rfl hl.1 rfl (Nat.zero_le _) (by decide) dX3_takeTest_50) hS122 (fun v166 H166 locs166 hr166 hC166 hS166 => ?_)
          obtain ⟨hp166, hr166⟩ := hr166
          have hKp166 := hKp0.tr (hp166.mono rfl)
          rcases hr166 with rfl | rfl
          · exact ret 0 H166 locs166 _ _ dX3_takeTest_53 (Or.inl rfl) ⟨hKp166, Or.inl rfl⟩ hC166 hS166
          · exact ret 1 H166 locs166 _ _ dX3_takeTest_53 (Or.inr rfl) ⟨hKp166, Or.inr rfl⟩ hC166 hS166
      · refine q_alq_n (o := q22) hx hb dX3_takeTest_29 rfl (lv_at hl 0 rfl) ?_
        refine q_word E hS0 (i := 25) (by decide) w_768 dX3_takeTest_30 (fun q167 gq167 => ?_)
        refine lv_acmp_ne (rx := q22) (ry := (some q167)) (tgt := 46) hx hb dX3_takeTest_33 rfl (fun c168 => ?_) (fun c168 => ?_)
        · refine lv_aload_n hx hb dX3_takeTest_46 rfl (lv_at hl 1 rfl) ?_
          refine q_getR E hC0 g0 fa_RX3_15 dX3_takeTest_47 (fun q169 eq169 gq169 => ?_)
          refine q_goI (q_runV (As := []) (rest := []) E hC0 hS0 (m_X4_misfit l X Γ H0 hC0 q169 gq169) cw_X4_misfit cl_RX3_58 gq169 ⟨rfl, rfl⟩ rfl hl.1 rfl (Nat.zero_le _) (by decide) dX3_takeTest_50) hS0 (fun v170 H170 locs170 hr170 hC170 hS170 => ?_)
          obtain ⟨hp170, hr170⟩ := hr170
          have hKp170 := hKp0.tr (hp170.mono rfl)
          rcases hr170 with rfl | rfl
          · exact ret 0 H170 locs170 _ _ dX3_takeTest_53 (Or.inl rfl) ⟨hKp170, Or.inl rfl⟩ hC170 hS170
          · exact ret 1 H170 locs170 _ _ dX3_takeTest_53 (Or.inr rfl) ⟨hKp170, Or.inr rfl⟩ hC170 hS170
        · refine lv_aload_n hx hb dX3_takeTest_36 rfl (lv_at hl 1 rfl) ?_
          refine q_getI E hC0 g0 fa_RX3_99 dX3_takeTest_37 (fun v171 ev171 lv171 uv171 => ?_)
          refine q_goIp (q_runS (As := [.int v171]) (rest := []) E hS0 (m_X2_isItem l X Γ H0 hC0 v171 (a0 := v171.toInt) rfl) cw_X2_isItem cl_RX3_73 rfl hl.1 rfl (Nat.zero_le _) (by decide) dX3_takeTest_40) hS0 (fun v172 locs172 hr172 hS172 => ?_)
          rcases hr172 with ⟨rfl, f172a0, f172a1⟩ | ⟨rfl, -⟩
          · refine q_if_ne hx hb (a := 1) (by decide) (tgt := 54) dX3_takeTest_43 rfl (fun c173 => ?_) (fun c173 => absurd c173 (by omega))
            refine lv_aload_n hx hb dX3_takeTest_54 rfl (lv_at hl 1 rfl) ?_
            refine q_getR E hC0 g0 fa_RX3_15 dX3_takeTest_55 (fun q174 eq174 gq174 => ?_)
            refine q_goV (q_runV (As := []) (rest := []) E hC0 hS172 (m_X4_advance l X Γ H0 hC0 q174 gq174) cw_X4_advance cl_RX3_82 gq174 ⟨rfl, rfl⟩ rfl hl.1 rfl (Nat.zero_le _) (by decide) dX3_takeTest_58) hS172 (fun H175 locs175 hr175 hC175 hS175 => ?_)
            have hKp175 := hKp0.tr (hr175.mono rfl)
            refine q_alq_n (o := q22) hx hb dX3_takeTest_61 rfl (lv_at hl 0 rfl) ?_
            refine q_word E hS175 (i := 24) (by decide) w_763 dX3_takeTest_62 (fun q176 gq176 => ?_)
            refine lv_acmp_ne (rx := q22) (ry := (some q176)) (tgt := 81) hx hb dX3_takeTest_65 rfl (fun c177 => ?_) (fun c177 => ?_)
            · refine q_alq_n (o := q22) hx hb dX3_takeTest_81 rfl (lv_at hl 0 rfl) ?_
              refine q_word E hS175 (i := 6) (by decide) w_767 dX3_takeTest_82 (fun q178 gq178 => ?_)
              refine lv_acmp_ne (rx := q22) (ry := (some q178)) (tgt := 137) hx hb dX3_takeTest_85 rfl (fun c179 => ?_) (fun c179 => ?_)
              · refine lv_aload_n hx hb dX3_takeTest_137 rfl (lv_at hl 3 rfl) ?_
                refine q_getR E hC175 g2 fa_RX3_76 dX3_takeTest_138 (fun q180 eq180 gq180 => ?_)
                refine lv_aload_n hx hb dX3_takeTest_141 rfl (lv_at hl 1 rfl) ?_
                refine q_getI E hC175 g0 fa_RX3_99 dX3_takeTest_142 (fun v181 ev181 lv181 uv181 => ?_)
                refine q_alq_n (o := q22) hx hb dX3_takeTest_145 rfl (lv_at hl 0 rfl) ?_
                refine q_word E hS175 (i := 23) (by decide) w_765 dX3_takeTest_146 (fun q182 gq182 => ?_)
                refine lv_acmp_ne (rx := q22) (ry := (some q182)) (tgt := 157) hx hb dX3_takeTest_149 rfl (fun c183 => ?_) (fun c183 => ?_)
                · refine lv_bipush (v := 10) hx hb dX3_takeTest_157 rfl ?_
                  refine q_iast E hC175 hS175 gq180 (by decide) rfl rfl (i_in (a := v181.toInt) rfl (by omega) (by omega)) tv_F dX3_takeTest_159 (fun H184 locs184 hC184 hS184 U184 => ?_)
                  have hKp184 := Kp.upA gq180 rfl (by decide) rfl U184 hKp175
                  refine lv_aload_n hx hb dX3_takeTest_160 rfl (lv_at hl 1 rfl) ?_
                  refine lv_aload_n hx hb dX3_takeTest_161 rfl (lv_at hl 3 rfl) ?_
                  refine q_goI (q_runV (As := [.ref h2]) (rest := []) E hC184 hS184 (m_X3_takeComparing l X Γ H184 hC184 h0 g0 h2 g2) cw_X3_takeComparing cl_RX3_214 g0 ⟨rfl, rfl⟩ rfl hl.1 rfl (Nat.zero_le _) (by decide) dX3_takeTest_162) hS184 (fun v185 H185 locs185 hr185 hC185 hS185 => ?_)
                  obtain ⟨hp185, hr185⟩ := hr185
                  have hKp185 := hKp184.tr (hp185.mono rfl)
                  rcases hr185 with rfl | rfl
                  · refine q_if_eq hx hb (a := 0) (by decide) (tgt := 184) dX3_takeTest_165 rfl (fun c186 => ?_) (fun c186 => absurd c186 (by omega))
                    refine lv_iconst (v := 0) hx hb dX3_takeTest_184 rfl ?_
                    exact ret 0 H185 locs185 _ _ dX3_takeTest_185 (Or.inl rfl) ⟨hKp185, Or.inl rfl⟩ hC185 hS185
                  · refine q_if_eq hx hb (a := 1) (by decide) (tgt := 184) dX3_takeTest_165 rfl (fun c187 => absurd c187 (by omega)) (fun c187 => ?_)
                    refine lv_aload_n hx hb dX3_takeTest_168 rfl (lv_at hl 1 rfl) ?_
                    refine lv_aload_n hx hb dX3_takeTest_169 rfl (lv_at hl 3 rfl) ?_
                    refine lv_iconst (v := 0) hx hb dX3_takeTest_170 rfl ?_
                    refine lv_sipush (v := 999) hx hb dX3_takeTest_171 rfl ?_
                    refine q_goI (q_runV (As := [.ref h2, .int 0, .int 999]) (rest := []) E hC185 hS185 (m_X3_takeAmount l X Γ H185 hC185 h0 g0 h2 g2 0 (a2 := 0) (by decide) 999 (a3 := 999) (by decide)) cw_X3_takeAmount cl_RX3_139 g0 ⟨rfl, rfl⟩ rfl hl.1 rfl (Nat.zero_le _) (by decide) dX3_takeTest_174) hS185 (fun v188 H188 locs188 hr188 hC188 hS188 => ?_)
                    obtain ⟨hp188, hr188⟩ := hr188
                    have hKp188 := hKp185.tr (hp188.mono rfl)
                    rcases hr188 with rfl | rfl
                    · refine q_if_eq hx hb (a := 0) (by decide) (tgt := 184) dX3_takeTest_177 rfl (fun c189 => ?_) (fun c189 => absurd c189 (by omega))
                      refine lv_iconst (v := 0) hx hb dX3_takeTest_184 rfl ?_
                      exact ret 0 H188 locs188 _ _ dX3_takeTest_185 (Or.inl rfl) ⟨hKp188, Or.inl rfl⟩ hC188 hS188
                    · refine q_if_eq hx hb (a := 1) (by decide) (tgt := 184) dX3_takeTest_177 rfl (fun c190 => absurd c190 (by omega)) (fun c190 => ?_)
                      refine lv_iconst (v := 1) hx hb dX3_takeTest_180 rfl ?_
                      refine lv_goto (tgt := 185) hx hb dX3_takeTest_181 rfl ?_
                      exact ret 1 H188 locs188 _ _ dX3_takeTest_185 (Or.inr rfl) ⟨hKp188, Or.inr rfl⟩ hC188 hS188
                · refine lv_bipush (v := 7) hx hb dX3_takeTest_152 rfl ?_
                  refine lv_goto (tgt := 159) hx hb dX3_takeTest_154 rfl ?_
                  refine q_iast E hC175 hS175 gq180 (by decide) rfl rfl (i_in (a := v181.toInt) rfl (by omega) (by omega)) tv_F dX3_takeTest_159 (fun H191 locs191 hC191 hS191 U191 => ?_)
                  have hKp191 := Kp.upA gq180 rfl (by decide) rfl U191 hKp175
                  refine lv_aload_n hx hb dX3_takeTest_160 rfl (lv_at hl 1 rfl) ?_
                  refine lv_aload_n hx hb dX3_takeTest_161 rfl (lv_at hl 3 rfl) ?_
                  refine q_goI (q_runV (As := [.ref h2]) (rest := []) E hC191 hS191 (m_X3_takeComparing l X Γ H191 hC191 h0 g0 h2 g2) cw_X3_takeComparing cl_RX3_214 g0 ⟨rfl, rfl⟩ rfl hl.1 rfl (Nat.zero_le _) (by decide) dX3_takeTest_162) hS191 (fun v192 H192 locs192 hr192 hC192 hS192 => ?_)
                  obtain ⟨hp192, hr192⟩ := hr192
                  have hKp192 := hKp191.tr (hp192.mono rfl)
                  rcases hr192 with rfl | rfl
                  · refine q_if_eq hx hb (a := 0) (by decide) (tgt := 184) dX3_takeTest_165 rfl (fun c193 => ?_) (fun c193 => absurd c193 (by omega))
                    refine lv_iconst (v := 0) hx hb dX3_takeTest_184 rfl ?_
                    exact ret 0 H192 locs192 _ _ dX3_takeTest_185 (Or.inl rfl) ⟨hKp192, Or.inl rfl⟩ hC192 hS192
                  · refine q_if_eq hx hb (a := 1) (by decide) (tgt := 184) dX3_takeTest_165 rfl (fun c194 => absurd c194 (by omega)) (fun c194 => ?_)
                    refine lv_aload_n hx hb dX3_takeTest_168 rfl (lv_at hl 1 rfl) ?_
                    refine lv_aload_n hx hb dX3_takeTest_169 rfl (lv_at hl 3 rfl) ?_
                    refine lv_iconst (v := 0) hx hb dX3_takeTest_170 rfl ?_
                    refine lv_sipush (v := 999) hx hb dX3_takeTest_171 rfl ?_
                    refine q_goI (q_runV (As := [.ref h2, .int 0, .int 999]) (rest := []) E hC192 hS192 (m_X3_takeAmount l X Γ H192 hC192 h0 g0 h2 g2 0 (a2 := 0) (by decide) 999 (a3 := 999) (by decide)) cw_X3_takeAmount cl_RX3_139 g0 ⟨rfl, rfl⟩ rfl hl.1 rfl (Nat.zero_le _) (by decide) dX3_takeTest_174) hS192 (fun v195 H195 locs195 hr195 hC195 hS195 => ?_)
                    obtain ⟨hp195, hr195⟩ := hr195
                    have hKp195 := hKp192.tr (hp195.mono rfl)
                    rcases hr195 with rfl | rfl
                    · refine q_if_eq hx hb (a := 0) (by decide) (tgt := 184) dX3_takeTest_177 rfl (fun c196 => ?_) (fun c196 => absurd c196 (by omega))
                      refine lv_iconst (v := 0) hx hb dX3_takeTest_184 rfl ?_
                      exact ret 0 H195 locs195 _ _ dX3_takeTest_185 (Or.inl rfl) ⟨hKp195, Or.inl rfl⟩ hC195 hS195
                    · refine q_if_eq hx hb (a := 1) (by decide) (tgt := 184) dX3_takeTest_177 rfl (fun c197 => absurd c197 (by omega)) (fun c197 => ?_)
                      refine lv_iconst (v := 1) hx hb dX3_takeTest_180 rfl ?_
                      refine lv_goto (tgt := 185) hx hb dX3_takeTest_181 rfl ?_
                      exact ret 1 H195 locs195 _ _ dX3_takeTest_185 (Or.inr rfl) ⟨hKp195, Or.inr rfl⟩ hC195 hS195
              · refine lv_aload_n hx hb dX3_takeTest_88 rfl (lv_at hl 3 rfl) ?_
                refine q_getR E hC175 g2 fa_RX3_76 dX3_takeTest_89 (fun q198 eq198 gq198 => ?_)
                refine lv_aload_n hx hb dX3_takeTest_92 rfl (lv_at hl 1 rfl) ?_
                refine q_getI E hC175 g0 fa_RX3_99 dX3_takeTest_93 (fun v199 ev199 lv199 uv199 => ?_)
                refine lv_bipush (v := 8) hx hb dX3_takeTest_96 rfl ?_
                refine q_iast E hC175 hS175 gq198 (by decide) rfl rfl (i_in (a := v199.toInt) rfl (by omega) (by omega)) tv_F dX3_takeTest_98 (fun H200 locs200 hC200 hS200 U200 => ?_)
                have hKp200 := Kp.upA gq198 rfl (by decide) rfl U200 hKp175
                refine lv_aload_n hx hb dX3_takeTest_99 rfl (lv_at hl 1 rfl) ?_
                refine lv_aload_n hx hb dX3_takeTest_100 rfl (lv_at hl 2 rfl) ?_
                refine lv_iconst (v := 1) hx hb dX3_takeTest_101 rfl ?_
                refine lv_aload_n hx hb dX3_takeTest_102 rfl (lv_at hl 3 rfl) ?_
                refine q_getR E hC200 g2 fa_RX3_146 dX3_takeTest_103 (fun q201 eq201 gq201 => ?_)
                refine q_goI (q_runV (As := [.ref h1, .int 1, .ref q201]) (rest := []) E hC200 hS200 (m_X3_takeCell l X Γ H200 hC200 h0 g0 h1 g1 1 (a2 := 1) (by decide) q201 gq201) cw_X3_takeCell cl_RX3_149 g0 ⟨rfl, rfl⟩ rfl hl.1 rfl (Nat.zero_le _) (by decide) dX3_takeTest_106) hS200 (fun v202 H202 locs202 hr202 hC202 hS202 => ?_)
                obtain ⟨hp202, hr202⟩ := hr202
                have hKp202 := hKp200.tr (hp202.mono rfl)
                rcases hr202 with rfl | rfl
                · refine q_if_eq hx hb (a := 0) (by decide) (tgt := 135) dX3_takeTest_109 rfl (fun c203 => ?_) (fun c203 => absurd c203 (by omega))
                  refine lv_iconst (v := 0) hx hb dX3_takeTest_135 rfl ?_
                  exact ret 0 H202 locs202 _ _ dX3_takeTest_136 (Or.inl rfl) ⟨hKp202, Or.inl rfl⟩ hC202 hS202
                · refine q_if_eq hx hb (a := 1) (by decide) (tgt := 135) dX3_takeTest_109 rfl (fun c204 => absurd c204 (by omega)) (fun c204 => ?_)
                  refine lv_aload_n hx hb dX3_takeTest_112 rfl (lv_at hl 1 rfl) ?_
                  refine lv_aload_n hx hb dX3_takeTest_113 rfl (lv_at hl 3 rfl) ?_
                  refine q_goI (q_runV (As := [.ref h2]) (rest := []) E hC202 hS202 (m_X3_takeComparing l X Γ H202 hC202 h0 g0 h2 g2) cw_X3_takeComparing cl_RX3_214 g0 ⟨rfl, rfl⟩ rfl hl.1 rfl (Nat.zero_le _) (by decide) dX3_takeTest_114) hS202 (fun v205 H205 locs205 hr205 hC205 hS205 => ?_)
                  obtain ⟨hp205, hr205⟩ := hr205
                  have hKp205 := hKp202.tr (hp205.mono rfl)
                  rcases hr205 with rfl | rfl
                  · refine q_if_eq hx hb (a := 0) (by decide) (tgt := 135) dX3_takeTest_117 rfl (fun c206 => ?_) (fun c206 => absurd c206 (by omega))
                    refine lv_iconst (v := 0) hx hb dX3_takeTest_135 rfl ?_
                    exact ret 0 H205 locs205 _ _ dX3_takeTest_136 (Or.inl rfl) ⟨hKp205, Or.inl rfl⟩ hC205 hS205
                  · refine q_if_eq hx hb (a := 1) (by decide) (tgt := 135) dX3_takeTest_117 rfl (fun c207 => absurd c207 (by omega)) (fun c207 => ?_)
                    refine lv_aload_n hx hb dX3_takeTest_120 rfl (lv_at hl 1 rfl) ?_
                    refine lv_aload_n hx hb dX3_takeTest_121 rfl (lv_at hl 3 rfl) ?_
                    refine lv_iconst (v := 0) hx hb dX3_takeTest_122 rfl ?_
                    refine lv_bipush (v := 99) hx hb dX3_takeTest_123 rfl ?_
                    refine q_goI (q_runV (As := [.ref h2, .int 0, .int 99]) (rest := []) E hC205 hS205 (m_X3_takeAmount l X Γ H205 hC205 h0 g0 h2 g2 0 (a2 := 0) (by decide) 99 (a3 := 99) (by decide)) cw_X3_takeAmount cl_RX3_139 g0 ⟨rfl, rfl⟩ rfl hl.1 rfl (Nat.zero_le _) (by decide) dX3_takeTest_125) hS205 (fun v208 H208 locs208 hr208 hC208 hS208 => ?_)
                    obtain ⟨hp208, hr208⟩ := hr208
                    have hKp208 := hKp205.tr (hp208.mono rfl)
                    rcases hr208 with rfl | rfl
                    · refine q_if_eq hx hb (a := 0) (by decide) (tgt := 135) dX3_takeTest_128 rfl (fun c209 => ?_) (fun c209 => absurd c209 (by omega))
                      refine lv_iconst (v := 0) hx hb dX3_takeTest_135 rfl ?_
                      exact ret 0 H208 locs208 _ _ dX3_takeTest_136 (Or.inl rfl) ⟨hKp208, Or.inl rfl⟩ hC208 hS208
                    · refine q_if_eq hx hb (a := 1) (by decide) (tgt := 135) dX3_takeTest_128 rfl (fun c210 => absurd c210 (by omega)) (fun c210 => ?_)
                      refine lv_iconst (v := 1) hx hb dX3_takeTest_131 rfl ?_
                      refine lv_goto (tgt := 136) hx hb dX3_takeTest_132 rfl ?_
                      exact ret 1 H208 locs208 _ _ dX3_takeTest_136 (Or.inr rfl) ⟨hKp208, Or.inr rfl⟩ hC208 hS208
            · refine lv_aload_n hx hb dX3_takeTest_68 rfl (lv_at hl 3 rfl) ?_
              refine q_getR E hC175 g2 fa_RX3_76 dX3_takeTest_69 (fun q211 eq211 gq211 => ?_)
              refine lv_aload_n hx hb dX3_takeTest_72 rfl (lv_at hl 1 rfl) ?_
              refine q_getI E hC175 g0 fa_RX3_99 dX3_takeTest_73 (fun v212 ev212 lv212 uv212 => ?_)
              refine lv_bipush (v := 9) hx hb dX3_takeTest_76 rfl ?_
              refine q_iast E hC175 hS175 gq211 (by decide) rfl rfl (i_in (a := v212.toInt) rfl (by omega) (by omega)) tv_F dX3_takeTest_78 (fun H213 locs213 hC213 hS213 U213 => ?_)
              have hKp213 := Kp.upA gq211 rfl (by decide) rfl U213 hKp175
              refine lv_iconst (v := 1) hx hb dX3_takeTest_79 rfl ?_
              exact ret 1 H213 locs213 _ _ dX3_takeTest_80 (Or.inr rfl) ⟨hKp213, Or.inr rfl⟩ hC213 hS213
          · refine q_if_ne hx hb (a := 0) (by decide) (tgt := 54) dX3_takeTest_43 rfl (fun c214 => absurd c214 (by omega)) (fun c214 => ?_)
            refine lv_aload_n hx hb dX3_takeTest_46 rfl (lv_at hl 1 rfl) ?_
            refine q_getR E hC0 g0 fa_RX3_15 dX3_takeTest_47 (fun q215 eq215 gq215 => ?_)
            refine q_goI (q_runV (As := []) (rest := []) E hC0 hS172 (m_X4_misfit l X Γ H0 hC0 q215 gq215) cw_X4_misfit cl_RX3_58 gq215 ⟨rfl, rfl⟩ rfl hl.1 rfl (Nat.zero_le _) (by decide) dX3_takeTest_50) hS172 (fun v216 H216 locs216 hr216 hC216 hS216 => ?_)
            obtain ⟨hp216, hr216⟩ := hr216
            have hKp216 := hKp0.tr (hp216.mono rfl)
            rcases hr216 with rfl | rfl
            · exact ret 0 H216 locs216 _ _ dX3_takeTest_53 (Or.inl rfl) ⟨hKp216, Or.inl rfl⟩ hC216 hS216
            · exact ret 1 H216 locs216 _ _ dX3_takeTest_53 (Or.inr rfl) ⟨hKp216, Or.inr rfl⟩ hC216 hS216
set_option maxRecDepth 100000 in
set_option maxHeartbeats 4000000 in
theorem m_X3_takeStorm (l : Launch) (X : xW) (Γ : Nat → Option Nat) (H0 : Heap) (hC0 : Conf X Γ H0) (h0 : Nat) (g0 : Γ h0 = some 4) (h1 : Nat) (g1 : Γ h1 = some 6) : Ctr l X Γ yX3_takeStorm cX3_takeStorm 4 (some .boolean) 3 [.ref h0, .ref h1] H0 (QI X Γ (fun v H1 => Kp X Γ [0, 2, 3, 4, 5, 18, 21, 23, 25, 27] H0 H1 ∧ (v = 0 ∨ v = 1))) := by
  refine q_enterZ (own := "SnowForts$OrdersText") (by decide) rfl (Nat.le_of_ble_eq_true rfl) ?_
  intro p e s m args below meth c ls Qz E hl ret hS0
  have hx := E.1; have hb := E.2.1
  have hKp0 : Kp X Γ [0, 2, 3, 4, 5, 18, 21, 23, 25, 27] H0 H0 := Kp.rf
  have hl : lv_has ls 4 [(0, .ref h0), (1, .ref h1)] := hl
  refine lv_aload_n hx hb dX3_takeStorm_0 rfl (lv_at hl 0 rfl) ?_
  refine q_getR E hC0 g0 fa_RX3_15 dX3_takeStorm_1 (fun q21 eq21 gq21 => ?_)
  refine lv_iconst (v := 0) hx hb dX3_takeStorm_4 rfl ?_
  refine lv_bipush (v := 40) hx hb dX3_takeStorm_5 rfl ?_
  refine q_goI (q_runV (As := [.int 0, .int 40]) (rest := []) E hC0 hS0 (m_X4_takeNumber l X Γ H0 hC0 q21 gq21 0 (a1 := 0) (by decide) 40 (a2 := 40) (by decide)) cw_X4_takeNumber cl_RX3_169 gq21 ⟨rfl, rfl⟩ rfl hl.1 rfl (Nat.zero_le _) (by decide) dX3_takeStorm_7) hS0 (fun v22 H22 locs22 hr22 hC22 hS22 => ?_)
  obtain ⟨hp22, hr22⟩ := hr22
  have hKp22 := hKp0.tr (hp22.mono rfl)
  rcases hr22 with rfl | rfl
  · refine q_if_ne hx hb (a := 0) (by decide) (tgt := 15) dX3_takeStorm_10 rfl (fun c23 => absurd c23 (by omega)) (fun c23 => ?_)
    refine lv_iconst (v := 0) hx hb dX3_takeStorm_13 rfl ?_
    exact ret 0 H22 locs22 _ _ dX3_takeStorm_14 (Or.inl rfl) ⟨hKp22, Or.inl rfl⟩ hC22 hS22
  · refine q_if_ne hx hb (a := 1) (by decide) (tgt := 15) dX3_takeStorm_10 rfl (fun c24 => ?_) (fun c24 => absurd c24 (by omega))
    refine lv_aload_n hx hb dX3_takeStorm_15 rfl (lv_at hl 0 rfl) ?_
    refine q_getR E hC22 g0 fa_RX3_15 dX3_takeStorm_16 (fun q25 eq25 gq25 => ?_)
    refine q_getI E hC22 gq25 fa_RX3_175 dX3_takeStorm_19 (fun v26 ev26 _ _ => ?_)
    refine lv_istore_n hx hb dX3_takeStorm_22 rfl hl (by decide) rfl (fun ls hl => ?_)
    replace hl : lv_has ls 4 [(2, .int v26), (0, .ref h0), (1, .ref h1)] := hl
    refine lv_aload_n hx hb dX3_takeStorm_23 rfl (lv_at hl 1 rfl) ?_
    refine q_getR E hC22 g0 fa_RX3_15 dX3_takeStorm_24 (fun q27 eq27 gq27 => ?_)
    refine q_getI E hC22 gq27 fa_RX3_178 dX3_takeStorm_27 (fun v28 ev28 _ _ => ?_)
    refine lv_istore_n hx hb dX3_takeStorm_30 rfl hl (by decide) rfl (fun ls hl => ?_)
    replace hl : lv_has ls 4 [(3, .int v28), (2, .int v26), (0, .ref h0), (1, .ref h1)] := hl
    refine lv_aload_n hx hb dX3_takeStorm_31 rfl (lv_at hl 2 rfl) ?_
    refine q_getR E hC22 g0 fa_RX3_15 dX3_takeStorm_32 (fun q29 eq29 gq29 => ?_)
    refine q_word E hS22 (i := 19) (by decide) w_799 dX3_takeStorm_35 (fun q30 gq30 => ?_)
    refine q_goI (q_runV (As := [va_rf (some q30)]) (rest := []) E hC22 hS22 (m_X4_take l X Γ H22 hC22 q29 gq29 (some q30) (fun _ h => by cases h; exact gq30)) cw_X4_take cl_RX3_156 gq29 ⟨rfl, rfl⟩ rfl hl.1 rfl (Nat.zero_le _) (by decide) dX3_takeStorm_38) hS22 (fun v31 H31 locs31 hr31 hC31 hS31 => ?_)
    obtain ⟨hp31, hr31⟩ := hr31
    have hKp31 := hKp22.tr (hp31.mono rfl)
    rcases hr31 with rfl | rfl
    · refine q_if_eq hx hb (a := 0) (by decide) (tgt := 67) dX3_takeStorm_41 rfl (fun c32 => ?_) (fun c32 => absurd c32 (by omega))
      refine lv_iconst (v := 0) hx hb dX3_takeStorm_67 rfl ?_
      exact ret 0 H31 locs31 _ _ dX3_takeStorm_68 (Or.inl rfl) ⟨hKp31, Or.inl rfl⟩ hC31 hS31
    · refine q_if_eq hx hb (a := 1) (by decide) (tgt := 67) dX3_takeStorm_41 rfl (fun c33 => absurd c33 (by omega)) (fun c33 => ?_)
      refine lv_aload_n hx hb dX3_takeStorm_44 rfl (lv_at hl 2 rfl) ?_
      refine q_getR E hC31 g0 fa_RX3_15 dX3_takeStorm_45 (fun q34 eq34 gq34 => ?_)
      refine lv_iconst (v := 0) hx hb dX3_takeStorm_48 rfl ?_
      refine lv_bipush (v := 40) hx hb dX3_takeStorm_49 rfl ?_
      refine q_goI (q_runV (As := [.int 0, .int 40]) (rest := []) E hC31 hS31 (m_X4_takeNumber l X Γ H31 hC31 q34 gq34 0 (a1 := 0) (by decide) 40 (a2 := 40) (by decide)) cw_X4_takeNumber cl_RX3_169 gq34 ⟨rfl, rfl⟩ rfl hl.1 rfl (Nat.zero_le _) (by decide) dX3_takeStorm_51) hS31 (fun v35 H35 locs35 hr35 hC35 hS35 => ?_)
      obtain ⟨hp35, hr35⟩ := hr35
      have hKp35 := hKp31.tr (hp35.mono rfl)
      rcases hr35 with rfl | rfl
      · refine q_if_eq hx hb (a := 0) (by decide) (tgt := 67) dX3_takeStorm_54 rfl (fun c36 => ?_) (fun c36 => absurd c36 (by omega))
        refine lv_iconst (v := 0) hx hb dX3_takeStorm_67 rfl ?_
        exact ret 0 H35 locs35 _ _ dX3_takeStorm_68 (Or.inl rfl) ⟨hKp35, Or.inl rfl⟩ hC35 hS35
      · refine q_if_eq hx hb (a := 1) (by decide) (tgt := 67) dX3_takeStorm_54 rfl (fun c37 => absurd c37 (by omega)) (fun c37 => ?_)
        refine lv_aload_n hx hb dX3_takeStorm_57 rfl (lv_at hl 2 rfl) ?_
        refine q_getI E hC35 g0 fa_RX3_99 dX3_takeStorm_58 (fun v38 ev38 lv38 uv38 => ?_)
        refine q_goIp (q_runS (As := [.int v38]) (rest := []) E hS35 (m_X2_isItem l X Γ H35 hC35 v38 (a0 := v38.toInt) rfl) cw_X2_isItem cl_RX3_73 rfl hl.1 rfl (Nat.zero_le _) (by decide) dX3_takeStorm_61) hS35 (fun v39 locs39 hr39 hS39 => ?_)
        rcases hr39 with ⟨rfl, f39a0, f39a1⟩ | ⟨rfl, -⟩
        · refine q_if_ne hx hb (a := 1) (by decide) (tgt := 69) dX3_takeStorm_64 rfl (fun c40 => ?_) (fun c40 => absurd c40 (by omega))
          refine lv_aload_n hx hb dX3_takeStorm_69 rfl (lv_at hl 3 rfl) ?_
          refine q_getR E hC35 g1 fa_RX3_172 dX3_takeStorm_70 (fun q41 eq41 gq41 => ?_)
          refine lv_aload_n hx hb dX3_takeStorm_73 rfl (lv_at hl 2 rfl) ?_
          refine q_getI E hC35 g0 fa_RX3_99 dX3_takeStorm_74 (fun v42 ev42 lv42 uv42 => ?_)
          have qv42 := ev38.symm.trans ev42; subst qv42
          refine lv_iload_n hx hb dX3_takeStorm_77 rfl (lv_at hl 1 rfl) ?_
          refine q_iast E hC35 hS39 gq41 (by decide) rfl rfl (i_in (a := v38.toInt) rfl (by omega) (by omega)) tv_F dX3_takeStorm_78 (fun H43 locs43 hC43 hS43 U43 => ?_)
          have hKp43 := Kp.upA gq41 rfl (by decide) rfl U43 hKp35
          refine lv_aload_n hx hb dX3_takeStorm_79 rfl (lv_at hl 3 rfl) ?_
          refine q_getR E hC43 g1 fa_RX3_184 dX3_takeStorm_80 (fun q44 eq44 gq44 => ?_)
          refine lv_aload_n hx hb dX3_takeStorm_83 rfl (lv_at hl 2 rfl) ?_
          have e46 := (up_nI U43 (ne_k g0 gq41 (by decide))).trans ev38
          refine q_getI E hC43 g0 fa_RX3_99 dX3_takeStorm_84 (fun v45 ev45 lv45 uv45 => ?_)
          have qv45 := e46.symm.trans ev45; subst qv45
          refine lv_aload_n hx hb dX3_takeStorm_87 rfl (lv_at hl 2 rfl) ?_
          refine q_getR E hC43 g0 fa_RX3_15 dX3_takeStorm_88 (fun q47 eq47 gq47 => ?_)
          refine q_getI E hC43 gq47 fa_RX3_175 dX3_takeStorm_91 (fun v48 ev48 _ _ => ?_)
          refine q_iast E hC43 hS43 gq44 (by decide) rfl rfl (i_in (a := v38.toInt) rfl (by omega) (by omega)) tv_F dX3_takeStorm_94 (fun H49 locs49 hC49 hS49 U49 => ?_)
          have hKp49 := Kp.upA gq44 rfl (by decide) rfl U49 hKp43
          refine lv_iload_n hx hb dX3_takeStorm_95 rfl (lv_at hl 1 rfl) ?_
          refine lv_aload_n hx hb dX3_takeStorm_96 rfl (lv_at hl 2 rfl) ?_
          refine q_getR E hC49 g0 fa_RX3_15 dX3_takeStorm_97 (fun q50 eq50 gq50 => ?_)
          refine q_getI E hC49 gq50 fa_RX3_175 dX3_takeStorm_100 (fun v51 ev51 _ _ => ?_)
          have c52 := i_rng v26; rw [show v26.toInt = v26.toInt from rfl] at c52
          have c53 := i_rng v51; rw [show v51.toInt = v51.toInt from rfl] at c53
          refine q_icmp_le hx hb (a := v26.toInt) (b := v51.toInt) rfl rfl (tgt := 118) dX3_takeStorm_103 rfl (fun c54 => ?_) (fun c54 => ?_)
          · refine lv_iconst (v := 1) hx hb dX3_takeStorm_118 rfl ?_
            refine lv_goto (tgt := 123) hx hb dX3_takeStorm_119 rfl ?_
            exact ret 1 H49 locs49 _ _ dX3_takeStorm_123 (Or.inr rfl) ⟨hKp49, Or.inr rfl⟩ hC49 hS49
          · refine lv_aload_n hx hb dX3_takeStorm_106 rfl (lv_at hl 2 rfl) ?_
            refine q_getR E hC49 g0 fa_RX3_15 dX3_takeStorm_107 (fun q55 eq55 gq55 => ?_)
            refine lv_iconst (v := 4) hx hb dX3_takeStorm_110 rfl ?_
            refine lv_iload_n hx hb dX3_takeStorm_111 rfl (lv_at hl 0 rfl) ?_
            refine q_goI (q_runV (As := [.int 4, .int v28]) (rest := []) E hC49 hS49 (m_X4_fail l X Γ H49 hC49 q55 gq55 4 (a1 := 4) (by decide) v28 (a2 := v28.toInt) rfl) cw_X4_fail cl_RX3_95 gq55 ⟨rfl, rfl⟩ rfl hl.1 rfl (Nat.zero_le _) (by decide) dX3_takeStorm_112) hS49 (fun v56 H56 locs56 hr56 hC56 hS56 => ?_)
            obtain ⟨hp56, hr56⟩ := hr56
            have hKp56 := hKp49.tr (hp56.mono rfl)
            rcases hr56 with rfl | rfl
            · refine q_if_eq hx hb (a := 0) (by decide) (tgt := 122) dX3_takeStorm_115 rfl (fun c57 => ?_) (fun c57 => absurd c57 (by omega))
              refine lv_iconst (v := 0) hx hb dX3_takeStorm_122 rfl ?_
              exact ret 0 H56 locs56 _ _ dX3_takeStorm_123 (Or.inl rfl) ⟨hKp56, Or.inl rfl⟩ hC56 hS56
            · refine q_if_eq hx hb (a := 1) (by decide) (tgt := 122) dX3_takeStorm_115 rfl (fun c58 => absurd c58 (by omega)) (fun c58 => ?_)
              refine lv_iconst (v := 1) hx hb dX3_takeStorm_118 rfl ?_
              refine lv_goto (tgt := 123) hx hb dX3_takeStorm_119 rfl ?_
              exact ret 1 H56 locs56 _ _ dX3_takeStorm_123 (Or.inr rfl) ⟨hKp56, Or.inr rfl⟩ hC56 hS56
        · refine q_if_ne hx hb (a := 0) (by decide) (tgt := 69) dX3_takeStorm_64 rfl (fun c59 => absurd c59 (by omega)) (fun c59 => ?_)
          refine lv_iconst (v := 0) hx hb dX3_takeStorm_67 rfl ?_
          exact ret 0 H35 locs39 _ _ dX3_takeStorm_68 (Or.inl rfl) ⟨hKp35, Or.inl rfl⟩ hC35 hS39
set_option maxRecDepth 100000 in
set_option maxHeartbeats 4000000 in
theorem m_X3_crossesHalves (l : Launch) (X : xW) (Γ : Nat → Option Nat) (H0 : Heap) (hC0 : Conf X Γ H0) (h0 : Nat) (g0 : Γ h0 = some 4) (h1 : Nat) (g1 : Γ h1 = some 5) (h2 : Nat) (g2 : Γ h2 = some 6) : Ctr l X Γ yX3_crossesHalves cX3_crossesHalves 4 (some .boolean) 1 [.ref h0, .ref h1, .ref h2] H0 (QI X Γ (fun v H1 => Kp X Γ [0, 2, 3, 4, 5, 18, 21, 23, 25, 27] H0 H1 ∧ (v = 0 ∨ v = 1))) := by
  refine q_enterZ (own := "SnowForts$OrdersText") (by decide) rfl (Nat.le_of_ble_eq_true rfl) ?_
  intro p e s m args below meth c ls Qz E hl ret hS0
  have hx := E.1; have hb := E.2.1
  have hKp0 : Kp X Γ [0, 2, 3, 4, 5, 18, 21, 23, 25, 27] H0 H0 := Kp.rf
  have hl : lv_has ls 4 [(0, .ref h0), (1, .ref h1), (2, .ref h2)] := hl
  refine lv_aload_n hx hb dX3_crossesHalves_0 rfl (lv_at hl 0 rfl) ?_
  refine q_getI E hC0 g0 fa_RX3_99 dX3_crossesHalves_1 (fun v21 ev21 lv21 uv21 => ?_)
  refine q_goIp (q_runS (As := [.int v21]) (rest := []) E hS0 (m_X2_isItem l X Γ H0 hC0 v21 (a0 := v21.toInt) rfl) cw_X2_isItem cl_RX3_73 rfl hl.1 rfl (Nat.zero_le _) (by decide) dX3_crossesHalves_4) hS0 (fun v22 locs22 hr22 hS22 => ?_)
  rcases hr22 with ⟨rfl, f22a0, f22a1⟩ | ⟨rfl, -⟩
  · refine q_if_eq hx hb (a := 1) (by decide) (tgt := 49) dX3_crossesHalves_7 rfl (fun c23 => absurd c23 (by omega)) (fun c23 => ?_)
    refine lv_aload_n hx hb dX3_crossesHalves_10 rfl (lv_at hl 1 rfl) ?_
    refine lv_aload_n hx hb dX3_crossesHalves_11 rfl (lv_at hl 2 rfl) ?_
    refine q_getR E hC0 g2 fa_RX3_163 dX3_crossesHalves_12 (fun q24 eq24 gq24 => ?_)
    refine lv_aload_n hx hb dX3_crossesHalves_15 rfl (lv_at hl 0 rfl) ?_
    refine q_getI E hC0 g0 fa_RX3_99 dX3_crossesHalves_16 (fun v25 ev25 lv25 uv25 => ?_)
    have qv25 := ev21.symm.trans ev25; subst qv25
    refine q_iald E hC0 gq24 rfl rfl (fun _ h => h) (i_in (a := v21.toInt) rfl (by omega) (by omega)) dX3_crossesHalves_19 (fun v26 ev26 _ _ => ?_)
    refine lv_bipush (v := 6) hx hb dX3_crossesHalves_20 rfl ?_
    refine lv_irem hx hb dX3_crossesHalves_22 (by decide) (lv_topi (fun v27 ev27 => ?_))
    have ev27b := i_remB ev27 rfl (show (6 : Int32).toInt = 6 from by decide) (by decide)
    refine q_goIp (q_runV (As := [.int v27]) (rest := []) E hC0 hS22 (m_X9_halfOfColumn l X Γ H0 hC0 h1 g1 v27 (a1 := v27.toInt) rfl) cw_X9_halfOfColumn cl_RX3_192 g1 ⟨rfl, rfl⟩ rfl hl.1 rfl (Nat.zero_le _) (by decide) dX3_crossesHalves_23) hS22 (fun v28 locs28 hr28 hS28 => ?_)
    obtain ⟨f28_0, f28_1⟩ := hr28
    refine lv_aload_n hx hb dX3_crossesHalves_26 rfl (lv_at hl 1 rfl) ?_
    refine lv_aload_n hx hb dX3_crossesHalves_27 rfl (lv_at hl 2 rfl) ?_
    refine q_getR E hC0 g2 fa_RX3_146 dX3_crossesHalves_28 (fun q29 eq29 gq29 => ?_)
    refine lv_aload_n hx hb dX3_crossesHalves_31 rfl (lv_at hl 0 rfl) ?_
    refine q_getI E hC0 g0 fa_RX3_99 dX3_crossesHalves_32 (fun v30 ev30 lv30 uv30 => ?_)
    have qv30 := ev21.symm.trans ev30; subst qv30
    refine q_iald E hC0 gq29 rfl rfl (fun _ h => h) (i_in (a := v21.toInt) rfl (by omega) (by omega)) dX3_crossesHalves_35 (fun v31 ev31 _ _ => ?_)
    refine lv_bipush (v := 6) hx hb dX3_crossesHalves_36 rfl ?_
    refine lv_irem hx hb dX3_crossesHalves_38 (by decide) (lv_topi (fun v32 ev32 => ?_))
    have ev32b := i_remB ev32 rfl (show (6 : Int32).toInt = 6 from by decide) (by decide)
    refine q_goIp (q_runV (As := [.int v32]) (rest := [.int v28]) E hC0 hS28 (m_X9_halfOfColumn l X Γ H0 hC0 h1 g1 v32 (a1 := v32.toInt) rfl) cw_X9_halfOfColumn cl_RX3_192 g1 ⟨rfl, rfl⟩ rfl hl.1 rfl (show _ ≤ _ from by simp [Value.category]) (by decide) dX3_crossesHalves_39) hS28 (fun v33 locs33 hr33 hS33 => ?_)
    obtain ⟨f33_0, f33_1⟩ := hr33
    refine q_icmp_eq hx hb (a := v28.toInt) (b := v33.toInt) rfl rfl (tgt := 49) dX3_crossesHalves_42 rfl (fun c34 => ?_) (fun c34 => ?_)
    · refine lv_iconst (v := 0) hx hb dX3_crossesHalves_49 rfl ?_
      refine lv_istore_n hx hb dX3_crossesHalves_50 rfl hl (by decide) rfl (fun ls hl => ?_)
      replace hl : lv_has ls 4 [(3, .int 0), (0, .ref h0), (1, .ref h1), (2, .ref h2)] := hl
      refine lv_iload_n hx hb dX3_crossesHalves_51 rfl (lv_at hl 0 rfl) ?_
      refine q_if_ne hx hb (a := 0) (by decide) (tgt := 73) dX3_crossesHalves_52 rfl (fun c35 => absurd c35 (by omega)) (fun c35 => ?_)
      refine lv_aload_n hx hb dX3_crossesHalves_55 rfl (lv_at hl 1 rfl) ?_
      refine q_getR E hC0 g0 fa_RX3_15 dX3_crossesHalves_56 (fun q36 eq36 gq36 => ?_)
      refine lv_iconst (v := 4) hx hb dX3_crossesHalves_59 rfl ?_
      refine lv_aload_n hx hb dX3_crossesHalves_60 rfl (lv_at hl 1 rfl) ?_
      refine q_getR E hC0 g0 fa_RX3_15 dX3_crossesHalves_61 (fun q37 eq37 gq37 => ?_)
      refine q_getI E hC0 gq37 fa_RX3_178 dX3_crossesHalves_64 (fun v38 ev38 _ _ => ?_)
      refine q_goI (q_runV (As := [.int 4, .int v38]) (rest := []) E hC0 hS33 (m_X4_fail l X Γ H0 hC0 q36 gq36 4 (a1 := 4) (by decide) v38 (a2 := v38.toInt) rfl) cw_X4_fail cl_RX3_95 gq36 ⟨rfl, rfl⟩ rfl hl.1 rfl (Nat.zero_le _) (by decide) dX3_crossesHalves_67) hS33 (fun v39 H39 locs39 hr39 hC39 hS39 => ?_)
      obtain ⟨hp39, hr39⟩ := hr39
      have hKp39 := hKp0.tr (hp39.mono rfl)
      rcases hr39 with rfl | rfl
      · refine q_if_eq hx hb (a := 0) (by decide) (tgt := 77) dX3_crossesHalves_70 rfl (fun c40 => ?_) (fun c40 => absurd c40 (by omega))
        refine lv_iconst (v := 0) hx hb dX3_crossesHalves_77 rfl ?_
        exact ret 0 H39 locs39 _ _ dX3_crossesHalves_78 (Or.inl rfl) ⟨hKp39, Or.inl rfl⟩ hC39 hS39
      · refine q_if_eq hx hb (a := 1) (by decide) (tgt := 77) dX3_crossesHalves_70 rfl (fun c41 => absurd c41 (by omega)) (fun c41 => ?_)
        refine lv_iconst (v := 1) hx hb dX3_crossesHalves_73 rfl ?_
        refine lv_goto (tgt := 78) hx hb dX3_crossesHalves_74 rfl ?_
        exact ret 1 H39 locs39 _ _ dX3_crossesHalves_78 (Or.inr rfl) ⟨hKp39, Or.inr rfl⟩ hC39 hS39
    · refine lv_iconst (v := 1) hx hb dX3_crossesHalves_45 rfl ?_
      refine lv_goto (tgt := 50) hx hb dX3_crossesHalves_46 rfl ?_
      refine lv_istore_n hx hb dX3_crossesHalves_50 rfl hl (by decide) rfl (fun ls hl => ?_)
      replace hl : lv_has ls 4 [(3, .int 1), (0, .ref h0), (1, .ref h1), (2, .ref h2)] := hl
      refine lv_iload_n hx hb dX3_crossesHalves_51 rfl (lv_at hl 0 rfl) ?_
      refine q_if_ne hx hb (a := 1) (by decide) (tgt := 73) dX3_crossesHalves_52 rfl (fun c42 => ?_) (fun c42 => absurd c42 (by omega))
      refine lv_iconst (v := 1) hx hb dX3_crossesHalves_73 rfl ?_
      refine lv_goto (tgt := 78) hx hb dX3_crossesHalves_74 rfl ?_
      exact ret 1 H0 locs33 _ _ dX3_crossesHalves_78 (Or.inr rfl) ⟨hKp0, Or.inr rfl⟩ hC0 hS33
  · refine q_if_eq hx hb (a := 0) (by decide) (tgt := 49) dX3_crossesHalves_7 rfl (fun c43 => ?_) (fun c43 => absurd c43 (by omega))
    refine lv_iconst (v := 0) hx hb dX3_crossesHalves_49 rfl ?_
    refine lv_istore_n hx hb dX3_crossesHalves_50 rfl hl (by decide) rfl (fun ls hl => ?_)
    replace hl : lv_has ls 4 [(3, .int 0), (0, .ref h0), (1, .ref h1), (2, .ref h2)] := hl
    refine lv_iload_n hx hb dX3_crossesHalves_51 rfl (lv_at hl 0 rfl) ?_
    refine q_if_ne hx hb (a := 0) (by decide) (tgt := 73) dX3_crossesHalves_52 rfl (fun c44 => absurd c44 (by omega)) (fun c44 => ?_)
    refine lv_aload_n hx hb dX3_crossesHalves_55 rfl (lv_at hl 1 rfl) ?_
    refine q_getR E hC0 g0 fa_RX3_15 dX3_crossesHalves_56 (fun q45 eq45 gq45 => ?_)
    refine lv_iconst (v := 4) hx hb dX3_crossesHalves_59 rfl ?_
    refine lv_aload_n hx hb dX3_crossesHalves_60 rfl (lv_at hl 1 rfl) ?_
    refine q_getR E hC0 g0 fa_RX3_15 dX3_crossesHalves_61 (fun q46 eq46 gq46 => ?_)
    refine q_getI E hC0 gq46 fa_RX3_178 dX3_crossesHalves_64 (fun v47 ev47 _ _ => ?_)
    refine q_goI (q_runV (As := [.int 4, .int v47]) (rest := []) E hC0 hS22 (m_X4_fail l X Γ H0 hC0 q45 gq45 4 (a1 := 4) (by decide) v47 (a2 := v47.toInt) rfl) cw_X4_fail cl_RX3_95 gq45 ⟨rfl, rfl⟩ rfl hl.1 rfl (Nat.zero_le _) (by decide) dX3_crossesHalves_67) hS22 (fun v48 H48 locs48 hr48 hC48 hS48 => ?_)
    obtain ⟨hp48, hr48⟩ := hr48
    have hKp48 := hKp0.tr (hp48.mono rfl)
    rcases hr48 with rfl | rfl
    · refine q_if_eq hx hb (a := 0) (by decide) (tgt := 77) dX3_crossesHalves_70 rfl (fun c49 => ?_) (fun c49 => absurd c49 (by omega))
      refine lv_iconst (v := 0) hx hb dX3_crossesHalves_77 rfl ?_
      exact ret 0 H48 locs48 _ _ dX3_crossesHalves_78 (Or.inl rfl) ⟨hKp48, Or.inl rfl⟩ hC48 hS48
    · refine q_if_eq hx hb (a := 1) (by decide) (tgt := 77) dX3_crossesHalves_70 rfl (fun c50 => absurd c50 (by omega)) (fun c50 => ?_)
      refine lv_iconst (v := 1) hx hb dX3_crossesHalves_73 rfl ?_
      refine lv_goto (tgt := 78) hx hb dX3_crossesHalves_74 rfl ?_
      exact ret 1 H48 locs48 _ _ dX3_crossesHalves_78 (Or.inr rfl) ⟨hKp48, Or.inr rfl⟩ hC48 hS48
set_option maxRecDepth 100000 in
set_option maxHeartbeats 4000000 in
theorem m_X3_takeRest (l : Launch) (X : xW) (Γ : Nat → Option Nat) (H0 : Heap) (hC0 : Conf X Γ H0) (h0 : Nat) (g0 : Γ h0 = some 4) (p1 : Int32) {a1 : Int} (e1 : p1.toInt = a1) (h2 : Nat) (g2 : Γ h2 = some 5) (h3 : Nat) (g3 : Γ h3 = some 6) : Ctr l X Γ yX3_takeRest cX3_takeRest 4 (some .boolean) 4 [.ref h0, .int p1, .ref h2, .ref h3] H0 (QI X Γ (fun v H1 => Kp X Γ [0, 2, 3, 4, 5, 18, 21, 23, 25, 27] H0 H1 ∧ (v = 0 ∨ v = 1))) := by
  refine q_enterZ (own := "SnowForts$OrdersText") (by decide) rfl (Nat.le_of_ble_eq_true rfl) ?_
  intro p e s m args below meth c ls Qz E hl ret hS0
  have hx := E.1; have hb := E.2.1
  have hKp0 : Kp X Γ [0, 2, 3, 4, 5, 18, 21, 23, 25, 27] H0 H0 := Kp.rf
  have hl : lv_has ls 4 [(0, .ref h0), (1, .int p1), (2, .ref h2), (3, .ref h3)] := hl
  refine lv_iload_n hx hb dX3_takeRest_0 rfl (lv_at hl 1 rfl) ?_
  by_cases c21_0 : a1 = 0
  · have c21_x := (show p1.toInt = a1 from e1).trans c21_0
    refine lv_tableIn hx hb dX3_takeRest_1 (by rw [c21_x]; decide) (by rw [c21_x]; decide) (off := 63) (by rw [c21_x]; rfl) (tgt := 64) rfl ?_
    refine lv_aload_n hx hb dX3_takeRest_64 rfl (lv_at hl 0 rfl) ?_
    refine lv_aload_n hx hb dX3_takeRest_65 rfl (lv_at hl 3 rfl) ?_
    refine lv_iconst (v := 0) hx hb dX3_takeRest_66 rfl ?_
    refine lv_bipush (v := 40) hx hb dX3_takeRest_67 rfl ?_
    refine q_goI (q_runV (As := [.ref h3, .int 0, .int 40]) (rest := []) E hC0 hS0 (m_X3_takeAmount l X Γ H0 hC0 h0 g0 h3 g3 0 (a2 := 0) (by decide) 40 (a3 := 40) (by decide)) cw_X3_takeAmount cl_RX3_139 g0 ⟨rfl, rfl⟩ rfl hl.1 rfl (Nat.zero_le _) (by decide) dX3_takeRest_69) hS0 (fun v22 H22 locs22 hr22 hC22 hS22 => ?_)
    obtain ⟨hp22, hr22⟩ := hr22
    have hKp22 := hKp0.tr (hp22.mono rfl)
    rcases hr22 with rfl | rfl
    · exact ret 0 H22 locs22 _ _ dX3_takeRest_72 (Or.inl rfl) ⟨hKp22, Or.inl rfl⟩ hC22 hS22
    · exact ret 1 H22 locs22 _ _ dX3_takeRest_72 (Or.inr rfl) ⟨hKp22, Or.inr rfl⟩ hC22 hS22
  by_cases c21_1 : a1 = 1
  · have c21_x := (show p1.toInt = a1 from e1).trans c21_1
    refine lv_tableIn hx hb dX3_takeRest_1 (by rw [c21_x]; decide) (by rw [c21_x]; decide) (off := 63) (by rw [c21_x]; rfl) (tgt := 64) rfl ?_
    refine lv_aload_n hx hb dX3_takeRest_64 rfl (lv_at hl 0 rfl) ?_
    refine lv_aload_n hx hb dX3_takeRest_65 rfl (lv_at hl 3 rfl) ?_
    refine lv_iconst (v := 0) hx hb dX3_takeRest_66 rfl ?_
    refine lv_bipush (v := 40) hx hb dX3_takeRest_67 rfl ?_
    refine q_goI (q_runV (As := [.ref h3, .int 0, .int 40]) (rest := []) E hC0 hS0 (m_X3_takeAmount l X Γ H0 hC0 h0 g0 h3 g3 0 (a2 := 0) (by decide) 40 (a3 := 40) (by decide)) cw_X3_takeAmount cl_RX3_139 g0 ⟨rfl, rfl⟩ rfl hl.1 rfl (Nat.zero_le _) (by decide) dX3_takeRest_69) hS0 (fun v23 H23 locs23 hr23 hC23 hS23 => ?_)
    obtain ⟨hp23, hr23⟩ := hr23
    have hKp23 := hKp0.tr (hp23.mono rfl)
    rcases hr23 with rfl | rfl
    · exact ret 0 H23 locs23 _ _ dX3_takeRest_72 (Or.inl rfl) ⟨hKp23, Or.inl rfl⟩ hC23 hS23
    · exact ret 1 H23 locs23 _ _ dX3_takeRest_72 (Or.inr rfl) ⟨hKp23, Or.inr rfl⟩ hC23 hS23
  by_cases c21_2 : a1 = 2
  · have c21_x := (show p1.toInt = a1 from e1).trans c21_2
    refine lv_tableIn hx hb dX3_takeRest_1 (by rw [c21_x]; decide) (by rw [c21_x]; decide) (off := 72) (by rw [c21_x]; rfl) (tgt := 73) rfl ?_
    refine lv_aload_n hx hb dX3_takeRest_73 rfl (lv_at hl 0 rfl) ?_
    refine lv_aload_n hx hb dX3_takeRest_74 rfl (lv_at hl 3 rfl) ?_
    refine q_goI (q_runV (As := [.ref h3]) (rest := []) E hC0 hS0 (m_X3_takeStorm l X Γ H0 hC0 h0 g0 h3 g3) cw_X3_takeStorm cl_RX3_143 g0 ⟨rfl, rfl⟩ rfl hl.1 rfl (Nat.zero_le _) (by decide) dX3_takeRest_75) hS0 (fun v24 H24 locs24 hr24 hC24 hS24 => ?_)
    obtain ⟨hp24, hr24⟩ := hr24
    have hKp24 := hKp0.tr (hp24.mono rfl)
    rcases hr24 with rfl | rfl
    · exact ret 0 H24 locs24 _ _ dX3_takeRest_78 (Or.inl rfl) ⟨hKp24, Or.inl rfl⟩ hC24 hS24
    · exact ret 1 H24 locs24 _ _ dX3_takeRest_78 (Or.inr rfl) ⟨hKp24, Or.inr rfl⟩ hC24 hS24
  by_cases c21_3 : a1 = 3
  · have c21_x := (show p1.toInt = a1 from e1).trans c21_3
    refine lv_tableIn hx hb dX3_takeRest_1 (by rw [c21_x]; decide) (by rw [c21_x]; decide) (off := 78) (by rw [c21_x]; rfl) (tgt := 79) rfl ?_
    refine lv_aload_n hx hb dX3_takeRest_79 rfl (lv_at hl 0 rfl) ?_
    refine lv_aload_n hx hb dX3_takeRest_80 rfl (lv_at hl 2 rfl) ?_
    refine lv_iconst (v := 1) hx hb dX3_takeRest_81 rfl ?_
    refine lv_aload_n hx hb dX3_takeRest_82 rfl (lv_at hl 3 rfl) ?_
    refine q_getR E hC0 g3 fa_RX3_146 dX3_takeRest_83 (fun q25 eq25 gq25 => ?_)
    refine q_goI (q_runV (As := [.ref h2, .int 1, .ref q25]) (rest := []) E hC0 hS0 (m_X3_takeCell l X Γ H0 hC0 h0 g0 h2 g2 1 (a2 := 1) (by decide) q25 gq25) cw_X3_takeCell cl_RX3_149 g0 ⟨rfl, rfl⟩ rfl hl.1 rfl (Nat.zero_le _) (by decide) dX3_takeRest_86) hS0 (fun v26 H26 locs26 hr26 hC26 hS26 => ?_)
    obtain ⟨hp26, hr26⟩ := hr26
    have hKp26 := hKp0.tr (hp26.mono rfl)
    rcases hr26 with rfl | rfl
    · refine q_if_eq hx hb (a := 0) (by decide) (tgt := 120) dX3_takeRest_89 rfl (fun c27 => ?_) (fun c27 => absurd c27 (by omega))
      refine lv_iconst (v := 0) hx hb dX3_takeRest_120 rfl ?_
      exact ret 0 H26 locs26 _ _ dX3_takeRest_121 (Or.inl rfl) ⟨hKp26, Or.inl rfl⟩ hC26 hS26
    · refine q_if_eq hx hb (a := 1) (by decide) (tgt := 120) dX3_takeRest_89 rfl (fun c28 => absurd c28 (by omega)) (fun c28 => ?_)
      refine lv_aload_n hx hb dX3_takeRest_92 rfl (lv_at hl 0 rfl) ?_
      refine q_getR E hC26 g0 fa_RX3_15 dX3_takeRest_93 (fun q29 eq29 gq29 => ?_)
      refine q_word E hS26 (i := 9) (by decide) w_802 dX3_takeRest_96 (fun q30 gq30 => ?_)
      refine q_goI (q_runV (As := [va_rf (some q30)]) (rest := []) E hC26 hS26 (m_X4_take l X Γ H26 hC26 q29 gq29 (some q30) (fun _ h => by cases h; exact gq30)) cw_X4_take cl_RX3_156 gq29 ⟨rfl, rfl⟩ rfl hl.1 rfl (Nat.zero_le _) (by decide) dX3_takeRest_99) hS26 (fun v31 H31 locs31 hr31 hC31 hS31 => ?_)
      obtain ⟨hp31, hr31⟩ := hr31
      have hKp31 := hKp26.tr (hp31.mono rfl)
      rcases hr31 with rfl | rfl
      · refine q_if_eq hx hb (a := 0) (by decide) (tgt := 120) dX3_takeRest_102 rfl (fun c32 => ?_) (fun c32 => absurd c32 (by omega))
        refine lv_iconst (v := 0) hx hb dX3_takeRest_120 rfl ?_
        exact ret 0 H31 locs31 _ _ dX3_takeRest_121 (Or.inl rfl) ⟨hKp31, Or.inl rfl⟩ hC31 hS31
      · refine q_if_eq hx hb (a := 1) (by decide) (tgt := 120) dX3_takeRest_102 rfl (fun c33 => absurd c33 (by omega)) (fun c33 => ?_)
        refine lv_aload_n hx hb dX3_takeRest_105 rfl (lv_at hl 0 rfl) ?_
        refine lv_aload_n hx hb dX3_takeRest_106 rfl (lv_at hl 3 rfl) ?_
        refine lv_iconst (v := 1) hx hb dX3_takeRest_107 rfl ?_
        refine lv_bipush (v := 40) hx hb dX3_takeRest_108 rfl ?_
        refine q_goI (q_runV (As := [.ref h3, .int 1, .int 40]) (rest := []) E hC31 hS31 (m_X3_takeAmount l X Γ H31 hC31 h0 g0 h3 g3 1 (a2 := 1) (by decide) 40 (a3 := 40) (by decide)) cw_X3_takeAmount cl_RX3_139 g0 ⟨rfl, rfl⟩ rfl hl.1 rfl (Nat.zero_le _) (by decide) dX3_takeRest_110) hS31 (fun v34 H34 locs34 hr34 hC34 hS34 => ?_)
        obtain ⟨hp34, hr34⟩ := hr34
        have hKp34 := hKp31.tr (hp34.mono rfl)
        rcases hr34 with rfl | rfl
        · refine q_if_eq hx hb (a := 0) (by decide) (tgt := 120) dX3_takeRest_113 rfl (fun c35 => ?_) (fun c35 => absurd c35 (by omega))
          refine lv_iconst (v := 0) hx hb dX3_takeRest_120 rfl ?_
          exact ret 0 H34 locs34 _ _ dX3_takeRest_121 (Or.inl rfl) ⟨hKp34, Or.inl rfl⟩ hC34 hS34
        · refine q_if_eq hx hb (a := 1) (by decide) (tgt := 120) dX3_takeRest_113 rfl (fun c36 => absurd c36 (by omega)) (fun c36 => ?_)
          refine lv_iconst (v := 1) hx hb dX3_takeRest_116 rfl ?_
          refine lv_goto (tgt := 121) hx hb dX3_takeRest_117 rfl ?_
          exact ret 1 H34 locs34 _ _ dX3_takeRest_121 (Or.inr rfl) ⟨hKp34, Or.inr rfl⟩ hC34 hS34
  by_cases c21_4 : a1 = 4
  · have c21_x := (show p1.toInt = a1 from e1).trans c21_4
    refine lv_tableIn hx hb dX3_takeRest_1 (by rw [c21_x]; decide) (by rw [c21_x]; decide) (off := 121) (by rw [c21_x]; rfl) (tgt := 122) rfl ?_
    refine lv_aload_n hx hb dX3_takeRest_122 rfl (lv_at hl 0 rfl) ?_
    refine lv_aload_n hx hb dX3_takeRest_123 rfl (lv_at hl 2 rfl) ?_
    refine lv_iconst (v := 1) hx hb dX3_takeRest_124 rfl ?_
    refine lv_aload_n hx hb dX3_takeRest_125 rfl (lv_at hl 3 rfl) ?_
    refine q_getR E hC0 g3 fa_RX3_146 dX3_takeRest_126 (fun q37 eq37 gq37 => ?_)
    refine q_goI (q_runV (As := [.ref h2, .int 1, .ref q37]) (rest := []) E hC0 hS0 (m_X3_takeCell l X Γ H0 hC0 h0 g0 h2 g2 1 (a2 := 1) (by decide) q37 gq37) cw_X3_takeCell cl_RX3_149 g0 ⟨rfl, rfl⟩ rfl hl.1 rfl (Nat.zero_le _) (by decide) dX3_takeRest_129) hS0 (fun v38 H38 locs38 hr38 hC38 hS38 => ?_)
    obtain ⟨hp38, hr38⟩ := hr38
    have hKp38 := hKp0.tr (hp38.mono rfl)
    rcases hr38 with rfl | rfl
    · exact ret 0 H38 locs38 _ _ dX3_takeRest_132 (Or.inl rfl) ⟨hKp38, Or.inl rfl⟩ hC38 hS38
    · exact ret 1 H38 locs38 _ _ dX3_takeRest_132 (Or.inr rfl) ⟨hKp38, Or.inr rfl⟩ hC38 hS38
  by_cases c21_5 : a1 = 5
  · have c21_x := (show p1.toInt = a1 from e1).trans c21_5
    refine lv_tableIn hx hb dX3_takeRest_1 (by rw [c21_x]; decide) (by rw [c21_x]; decide) (off := 132) (by rw [c21_x]; rfl) (tgt := 133) rfl ?_
    refine lv_aload_n hx hb dX3_takeRest_133 rfl (lv_at hl 0 rfl) ?_
    refine lv_aload_n hx hb dX3_takeRest_134 rfl (lv_at hl 2 rfl) ?_
    refine lv_iconst (v := 1) hx hb dX3_takeRest_135 rfl ?_
    refine lv_aload_n hx hb dX3_takeRest_136 rfl (lv_at hl 3 rfl) ?_
    refine q_getR E hC0 g3 fa_RX3_146 dX3_takeRest_137 (fun q39 eq39 gq39 => ?_)
    refine q_goI (q_runV (As := [.ref h2, .int 1, .ref q39]) (rest := []) E hC0 hS0 (m_X3_takeCell l X Γ H0 hC0 h0 g0 h2 g2 1 (a2 := 1) (by decide) q39 gq39) cw_X3_takeCell cl_RX3_149 g0 ⟨rfl, rfl⟩ rfl hl.1 rfl (Nat.zero_le _) (by decide) dX3_takeRest_140) hS0 (fun v40 H40 locs40 hr40 hC40 hS40 => ?_)
    obtain ⟨hp40, hr40⟩ := hr40
    have hKp40 := hKp0.tr (hp40.mono rfl)
    rcases hr40 with rfl | rfl
    · refine q_if_eq hx hb (a := 0) (by decide) (tgt := 209) dX3_takeRest_143 rfl (fun c41 => ?_) (fun c41 => absurd c41 (by omega))
      refine lv_iconst (v := 0) hx hb dX3_takeRest_209 rfl ?_
      exact ret 0 H40 locs40 _ _ dX3_takeRest_210 (Or.inl rfl) ⟨hKp40, Or.inl rfl⟩ hC40 hS40
    · refine q_if_eq hx hb (a := 1) (by decide) (tgt := 209) dX3_takeRest_143 rfl (fun c42 => absurd c42 (by omega)) (fun c42 => ?_)
      refine lv_aload_n hx hb dX3_takeRest_146 rfl (lv_at hl 0 rfl) ?_
      refine q_getR E hC40 g0 fa_RX3_15 dX3_takeRest_147 (fun q43 eq43 gq43 => ?_)
      refine q_word E hS40 (i := 21) (by decide) w_803 dX3_takeRest_150 (fun q44 gq44 => ?_)
      refine q_goI (q_runV (As := [va_rf (some q44)]) (rest := []) E hC40 hS40 (m_X4_take l X Γ H40 hC40 q43 gq43 (some q44) (fun _ h => by cases h; exact gq44)) cw_X4_take cl_RX3_156 gq43 ⟨rfl, rfl⟩ rfl hl.1 rfl (Nat.zero_le _) (by decide) dX3_takeRest_153) hS40 (fun v45 H45 locs45 hr45 hC45 hS45 => ?_)
      obtain ⟨hp45, hr45⟩ := hr45
      have hKp45 := hKp40.tr (hp45.mono rfl)
      rcases hr45 with rfl | rfl
      · refine q_if_eq hx hb (a := 0) (by decide) (tgt := 209) dX3_takeRest_156 rfl (fun c46 => ?_) (fun c46 => absurd c46 (by omega))
        refine lv_iconst (v := 0) hx hb dX3_takeRest_209 rfl ?_
        exact ret 0 H45 locs45 _ _ dX3_takeRest_210 (Or.inl rfl) ⟨hKp45, Or.inl rfl⟩ hC45 hS45
      · refine q_if_eq hx hb (a := 1) (by decide) (tgt := 209) dX3_takeRest_156 rfl (fun c47 => absurd c47 (by omega)) (fun c47 => ?_)
        refine lv_aload_n hx hb dX3_takeRest_159 rfl (lv_at hl 0 rfl) ?_
        refine lv_aload_n hx hb dX3_takeRest_160 rfl (lv_at hl 2 rfl) ?_
        refine lv_iconst (v := 0) hx hb dX3_takeRest_161 rfl ?_
        refine lv_aload_n hx hb dX3_takeRest_162 rfl (lv_at hl 3 rfl) ?_
        refine q_getR E hC45 g3 fa_RX3_163 dX3_takeRest_163 (fun q48 eq48 gq48 => ?_)
        refine q_goI (q_runV (As := [.ref h2, .int 0, .ref q48]) (rest := []) E hC45 hS45 (m_X3_takeCell l X Γ H45 hC45 h0 g0 h2 g2 0 (a2 := 0) (by decide) q48 gq48) cw_X3_takeCell cl_RX3_149 g0 ⟨rfl, rfl⟩ rfl hl.1 rfl (Nat.zero_le _) (by decide) dX3_takeRest_166) hS45 (fun v49 H49 locs49 hr49 hC49 hS49 => ?_)
        obtain ⟨hp49, hr49⟩ := hr49
        have hKp49 := hKp45.tr (hp49.mono rfl)
        rcases hr49 with rfl | rfl
        · refine q_if_eq hx hb (a := 0) (by decide) (tgt := 209) dX3_takeRest_169 rfl (fun c50 => ?_) (fun c50 => absurd c50 (by omega))
          refine lv_iconst (v := 0) hx hb dX3_takeRest_209 rfl ?_
          exact ret 0 H49 locs49 _ _ dX3_takeRest_210 (Or.inl rfl) ⟨hKp49, Or.inl rfl⟩ hC49 hS49
        · refine q_if_eq hx hb (a := 1) (by decide) (tgt := 209) dX3_takeRest_169 rfl (fun c51 => absurd c51 (by omega)) (fun c51 => ?_)
          refine lv_aload_n hx hb dX3_takeRest_172 rfl (lv_at hl 0 rfl) ?_
          refine lv_aload_n hx hb dX3_takeRest_173 rfl (lv_at hl 2 rfl) ?_
          refine lv_aload_n hx hb dX3_takeRest_174 rfl (lv_at hl 3 rfl) ?_
          refine q_goI (q_runV (As := [.ref h2, .ref h3]) (rest := []) E hC49 hS49 (m_X3_crossesHalves l X Γ H49 hC49 h0 g0 h2 g2 h3 g3) cw_X3_crossesHalves cl_RX3_166 g0 ⟨rfl, rfl⟩ rfl hl.1 rfl (Nat.zero_le _) (by decide) dX3_takeRest_175) hS49 (fun v52 H52 locs52 hr52 hC52 hS52 => ?_)
          obtain ⟨hp52, hr52⟩ := hr52
          have hKp52 := hKp49.tr (hp52.mono rfl)
          rcases hr52 with rfl | rfl
          · refine q_if_eq hx hb (a := 0) (by decide) (tgt := 209) dX3_takeRest_178 rfl (fun c53 => ?_) (fun c53 => absurd c53 (by omega))
            refine lv_iconst (v := 0) hx hb dX3_takeRest_209 rfl ?_
            exact ret 0 H52 locs52 _ _ dX3_takeRest_210 (Or.inl rfl) ⟨hKp52, Or.inl rfl⟩ hC52 hS52
          · refine q_if_eq hx hb (a := 1) (by decide) (tgt := 209) dX3_takeRest_178 rfl (fun c54 => absurd c54 (by omega)) (fun c54 => ?_)
            refine lv_aload_n hx hb dX3_takeRest_181 rfl (lv_at hl 0 rfl) ?_
            refine q_getR E hC52 g0 fa_RX3_15 dX3_takeRest_182 (fun q55 eq55 gq55 => ?_)
            refine q_word E hS52 (i := 9) (by decide) w_802 dX3_takeRest_185 (fun q56 gq56 => ?_)
            refine q_goI (q_runV (As := [va_rf (some q56)]) (rest := []) E hC52 hS52 (m_X4_take l X Γ H52 hC52 q55 gq55 (some q56) (fun _ h => by cases h; exact gq56)) cw_X4_take cl_RX3_156 gq55 ⟨rfl, rfl⟩ rfl hl.1 rfl (Nat.zero_le _) (by decide) dX3_takeRest_188) hS52 (fun v57 H57 locs57 hr57 hC57 hS57 => ?_)
            obtain ⟨hp57, hr57⟩ := hr57
            have hKp57 := hKp52.tr (hp57.mono rfl)
            rcases hr57 with rfl | rfl
            · refine q_if_eq hx hb (a := 0) (by decide) (tgt := 209) dX3_takeRest_191 rfl (fun c58 => ?_) (fun c58 => absurd c58 (by omega))
              refine lv_iconst (v := 0) hx hb dX3_takeRest_209 rfl ?_
              exact ret 0 H57 locs57 _ _ dX3_takeRest_210 (Or.inl rfl) ⟨hKp57, Or.inl rfl⟩ hC57 hS57
            · refine q_if_eq hx hb (a := 1) (by decide) (tgt := 209) dX3_takeRest_191 rfl (fun c59 => absurd c59 (by omega)) (fun c59 => ?_)
              refine lv_aload_n hx hb dX3_takeRest_194 rfl (lv_at hl 0 rfl) ?_
              refine lv_aload_n hx hb dX3_takeRest_195 rfl (lv_at hl 3 rfl) ?_
              refine lv_iconst (v := 1) hx hb dX3_takeRest_196 rfl ?_
              refine lv_bipush (v := 40) hx hb dX3_takeRest_197 rfl ?_
              refine q_goI (q_runV (As := [.ref h3, .int 1, .int 40]) (rest := []) E hC57 hS57 (m_X3_takeAmount l X Γ H57 hC57 h0 g0 h3 g3 1 (a2 := 1) (by decide) 40 (a3 := 40) (by decide)) cw_X3_takeAmount cl_RX3_139 g0 ⟨rfl, rfl⟩ rfl hl.1 rfl (Nat.zero_le _) (by decide) dX3_takeRest_199) hS57 (fun v60 H60 locs60 hr60 hC60 hS60 => ?_)
              obtain ⟨hp60, hr60⟩ := hr60
              have hKp60 := hKp57.tr (hp60.mono rfl)
              rcases hr60 with rfl | rfl
              · refine q_if_eq hx hb (a := 0) (by decide) (tgt := 209) dX3_takeRest_202 rfl (fun c61 => ?_) (fun c61 => absurd c61 (by omega))
                refine lv_iconst (v := 0) hx hb dX3_takeRest_209 rfl ?_
                exact ret 0 H60 locs60 _ _ dX3_takeRest_210 (Or.inl rfl) ⟨hKp60, Or.inl rfl⟩ hC60 hS60
              · refine q_if_eq hx hb (a := 1) (by decide) (tgt := 209) dX3_takeRest_202 rfl (fun c62 => absurd c62 (by omega)) (fun c62 => ?_)
                refine lv_iconst (v := 1) hx hb dX3_takeRest_205 rfl ?_
                refine lv_goto (tgt := 210) hx hb dX3_takeRest_206 rfl ?_
                exact ret 1 H60 locs60 _ _ dX3_takeRest_210 (Or.inr rfl) ⟨hKp60, Or.inr rfl⟩ hC60 hS60
  by_cases c21_6 : a1 = 6
  · have c21_x := (show p1.toInt = a1 from e1).trans c21_6
    refine lv_tableIn hx hb dX3_takeRest_1 (by rw [c21_x]; decide) (by rw [c21_x]; decide) (off := 219) (by rw [c21_x]; rfl) (tgt := 220) rfl ?_
    refine lv_iconst (v := 1) hx hb dX3_takeRest_220 rfl ?_
    exact ret 1 H0 [] _ _ dX3_takeRest_221 (Or.inr rfl) ⟨hKp0, Or.inr rfl⟩ hC0 hS0
  by_cases c21_7 : a1 = 7
  · have c21_x := (show p1.toInt = a1 from e1).trans c21_7
    refine lv_tableIn hx hb dX3_takeRest_1 (by rw [c21_x]; decide) (by rw [c21_x]; decide) (off := 219) (by rw [c21_x]; rfl) (tgt := 220) rfl ?_
    refine lv_iconst (v := 1) hx hb dX3_takeRest_220 rfl ?_
    exact ret 1 H0 [] _ _ dX3_takeRest_221 (Or.inr rfl) ⟨hKp0, Or.inr rfl⟩ hC0 hS0
  by_cases c21_8 : a1 = 8
  · have c21_x := (show p1.toInt = a1 from e1).trans c21_8
    refine lv_tableIn hx hb dX3_takeRest_1 (by rw [c21_x]; decide) (by rw [c21_x]; decide) (off := 219) (by rw [c21_x]; rfl) (tgt := 220) rfl ?_
    refine lv_iconst (v := 1) hx hb dX3_takeRest_220 rfl ?_
    exact ret 1 H0 [] _ _ dX3_takeRest_221 (Or.inr rfl) ⟨hKp0, Or.inr rfl⟩ hC0 hS0
  by_cases c21_9 : a1 = 9
  · have c21_x := (show p1.toInt = a1 from e1).trans c21_9
    refine lv_tableIn hx hb dX3_takeRest_1 (by rw [c21_x]; decide) (by rw [c21_x]; decide) (off := 219) (by rw [c21_x]; rfl) (tgt := 220) rfl ?_
    refine lv_iconst (v := 1) hx hb dX3_takeRest_220 rfl ?_
    exact ret 1 H0 [] _ _ dX3_takeRest_221 (Or.inr rfl) ⟨hKp0, Or.inr rfl⟩ hC0 hS0
  by_cases c21_10 : a1 = 10
  · have c21_x := (show p1.toInt = a1 from e1).trans c21_10
    refine lv_tableIn hx hb dX3_takeRest_1 (by rw [c21_x]; decide) (by rw [c21_x]; decide) (off := 219) (by rw [c21_x]; rfl) (tgt := 220) rfl ?_
    refine lv_iconst (v := 1) hx hb dX3_takeRest_220 rfl ?_
    exact ret 1 H0 [] _ _ dX3_takeRest_221 (Or.inr rfl) ⟨hKp0, Or.inr rfl⟩ hC0 hS0
  by_cases c21_11 : a1 = 11
  · have c21_x := (show p1.toInt = a1 from e1).trans c21_11
    refine lv_tableIn hx hb dX3_takeRest_1 (by rw [c21_x]; decide) (by rw [c21_x]; decide) (off := 210) (by rw [c21_x]; rfl) (tgt := 211) rfl ?_
    refine lv_aload_n hx hb dX3_takeRest_211 rfl (lv_at hl 0 rfl) ?_
    refine lv_aload_n hx hb dX3_takeRest_212 rfl (lv_at hl 3 rfl) ?_
    refine lv_iconst (v := 1) hx hb dX3_takeRest_213 rfl ?_
    refine lv_bipush (v := 99) hx hb dX3_takeRest_214 rfl ?_
    refine q_goI (q_runV (As := [.ref h3, .int 1, .int 99]) (rest := []) E hC0 hS0 (m_X3_takeAmount l X Γ H0 hC0 h0 g0 h3 g3 1 (a2 := 1) (by decide) 99 (a3 := 99) (by decide)) cw_X3_takeAmount cl_RX3_139 g0 ⟨rfl, rfl⟩ rfl hl.1 rfl (Nat.zero_le _) (by decide) dX3_takeRest_216) hS0 (fun v63 H63 locs63 hr63 hC63 hS63 => ?_)
    obtain ⟨hp63, hr63⟩ := hr63
    have hKp63 := hKp0.tr (hp63.mono rfl)
    rcases hr63 with rfl | rfl
    · exact ret 0 H63 locs63 _ _ dX3_takeRest_219 (Or.inl rfl) ⟨hKp63, Or.inl rfl⟩ hC63 hS63
    · exact ret 1 H63 locs63 _ _ dX3_takeRest_219 (Or.inr rfl) ⟨hKp63, Or.inr rfl⟩ hC63 hS63
  refine lv_tableOut hx hb dX3_takeRest_1 (by rw [show p1.toInt = a1 from e1]; omega) (tgt := 220) rfl ?_
  refine lv_iconst (v := 1) hx hb dX3_takeRest_220 rfl ?_
  exact ret 1 H0 [] _ _ dX3_takeRest_221 (Or.inr rfl) ⟨hKp0, Or.inr rfl⟩ hC0 hS0
set_option maxRecDepth 100000 in
set_option maxHeartbeats 4000000 in
theorem m_X3_takeStep (l : Launch) (X : xW) (Γ : Nat → Option Nat) (H0 : Heap) (hC0 : Conf X Γ H0) (h0 : Nat) (g0 : Γ h0 = some 4) (h1 : Nat) (g1 : Γ h1 = some 5) (h2 : Nat) (g2 : Γ h2 = some 6) : Ctr l X Γ yX3_takeStep cX3_takeStep 5 (some .boolean) 5 [.ref h0, .ref h1, .ref h2] H0 (QI X Γ (fun v H1 => Kp X Γ [0, 2, 3, 4, 5, 18, 21, 23, 25, 27] H0 H1 ∧ (v = 0 ∨ v = 1))) := by
  refine q_enterZ (own := "SnowForts$OrdersText") (by decide) rfl (Nat.le_of_ble_eq_true rfl) ?_
  intro p e s m args below meth c ls Qz E hl ret hS0
  have hx := E.1; have hb := E.2.1
  have hKp0 : Kp X Γ [0, 2, 3, 4, 5, 18, 21, 23, 25, 27] H0 H0 := Kp.rf
  have hl : lv_has ls 5 [(0, .ref h0), (1, .ref h1), (2, .ref h2)] := hl
  refine lv_aload_n hx hb dX3_takeStep_0 rfl (lv_at hl 0 rfl) ?_
  refine q_getR E hC0 g0 fa_RX3_15 dX3_takeStep_1 (fun q21 eq21 gq21 => ?_)
  refine q_getQ E hC0 gq21 fa_RX3_37 dX3_takeStep_4 (fun q22 eq22 gq22 => ?_)
  refine q_asq_n (o := q22) hx hb dX3_takeStep_7 rfl hl (by decide) rfl (fun ls hl => ?_)
  replace hl : lv_has ls 5 [(3, va_rf q22), (0, .ref h0), (1, .ref h1), (2, .ref h2)] := hl
  refine q_alq_n (o := q22) hx hb dX3_takeStep_8 rfl (lv_at hl 0 rfl) ?_
  refine q_goIp (q_runS (As := [va_rf q22]) (rest := []) E hS0 (m_X3_kindOf l X Γ H0 hC0 q22 gq22) cw_X3_kindOf cl_RX3_85 rfl hl.1 rfl (Nat.zero_le _) (by decide) dX3_takeStep_9) hS0 (fun v23 locs23 hr23 hS23 => ?_)
  refine lv_istore hx hb dX3_takeStep_12 hl (by decide) rfl (fun ls hl => ?_)
  replace hl : lv_has ls 5 [(4, .int v23), (3, va_rf q22), (0, .ref h0), (1, .ref h1), (2, .ref h2)] := by revert hl; cases q22 <;> exact fun h => h
  refine lv_iload hx hb dX3_takeStep_14 (lv_at hl 0 rfl) ?_
  refine lv_iconst (v := (-1)) hx hb dX3_takeStep_16 rfl ?_
  refine q_icmp_ne hx hb (a := v23.toInt) (b := (-1)) rfl (by decide) (tgt := 28) dX3_takeStep_17 rfl (fun c24 => ?_) (fun c24 => ?_)
  · refine lv_aload_n hx hb dX3_takeStep_28 rfl (lv_at hl 4 rfl) ?_
    refine q_getI E hC0 g2 fa_RX3_89 dX3_takeStep_29 (fun v25 ev25 _ _ => ?_)
    refine lv_bipush (v := 30) hx hb dX3_takeStep_32 rfl ?_
    refine q_icmp_ge hx hb (a := v25.toInt) (b := 30) rfl (by decide) (tgt := 47) dX3_takeStep_34 rfl (fun c26 => ?_) (fun c26 => ?_)
    · refine lv_aload_n hx hb dX3_takeStep_47 rfl (lv_at hl 2 rfl) ?_
      refine q_getR E hC0 g0 fa_RX3_15 dX3_takeStep_48 (fun q27 eq27 gq27 => ?_)
      refine lv_bipush (v := 6) hx hb dX3_takeStep_51 rfl ?_
      refine lv_aload_n hx hb dX3_takeStep_53 rfl (lv_at hl 2 rfl) ?_
      refine q_getR E hC0 g0 fa_RX3_15 dX3_takeStep_54 (fun q28 eq28 gq28 => ?_)
      refine q_getI E hC0 gq28 fa_RX3_92 dX3_takeStep_57 (fun v29 ev29 _ _ => ?_)
      refine q_goI (q_runV (As := [.int 6, .int v29]) (rest := []) E hC0 hS23 (m_X4_fail l X Γ H0 hC0 q27 gq27 6 (a1 := 6) (by decide) v29 (a2 := v29.toInt) rfl) cw_X4_fail cl_RX3_95 gq27 ⟨rfl, rfl⟩ rfl hl.1 rfl (Nat.zero_le _) (by decide) dX3_takeStep_60) hS23 (fun v30 H30 locs30 hr30 hC30 hS30 => ?_)
      obtain ⟨hp30, hr30⟩ := hr30
      have hKp30 := hKp0.tr (hp30.mono rfl)
      rcases hr30 with rfl | rfl
      · exact ret 0 H30 locs30 _ _ dX3_takeStep_63 (Or.inl rfl) ⟨hKp30, Or.inl rfl⟩ hC30 hS30
      · exact ret 1 H30 locs30 _ _ dX3_takeStep_63 (Or.inr rfl) ⟨hKp30, Or.inr rfl⟩ hC30 hS30
    · refine lv_aload_n hx hb dX3_takeStep_37 rfl (lv_at hl 4 rfl) ?_
      refine q_getI E hC0 g2 fa_RX3_66 dX3_takeStep_38 (fun v31 ev31 _ _ => ?_)
      refine q_goIp (q_runS (As := [.int v31]) (rest := []) E hS23 (m_X2_isItem l X Γ H0 hC0 v31 (a0 := v31.toInt) rfl) cw_X2_isItem cl_RX3_73 rfl hl.1 rfl (Nat.zero_le _) (by decide) dX3_takeStep_41) hS23 (fun v32 locs32 hr32 hS32 => ?_)
      rcases hr32 with ⟨rfl, f32a0, f32a1⟩ | ⟨rfl, -⟩
      · refine q_if_ne hx hb (a := 1) (by decide) (tgt := 64) dX3_takeStep_44 rfl (fun c33 => ?_) (fun c33 => absurd c33 (by omega))
        refine lv_aload_n hx hb dX3_takeStep_64 rfl (lv_at hl 2 rfl) ?_
        refine lv_aload_n hx hb dX3_takeStep_65 rfl (lv_at hl 4 rfl) ?_
        refine q_getI E hC0 g2 fa_RX3_66 dX3_takeStep_66 (fun v34 ev34 _ _ => ?_)
        have qv34 := ev31.symm.trans ev34; subst qv34
        refine q_put E hC0 hS32 g0 fp_RX3_99 (tv_I rfl (by omega) (by omega)) rfl rfl dX3_takeStep_69 (fun H35 locs35 hC35 hS35 U35 => ?_)
        have hKp35 := Kp.upO E g0 fp_RX3_99 rfl U35 hKp0
        have e36 := up_I U35
        refine q_alq_n (o := q22) hx hb dX3_takeStep_72 rfl (lv_at hl 1 rfl) ?_
        refine q_word E hS35 (i := 22) (by decide) w_752 dX3_takeStep_73 (fun q37 gq37 => ?_)
        refine lv_acmp_eq (rx := q22) (ry := (some q37)) (tgt := 86) hx hb dX3_takeStep_76 rfl (fun c38 => ?_) (fun c38 => ?_)
        · refine lv_aload_n hx hb dX3_takeStep_86 rfl (lv_at hl 2 rfl) ?_
          refine q_getI E hC35 g0 fa_RX3_24 dX3_takeStep_87 (fun v39 ev39 _ _ => ?_)
          refine lv_i2l (v := v39.toInt64) hx hb dX3_takeStep_90 rfl (lv_topl (fun v40 ev40 => ?_))
          have ev40i : v40.toInt = v39.toInt := l_ofi ev40.symm rfl
          refine lv_iconst (v := 0) hx hb dX3_takeStep_91 rfl ?_
          refine lv_iconst (v := 2) hx hb dX3_takeStep_92 rfl ?_
          refine q_goIp (q_runSN (As := [.long v40, .int 0, .int 2]) (rest := []) E hS35 (m_X11_isWithin l X Γ H35 hC35 v40 (a0 := v39.toInt) ev40i 0 (a1 := 0) (by decide) 2 (a2 := 2) (by decide)) cw_X11_isWithin cl_RX3_69 rfl hl.1 rfl (Nat.zero_le _) (by decide) dX3_takeStep_93) hS35 (fun v41 locs41 hr41 hS41 => ?_)
          rcases hr41 with ⟨rfl, f41a0, f41a1⟩ | ⟨rfl, f41b⟩
          · refine q_if_ne hx hb (a := 1) (by decide) (tgt := 116) dX3_takeStep_96 rfl (fun c42 => ?_) (fun c42 => absurd c42 (by omega))
            refine lv_aload_n hx hb dX3_takeStep_116 rfl (lv_at hl 2 rfl) ?_
            refine q_getR E hC35 g0 fa_RX3_11 dX3_takeStep_117 (fun q43 eq43 gq43 => ?_)
            refine lv_aload_n hx hb dX3_takeStep_120 rfl (lv_at hl 2 rfl) ?_
            refine q_getI E hC35 g0 fa_RX3_24 dX3_takeStep_121 (fun v44 ev44 _ _ => ?_)
            have qv44 := ev39.symm.trans ev44; subst qv44
            refine lv_aload_n hx hb dX3_takeStep_124 rfl (lv_at hl 2 rfl) ?_
            refine q_getI E hC35 g0 fa_RX3_99 dX3_takeStep_125 (fun v45 ev45 lv45 uv45 => ?_)
            have qv45 := e36.symm.trans ev45; subst qv45
            refine q_iast E hC35 hS41 gq43 (by decide) rfl rfl (i_in (a := v39.toInt) rfl (by omega) (by omega)) tv_F dX3_takeStep_128 (fun H46 locs46 hC46 hS46 U46 => ?_)
            have hKp46 := Kp.upA gq43 rfl (by decide) rfl U46 hKp35
            refine lv_aload_n hx hb dX3_takeStep_129 rfl (lv_at hl 2 rfl) ?_
            refine lv_dup hx hb dX3_takeStep_130 rfl ?_
            have e48 := (up_nI U46 (ne_k g0 gq43 (by decide))).trans ev39
            refine q_getI E hC46 g0 fa_RX3_24 dX3_takeStep_131 (fun v47 ev47 _ _ => ?_)
            have qv47 := e48.symm.trans ev47; subst qv47
            refine lv_iconst (v := 1) hx hb dX3_takeStep_134 rfl ?_
            refine lv_iadd hx hb dX3_takeStep_135 (lv_topi (fun v49 ev49 => ?_))
            have ev49i : v49.toInt = (v39.toInt + 1) := i_add ev49 rfl (by decide) (by omega) (by omega)
            refine q_put E hC46 hS46 g0 fp_RX3_24 tv_F rfl rfl dX3_takeStep_136 (fun H50 locs50 hC50 hS50 U50 => ?_)
            have hKp50 := Kp.upO E g0 fp_RX3_24 rfl U50 hKp46
            have e51 := up_I U50
            refine lv_aload_n hx hb dX3_takeStep_139 rfl (lv_at hl 4 rfl) ?_
            refine q_getR E hC50 g2 fa_RX3_76 dX3_takeStep_140 (fun q52 eq52 gq52 => ?_)
            refine lv_aload_n hx hb dX3_takeStep_143 rfl (lv_at hl 2 rfl) ?_
            have e54 := (up_nI U46 (ne_k g0 gq43 (by decide))).trans e36
            have e55 := (up_nI U50 (ne_f E 3 3 2 rfl (by decide) (by decide) (by decide))).trans e54
            refine q_getI E hC50 g0 fa_RX3_99 dX3_takeStep_144 (fun v53 ev53 lv53 uv53 => ?_)
            have qv53 := e55.symm.trans ev53; subst qv53
            refine lv_iload hx hb dX3_takeStep_147 (lv_at hl 0 rfl) ?_
            refine q_iast E hC50 hS50 gq52 (by decide) rfl rfl (i_in (a := v31.toInt) rfl (by omega) (by omega)) tv_F dX3_takeStep_149 (fun H56 locs56 hC56 hS56 U56 => ?_)
            have hKp56 := Kp.upA gq52 rfl (by decide) rfl U56 hKp50
            refine lv_aload_n hx hb dX3_takeStep_150 rfl (lv_at hl 4 rfl) ?_
            refine lv_dup hx hb dX3_takeStep_151 rfl ?_
            have e58 := (up_nI U35 (ne_k g2 g0 (by decide))).trans ev31
            have e59 := (up_nI U46 (ne_k g2 gq43 (by decide))).trans e58
            have e60 := (up_nI U50 (ne_k g2 g0 (by decide))).trans e59
            have e61 := (up_nI U56 (ne_k g2 gq52 (by decide))).trans e60
            refine q_getI E hC56 g2 fa_RX3_66 dX3_takeStep_152 (fun v57 ev57 _ _ => ?_)
            have qv57 := e61.symm.trans ev57; subst qv57
            refine lv_iconst (v := 1) hx hb dX3_takeStep_155 rfl ?_
            refine lv_iadd hx hb dX3_takeStep_156 (lv_topi (fun v62 ev62 => ?_))
            have ev62i : v62.toInt = (v31.toInt + 1) := i_add ev62 rfl (by decide) (by omega) (by omega)
            refine q_put E hC56 hS56 g2 fp_RX3_66 tv_F rfl rfl dX3_takeStep_157 (fun H63 locs63 hC63 hS63 U63 => ?_)
            have hKp63 := Kp.upO E g2 fp_RX3_66 rfl U63 hKp56
            have e64 := up_I U63
            refine lv_aload_n hx hb dX3_takeStep_160 rfl (lv_at hl 4 rfl) ?_
            refine lv_dup hx hb dX3_takeStep_161 rfl ?_
            have e66 := (up_nI U35 (ne_k g2 g0 (by decide))).trans ev25
            have e67 := (up_nI U46 (ne_k g2 gq43 (by decide))).trans e66
            have e68 := (up_nI U50 (ne_k g2 g0 (by decide))).trans e67
            have e69 := (up_nI U56 (ne_k g2 gq52 (by decide))).trans e68
            have e70 := (up_nI U63 (ne_f E 2 2 1 rfl (by decide) (by decide) (by decide))).trans e69
            refine q_getI E hC63 g2 fa_RX3_89 dX3_takeStep_162 (fun v65 ev65 _ _ => ?_)
            have qv65 := e70.symm.trans ev65; subst qv65
            refine lv_iconst (v := 1) hx hb dX3_takeStep_165 rfl ?_
            refine lv_iadd hx hb dX3_takeStep_166 (lv_topi (fun v71 ev71 => ?_))
            have c72 := i_rng v25; rw [show v25.toInt = v25.toInt from rfl] at c72
            have ev71i : v71.toInt = (v25.toInt + 1) := i_add ev71 rfl (by decide) (by omega) (by omega)
            refine q_put E hC63 hS63 g2 fp_RX3_89 tv_F rfl rfl dX3_takeStep_167 (fun H73 locs73 hC73 hS73 U73 => ?_)
            have hKp73 := Kp.upO E g2 fp_RX3_89 rfl U73 hKp63
            have e74 := up_I U73
            refine lv_aload_n hx hb dX3_takeStep_170 rfl (lv_at hl 2 rfl) ?_
            refine q_getR E hC73 g0 fa_RX3_15 dX3_takeStep_171 (fun q75 eq75 gq75 => ?_)
            refine q_goV (q_runV (As := []) (rest := []) E hC73 hS73 (m_X4_advance l X Γ H73 hC73 q75 gq75) cw_X4_advance cl_RX3_82 gq75 ⟨rfl, rfl⟩ rfl hl.1 rfl (Nat.zero_le _) (by decide) dX3_takeStep_174) hS73 (fun H76 locs76 hr76 hC76 hS76 => ?_)
            have hKp76 := hKp73.tr (hr76.mono rfl)
            refine q_alq_n (o := q22) hx hb dX3_takeStep_177 rfl (lv_at hl 1 rfl) ?_
            refine q_word E hS76 (i := 22) (by decide) w_752 dX3_takeStep_178 (fun q77 gq77 => ?_)
            refine lv_acmp_ne (rx := q22) (ry := (some q77)) (tgt := 193) hx hb dX3_takeStep_181 rfl (fun c78 => ?_) (fun c78 => ?_)
            · refine lv_aload_n hx hb dX3_takeStep_193 rfl (lv_at hl 2 rfl) ?_
              refine lv_iload hx hb dX3_takeStep_194 (lv_at hl 0 rfl) ?_
              refine lv_aload_n hx hb dX3_takeStep_196 rfl (lv_at hl 3 rfl) ?_
              refine lv_aload_n hx hb dX3_takeStep_197 rfl (lv_at hl 4 rfl) ?_
              refine q_goI (q_runV (As := [.int v23, .ref h1, .ref h2]) (rest := []) E hC76 hS76 (m_X3_takeRest l X Γ H76 hC76 h0 g0 v23 (a1 := v23.toInt) rfl h1 g1 h2 g2) cw_X3_takeRest cl_RX3_111 g0 ⟨rfl, rfl⟩ rfl hl.1 rfl (Nat.zero_le _) (by decide) dX3_takeStep_198) hS76 (fun v79 H79 locs79 hr79 hC79 hS79 => ?_)
              obtain ⟨hp79, hr79⟩ := hr79
              have hKp79 := hKp76.tr (hp79.mono rfl)
              rcases hr79 with rfl | rfl
              · exact ret 0 H79 locs79 _ _ dX3_takeStep_201 (Or.inl rfl) ⟨hKp79, Or.inl rfl⟩ hC79 hS79
              · exact ret 1 H79 locs79 _ _ dX3_takeStep_201 (Or.inr rfl) ⟨hKp79, Or.inr rfl⟩ hC79 hS79
            · refine lv_aload_n hx hb dX3_takeStep_184 rfl (lv_at hl 2 rfl) ?_
              refine lv_aload_n hx hb dX3_takeStep_185 rfl (lv_at hl 3 rfl) ?_
              refine lv_aload_n hx hb dX3_takeStep_186 rfl (lv_at hl 4 rfl) ?_
              refine q_goI (q_runV (As := [.ref h1, .ref h2]) (rest := []) E hC76 hS76 (m_X3_takeTest l X Γ H76 hC76 h0 g0 h1 g1 h2 g2) cw_X3_takeTest cl_RX3_108 g0 ⟨rfl, rfl⟩ rfl hl.1 rfl (Nat.zero_le _) (by decide) dX3_takeStep_187) hS76 (fun v80 H80 locs80 hr80 hC80 hS80 => ?_)
              obtain ⟨hp80, hr80⟩ := hr80
              have hKp80 := hKp76.tr (hp80.mono rfl)
              rcases hr80 with rfl | rfl
              · refine lv_goto (tgt := 201) hx hb dX3_takeStep_190 rfl ?_
                exact ret 0 H80 locs80 _ _ dX3_takeStep_201 (Or.inl rfl) ⟨hKp80, Or.inl rfl⟩ hC80 hS80
              · refine lv_goto (tgt := 201) hx hb dX3_takeStep_190 rfl ?_
                exact ret 1 H80 locs80 _ _ dX3_takeStep_201 (Or.inr rfl) ⟨hKp80, Or.inr rfl⟩ hC80 hS80
          · refine q_if_ne hx hb (a := 0) (by decide) (tgt := 116) dX3_takeStep_96 rfl (fun c81 => absurd c81 (by omega)) (fun c81 => ?_)
            refine lv_aload_n hx hb dX3_takeStep_99 rfl (lv_at hl 2 rfl) ?_
            refine q_getR E hC35 g0 fa_RX3_15 dX3_takeStep_100 (fun q82 eq82 gq82 => ?_)
            refine lv_bipush (v := 7) hx hb dX3_takeStep_103 rfl ?_
            refine lv_aload_n hx hb dX3_takeStep_105 rfl (lv_at hl 2 rfl) ?_
            refine q_getR E hC35 g0 fa_RX3_15 dX3_takeStep_106 (fun q83 eq83 gq83 => ?_)
            refine q_getI E hC35 gq83 fa_RX3_92 dX3_takeStep_109 (fun v84 ev84 _ _ => ?_)
            refine q_goI (q_runV (As := [.int 7, .int v84]) (rest := []) E hC35 hS41 (m_X4_fail l X Γ H35 hC35 q82 gq82 7 (a1 := 7) (by decide) v84 (a2 := v84.toInt) rfl) cw_X4_fail cl_RX3_95 gq82 ⟨rfl, rfl⟩ rfl hl.1 rfl (Nat.zero_le _) (by decide) dX3_takeStep_112) hS41 (fun v85 H85 locs85 hr85 hC85 hS85 => ?_)
            obtain ⟨hp85, hr85⟩ := hr85
            have hKp85 := hKp35.tr (hp85.mono rfl)
            rcases hr85 with rfl | rfl
            · exact ret 0 H85 locs85 _ _ dX3_takeStep_115 (Or.inl rfl) ⟨hKp85, Or.inl rfl⟩ hC85 hS85
            · exact ret 1 H85 locs85 _ _ dX3_takeStep_115 (Or.inr rfl) ⟨hKp85, Or.inr rfl⟩ hC85 hS85
        · refine q_alq_n (o := q22) hx hb dX3_takeStep_79 rfl (lv_at hl 1 rfl) ?_
          refine q_word E hS35 (i := 26) (by decide) w_754 dX3_takeStep_80 (fun q86 gq86 => ?_)
          refine lv_acmp_ne (rx := q22) (ry := (some q86)) (tgt := 139) hx hb dX3_takeStep_83 rfl (fun c87 => ?_) (fun c87 => ?_)
          · refine lv_aload_n hx hb dX3_takeStep_139 rfl (lv_at hl 4 rfl) ?_
            refine q_getR E hC35 g2 fa_RX3_76 dX3_takeStep_140 (fun q88 eq88 gq88 => ?_)
            refine lv_aload_n hx hb dX3_takeStep_143 rfl (lv_at hl 2 rfl) ?_
            refine q_getI E hC35 g0 fa_RX3_99 dX3_takeStep_144 (fun v89 ev89 lv89 uv89 => ?_)
            have qv89 := e36.symm.trans ev89; subst qv89
            refine lv_iload hx hb dX3_takeStep_147 (lv_at hl 0 rfl) ?_
            refine q_iast E hC35 hS35 gq88 (by decide) rfl rfl (i_in (a := v31.toInt) rfl (by omega) (by omega)) tv_F dX3_takeStep_149 (fun H90 locs90 hC90 hS90 U90 => ?_)
            have hKp90 := Kp.upA gq88 rfl (by decide) rfl U90 hKp35
            refine lv_aload_n hx hb dX3_takeStep_150 rfl (lv_at hl 4 rfl) ?_
            refine lv_dup hx hb dX3_takeStep_151 rfl ?_
            have e92 := (up_nI U35 (ne_k g2 g0 (by decide))).trans ev31
            have e93 := (up_nI U90 (ne_k g2 gq88 (by decide))).trans e92
            refine q_getI E hC90 g2 fa_RX3_66 dX3_takeStep_152 (fun v91 ev91 _ _ => ?_)
            have qv91 := e93.symm.trans ev91; subst qv91
            refine lv_iconst (v := 1) hx hb dX3_takeStep_155 rfl ?_
            refine lv_iadd hx hb dX3_takeStep_156 (lv_topi (fun v94 ev94 => ?_))
            have ev94i : v94.toInt = (v31.toInt + 1) := i_add ev94 rfl (by decide) (by omega) (by omega)
            refine q_put E hC90 hS90 g2 fp_RX3_66 tv_F rfl rfl dX3_takeStep_157 (fun H95 locs95 hC95 hS95 U95 => ?_)
            have hKp95 := Kp.upO E g2 fp_RX3_66 rfl U95 hKp90
            have e96 := up_I U95
            refine lv_aload_n hx hb dX3_takeStep_160 rfl (lv_at hl 4 rfl) ?_
            refine lv_dup hx hb dX3_takeStep_161 rfl ?_
            have e98 := (up_nI U35 (ne_k g2 g0 (by decide))).trans ev25
            have e99 := (up_nI U90 (ne_k g2 gq88 (by decide))).trans e98
            have e100 := (up_nI U95 (ne_f E 2 2 1 rfl (by decide) (by decide) (by decide))).trans e99
            refine q_getI E hC95 g2 fa_RX3_89 dX3_takeStep_162 (fun v97 ev97 _ _ => ?_)
            have qv97 := e100.symm.trans ev97; subst qv97
            refine lv_iconst (v := 1) hx hb dX3_takeStep_165 rfl ?_
            refine lv_iadd hx hb dX3_takeStep_166 (lv_topi (fun v101 ev101 => ?_))
            have c102 := i_rng v25; rw [show v25.toInt = v25.toInt from rfl] at c102
            have ev101i : v101.toInt = (v25.toInt + 1) := i_add ev101 rfl (by decide) (by omega) (by omega)
            refine q_put E hC95 hS95 g2 fp_RX3_89 tv_F rfl rfl dX3_takeStep_167 (fun H103 locs103 hC103 hS103 U103 => ?_)
            have hKp103 := Kp.upO E g2 fp_RX3_89 rfl U103 hKp95
            have e104 := up_I U103
            refine lv_aload_n hx hb dX3_takeStep_170 rfl (lv_at hl 2 rfl) ?_
            refine q_getR E hC103 g0 fa_RX3_15 dX3_takeStep_171 (fun q105 eq105 gq105 => ?_)
            refine q_goV (q_runV (As := []) (rest := []) E hC103 hS103 (m_X4_advance l X Γ H103 hC103 q105 gq105) cw_X4_advance cl_RX3_82 gq105 ⟨rfl, rfl⟩ rfl hl.1 rfl (Nat.zero_le _) (by decide) dX3_takeStep_174) hS103 (fun H106 locs106 hr106 hC106 hS106 => ?_)
            have hKp106 := hKp103.tr (hr106.mono rfl)
            refine q_alq_n (o := q22) hx hb dX3_takeStep_177 rfl (lv_at hl 1 rfl) ?_
            refine q_word E hS106 (i := 22) (by decide) w_752 dX3_takeStep_178 (fun q107 gq107 => ?_)
            refine lv_acmp_ne (rx := q22) (ry := (some q107)) (tgt := 193) hx hb dX3_takeStep_181 rfl (fun c108 => ?_) (fun c108 => ?_)
            · refine lv_aload_n hx hb dX3_takeStep_193 rfl (lv_at hl 2 rfl) ?_
              refine lv_iload hx hb dX3_takeStep_194 (lv_at hl 0 rfl) ?_
              refine lv_aload_n hx hb dX3_takeStep_196 rfl (lv_at hl 3 rfl) ?_
              refine lv_aload_n hx hb dX3_takeStep_197 rfl (lv_at hl 4 rfl) ?_
              refine q_goI (q_runV (As := [.int v23, .ref h1, .ref h2]) (rest := []) E hC106 hS106 (m_X3_takeRest l X Γ H106 hC106 h0 g0 v23 (a1 := v23.toInt) rfl h1 g1 h2 g2) cw_X3_takeRest cl_RX3_111 g0 ⟨rfl, rfl⟩ rfl hl.1 rfl (Nat.zero_le _) (by decide) dX3_takeStep_198) hS106 (fun v109 H109 locs109 hr109 hC109 hS109 => ?_)
              obtain ⟨hp109, hr109⟩ := hr109
              have hKp109 := hKp106.tr (hp109.mono rfl)
              rcases hr109 with rfl | rfl
              · exact ret 0 H109 locs109 _ _ dX3_takeStep_201 (Or.inl rfl) ⟨hKp109, Or.inl rfl⟩ hC109 hS109
              · exact ret 1 H109 locs109 _ _ dX3_takeStep_201 (Or.inr rfl) ⟨hKp109, Or.inr rfl⟩ hC109 hS109
            · refine lv_aload_n hx hb dX3_takeStep_184 rfl (lv_at hl 2 rfl) ?_
              refine lv_aload_n hx hb dX3_takeStep_185 rfl (lv_at hl 3 rfl) ?_
              refine lv_aload_n hx hb dX3_takeStep_186 rfl (lv_at hl 4 rfl) ?_
              refine q_goI (q_runV (As := [.ref h1, .ref h2]) (rest := []) E hC106 hS106 (m_X3_takeTest l X Γ H106 hC106 h0 g0 h1 g1 h2 g2) cw_X3_takeTest cl_RX3_108 g0 ⟨rfl, rfl⟩ rfl hl.1 rfl (Nat.zero_le _) (by decide) dX3_takeStep_187) hS106 (fun v110 H110 locs110 hr110 hC110 hS110 => ?_)
              obtain ⟨hp110, hr110⟩ := hr110
              have hKp110 := hKp106.tr (hp110.mono rfl)
              rcases hr110 with rfl | rfl
              · refine lv_goto (tgt := 201) hx hb dX3_takeStep_190 rfl ?_
                exact ret 0 H110 locs110 _ _ dX3_takeStep_201 (Or.inl rfl) ⟨hKp110, Or.inl rfl⟩ hC110 hS110
              · refine lv_goto (tgt := 201) hx hb dX3_takeStep_190 rfl ?_
                exact ret 1 H110 locs110 _ _ dX3_takeStep_201 (Or.inr rfl) ⟨hKp110, Or.inr rfl⟩ hC110 hS110
          · refine lv_aload_n hx hb dX3_takeStep_86 rfl (lv_at hl 2 rfl) ?_
            refine q_getI E hC35 g0 fa_RX3_24 dX3_takeStep_87 (fun v111 ev111 _ _ => ?_)
            refine lv_i2l (v := v111.toInt64) hx hb dX3_takeStep_90 rfl (lv_topl (fun v112 ev112 => ?_))
            have ev112i : v112.toInt = v111.toInt := l_ofi ev112.symm rfl
            refine lv_iconst (v := 0) hx hb dX3_takeStep_91 rfl ?_
            refine lv_iconst (v := 2) hx hb dX3_takeStep_92 rfl ?_
            refine q_goIp (q_runSN (As := [.long v112, .int 0, .int 2]) (rest := []) E hS35 (m_X11_isWithin l X Γ H35 hC35 v112 (a0 := v111.toInt) ev112i 0 (a1 := 0) (by decide) 2 (a2 := 2) (by decide)) cw_X11_isWithin cl_RX3_69 rfl hl.1 rfl (Nat.zero_le _) (by decide) dX3_takeStep_93) hS35 (fun v113 locs113 hr113 hS113 => ?_)
            rcases hr113 with ⟨rfl, f113a0, f113a1⟩ | ⟨rfl, f113b⟩
            · refine q_if_ne hx hb (a := 1) (by decide) (tgt := 116) dX3_takeStep_96 rfl (fun c114 => ?_) (fun c114 => absurd c114 (by omega))
              refine lv_aload_n hx hb dX3_takeStep_116 rfl (lv_at hl 2 rfl) ?_
              refine q_getR E hC35 g0 fa_RX3_11 dX3_takeStep_117 (fun q115 eq115 gq115 => ?_)
              refine lv_aload_n hx hb dX3_takeStep_120 rfl (lv_at hl 2 rfl) ?_
              refine q_getI E hC35 g0 fa_RX3_24 dX3_takeStep_121 (fun v116 ev116 _ _ => ?_)
              have qv116 := ev111.symm.trans ev116; subst qv116
              refine lv_aload_n hx hb dX3_takeStep_124 rfl (lv_at hl 2 rfl) ?_
              refine q_getI E hC35 g0 fa_RX3_99 dX3_takeStep_125 (fun v117 ev117 lv117 uv117 => ?_)
              have qv117 := e36.symm.trans ev117; subst qv117
              refine q_iast E hC35 hS113 gq115 (by decide) rfl rfl (i_in (a := v111.toInt) rfl (by omega) (by omega)) tv_F dX3_takeStep_128 (fun H118 locs118 hC118 hS118 U118 => ?_)
              have hKp118 := Kp.upA gq115 rfl (by decide) rfl U118 hKp35
              refine lv_aload_n hx hb dX3_takeStep_129 rfl (lv_at hl 2 rfl) ?_
              refine lv_dup hx hb dX3_takeStep_130 rfl ?_
              have e120 := (up_nI U118 (ne_k g0 gq115 (by decide))).trans ev111
              refine q_getI E hC118 g0 fa_RX3_24 dX3_takeStep_131 (fun v119 ev119 _ _ => ?_)
              have qv119 := e120.symm.trans ev119; subst qv119
              refine lv_iconst (v := 1) hx hb dX3_takeStep_134 rfl ?_
              refine lv_iadd hx hb dX3_takeStep_135 (lv_topi (fun v121 ev121 => ?_))
              have ev121i : v121.toInt = (v111.toInt + 1) := i_add ev121 rfl (by decide) (by omega) (by omega)
              refine q_put E hC118 hS118 g0 fp_RX3_24 tv_F rfl rfl dX3_takeStep_136 (fun H122 locs122 hC122 hS122 U122 => ?_)
              have hKp122 := Kp.upO E g0 fp_RX3_24 rfl U122 hKp118
              have e123 := up_I U122
              refine lv_aload_n hx hb dX3_takeStep_139 rfl (lv_at hl 4 rfl) ?_
              refine q_getR E hC122 g2 fa_RX3_76 dX3_takeStep_140 (fun q124 eq124 gq124 => ?_)
              refine lv_aload_n hx hb dX3_takeStep_143 rfl (lv_at hl 2 rfl) ?_
              have e126 := (up_nI U118 (ne_k g0 gq115 (by decide))).trans e36
              have e127 := (up_nI U122 (ne_f E 3 3 2 rfl (by decide) (by decide) (by decide))).trans e126
              refine q_getI E hC122 g0 fa_RX3_99 dX3_takeStep_144 (fun v125 ev125 lv125 uv125 => ?_)
              have qv125 := e127.symm.trans ev125; subst qv125
              refine lv_iload hx hb dX3_takeStep_147 (lv_at hl 0 rfl) ?_
              refine q_iast E hC122 hS122 gq124 (by decide) rfl rfl (i_in (a := v31.toInt) rfl (by omega) (by omega)) tv_F dX3_takeStep_149 (fun H128 locs128 hC128 hS128 U128 => ?_)
              have hKp128 := Kp.upA gq124 rfl (by decide) rfl U128 hKp122
              refine lv_aload_n hx hb dX3_takeStep_150 rfl (lv_at hl 4 rfl) ?_
              refine lv_dup hx hb dX3_takeStep_151 rfl ?_
              have e130 := (up_nI U35 (ne_k g2 g0 (by decide))).trans ev31
              have e131 := (up_nI U118 (ne_k g2 gq115 (by decide))).trans e130
              have e132 := (up_nI U122 (ne_k g2 g0 (by decide))).trans e131
              have e133 := (up_nI U128 (ne_k g2 gq124 (by decide))).trans e132
              refine q_getI E hC128 g2 fa_RX3_66 dX3_takeStep_152 (fun v129 ev129 _ _ => ?_)
              have qv129 := e133.symm.trans ev129; subst qv129
              refine lv_iconst (v := 1) hx hb dX3_takeStep_155 rfl ?_
              refine lv_iadd hx hb dX3_takeStep_156 (lv_topi (fun v134 ev134 => ?_))
              have ev134i : v134.toInt = (v31.toInt + 1) := i_add ev134 rfl (by decide) (by omega) (by omega)
              refine q_put E hC128 hS128 g2 fp_RX3_66 tv_F rfl rfl dX3_takeStep_157 (fun H135 locs135 hC135 hS135 U135 => ?_)
              have hKp135 := Kp.upO E g2 fp_RX3_66 rfl U135 hKp128
              have e136 := up_I U135
              refine lv_aload_n hx hb dX3_takeStep_160 rfl (lv_at hl 4 rfl) ?_
              refine lv_dup hx hb dX3_takeStep_161 rfl ?_
              have e138 := (up_nI U35 (ne_k g2 g0 (by decide))).trans ev25
              have e139 := (up_nI U118 (ne_k g2 gq115 (by decide))).trans e138
              have e140 := (up_nI U122 (ne_k g2 g0 (by decide))).trans e139
              have e141 := (up_nI U128 (ne_k g2 gq124 (by decide))).trans e140
              have e142 := (up_nI U135 (ne_f E 2 2 1 rfl (by decide) (by decide) (by decide))).trans e141
              refine q_getI E hC135 g2 fa_RX3_89 dX3_takeStep_162 (fun v137 ev137 _ _ => ?_)
              have qv137 := e142.symm.trans ev137; subst qv137
              refine lv_iconst (v := 1) hx hb dX3_takeStep_165 rfl ?_
              refine lv_iadd hx hb dX3_takeStep_166 (lv_topi (fun v143 ev143 => ?_))
              have c144 := i_rng v25; rw [show v25.toInt = v25.toInt from rfl] at c144
              have ev143i : v143.toInt = (v25.toInt + 1) := i_add ev143 rfl (by decide) (by omega) (by omega)
              refine q_put E hC135 hS135 g2 fp_RX3_89 tv_F rfl rfl dX3_takeStep_167 (fun H145 locs145 hC145 hS145 U145 => ?_)
              have hKp145 := Kp.upO E g2 fp_RX3_89 rfl U145 hKp135
              have e146 := up_I U145
              refine lv_aload_n hx hb dX3_takeStep_170 rfl (lv_at hl 2 rfl) ?_
              refine q_getR E hC145 g0 fa_RX3_15 dX3_takeStep_171 (fun q147 eq147 gq147 => ?_)
              refine q_goV (q_runV (As := []) (rest := []) E hC145 hS145 (m_X4_advance l X Γ H145 hC145 q147 gq147) cw_X4_advance cl_RX3_82 gq147 ⟨rfl, rfl⟩ rfl hl.1 rfl (Nat.zero_le _) (by decide) dX3_takeStep_174) hS145 (fun H148 locs148 hr148 hC148 hS148 => ?_)
              have hKp148 := hKp145.tr (hr148.mono rfl)
              refine q_alq_n (o := q22) hx hb dX3_takeStep_177 rfl (lv_at hl 1 rfl) ?_
              refine q_word E hS148 (i := 22) (by decide) w_752 dX3_takeStep_178 (fun q149 gq149 => ?_)
              refine lv_acmp_ne (rx := q22) (ry := (some q149)) (tgt := 193) hx hb dX3_takeStep_181 rfl (fun c150 => ?_) (fun c150 => ?_)
              · refine lv_aload_n hx hb dX3_takeStep_193 rfl (lv_at hl 2 rfl) ?_
                refine lv_iload hx hb dX3_takeStep_194 (lv_at hl 0 rfl) ?_
                refine lv_aload_n hx hb dX3_takeStep_196 rfl (lv_at hl 3 rfl) ?_
                refine lv_aload_n hx hb dX3_takeStep_197 rfl (lv_at hl 4 rfl) ?_
                refine q_goI (q_runV (As := [.int v23, .ref h1, .ref h2]) (rest := []) E hC148 hS148 (m_X3_takeRest l X Γ H148 hC148 h0 g0 v23 (a1 := v23.toInt) rfl h1 g1 h2 g2) cw_X3_takeRest cl_RX3_111 g0 ⟨rfl, rfl⟩ rfl hl.1 rfl (Nat.zero_le _) (by decide) dX3_takeStep_198) hS148 (fun v151 H151 locs151 hr151 hC151 hS151 => ?_)
                obtain ⟨hp151, hr151⟩ := hr151
                have hKp151 := hKp148.tr (hp151.mono rfl)
                rcases hr151 with rfl | rfl
                · exact ret 0 H151 locs151 _ _ dX3_takeStep_201 (Or.inl rfl) ⟨hKp151, Or.inl rfl⟩ hC151 hS151
                · exact ret 1 H151 locs151 _ _ dX3_takeStep_201 (Or.inr rfl) ⟨hKp151, Or.inr rfl⟩ hC151 hS151
              · refine lv_aload_n hx hb dX3_takeStep_184 rfl (lv_at hl 2 rfl) ?_
                refine lv_aload_n hx hb dX3_takeStep_185 rfl (lv_at hl 3 rfl) ?_
                refine lv_aload_n hx hb dX3_takeStep_186 rfl (lv_at hl 4 rfl) ?_
                refine q_goI (q_runV (As := [.ref h1, .ref h2]) (rest := []) E hC148 hS148 (m_X3_takeTest l X Γ H148 hC148 h0 g0 h1 g1 h2 g2) cw_X3_takeTest cl_RX3_108 g0 ⟨rfl, rfl⟩ rfl hl.1 rfl (Nat.zero_le _) (by decide) dX3_takeStep_187) hS148 (fun v152 H152 locs152 hr152 hC152 hS152 => ?_)
                obtain ⟨hp152, hr152⟩ := hr152
                have hKp152 := hKp148.tr (hp152.mono rfl)
                rcases hr152 with rfl | rfl
                · refine lv_goto (tgt := 201) hx hb dX3_takeStep_190 rfl ?_
                  exact ret 0 H152 locs152 _ _ dX3_takeStep_201 (Or.inl rfl) ⟨hKp152, Or.inl rfl⟩ hC152 hS152
                · refine lv_goto (tgt := 201) hx hb dX3_takeStep_190 rfl ?_
                  exact ret 1 H152 locs152 _ _ dX3_takeStep_201 (Or.inr rfl) ⟨hKp152, Or.inr rfl⟩ hC152 hS152
            · refine q_if_ne hx hb (a := 0) (by decide) (tgt := 116) dX3_takeStep_96 rfl (fun c153 => absurd c153 (by omega)) (fun c153 => ?_)
              refine lv_aload_n hx hb dX3_takeStep_99 rfl (lv_at hl 2 rfl) ?_
              refine q_getR E hC35 g0 fa_RX3_15 dX3_takeStep_100 (fun q154 eq154 gq154 => ?_)
              refine lv_bipush (v := 7) hx hb dX3_takeStep_103 rfl ?_
              refine lv_aload_n hx hb dX3_takeStep_105 rfl (lv_at hl 2 rfl) ?_
              refine q_getR E hC35 g0 fa_RX3_15 dX3_takeStep_106 (fun q155 eq155 gq155 => ?_)
              refine q_getI E hC35 gq155 fa_RX3_92 dX3_takeStep_109 (fun v156 ev156 _ _ => ?_)
              refine q_goI (q_runV (As := [.int 7, .int v156]) (rest := []) E hC35 hS113 (m_X4_fail l X Γ H35 hC35 q154 gq154 7 (a1 := 7) (by decide) v156 (a2 := v156.toInt) rfl) cw_X4_fail cl_RX3_95 gq154 ⟨rfl, rfl⟩ rfl hl.1 rfl (Nat.zero_le _) (by decide) dX3_takeStep_112) hS113 (fun v157 H157 locs157 hr157 hC157 hS157 => ?_)
              obtain ⟨hp157, hr157⟩ := hr157
              have hKp157 := hKp35.tr (hp157.mono rfl)
              rcases hr157 with rfl | rfl
              · exact ret 0 H157 locs157 _ _ dX3_takeStep_115 (Or.inl rfl) ⟨hKp157, Or.inl rfl⟩ hC157 hS157
              · exact ret 1 H157 locs157 _ _ dX3_takeStep_115 (Or.inr rfl) ⟨hKp157, Or.inr rfl⟩ hC157 hS157
      · refine q_if_ne hx hb (a := 0) (by decide) (tgt := 64) dX3_takeStep_44 rfl (fun c158 => absurd c158 (by omega)) (fun c158 => ?_)
        refine lv_aload_n hx hb dX3_takeStep_47 rfl (lv_at hl 2 rfl) ?_
        refine q_getR E hC0 g0 fa_RX3_15 dX3_takeStep_48 (fun q159 eq159 gq159 => ?_)
        refine lv_bipush (v := 6) hx hb dX3_takeStep_51 rfl ?_
        refine lv_aload_n hx hb dX3_takeStep_53 rfl (lv_at hl 2 rfl) ?_
        refine q_getR E hC0 g0 fa_RX3_15 dX3_takeStep_54 (fun q160 eq160 gq160 => ?_)
        refine q_getI E hC0 gq160 fa_RX3_92 dX3_takeStep_57 (fun v161 ev161 _ _ => ?_)
        refine q_goI (q_runV (As := [.int 6, .int v161]) (rest := []) E hC0 hS32 (m_X4_fail l X Γ H0 hC0 q159 gq159 6 (a1 := 6) (by decide) v161 (a2 := v161.toInt) rfl) cw_X4_fail cl_RX3_95 gq159 ⟨rfl, rfl⟩ rfl hl.1 rfl (Nat.zero_le _) (by decide) dX3_takeStep_60) hS32 (fun v162 H162 locs162 hr162 hC162 hS162 => ?_)
        obtain ⟨hp162, hr162⟩ := hr162
        have hKp162 := hKp0.tr (hp162.mono rfl)
        rcases hr162 with rfl | rfl
        · exact ret 0 H162 locs162 _ _ dX3_takeStep_63 (Or.inl rfl) ⟨hKp162, Or.inl rfl⟩ hC162 hS162
        · exact ret 1 H162 locs162 _ _ dX3_takeStep_63 (Or.inr rfl) ⟨hKp162, Or.inr rfl⟩ hC162 hS162
  · refine lv_aload_n hx hb dX3_takeStep_20 rfl (lv_at hl 2 rfl) ?_
    refine q_getR E hC0 g0 fa_RX3_15 dX3_takeStep_21 (fun q163 eq163 gq163 => ?_)
    refine q_goI (q_runV (As := []) (rest := []) E hC0 hS23 (m_X4_misfit l X Γ H0 hC0 q163 gq163) cw_X4_misfit cl_RX3_58 gq163 ⟨rfl, rfl⟩ rfl hl.1 rfl (Nat.zero_le _) (by decide) dX3_takeStep_24) hS23 (fun v164 H164 locs164 hr164 hC164 hS164 => ?_)
    obtain ⟨hp164, hr164⟩ := hr164
    have hKp164 := hKp0.tr (hp164.mono rfl)
    rcases hr164 with rfl | rfl
    · exact ret 0 H164 locs164 _ _ dX3_takeStep_27 (Or.inl rfl) ⟨hKp164, Or.inl rfl⟩ hC164 hS164
    · exact ret 1 H164 locs164 _ _ dX3_takeStep_27 (Or.inr rfl) ⟨hKp164, Or.inr rfl⟩ hC164 hS164
set_option maxRecDepth 100000 in
set_option maxHeartbeats 4000000 in
theorem m_X3_parse (l : Launch) (X : xW) (Γ : Nat → Option Nat) (H0 : Heap) (hC0 : Conf X Γ H0) (h0 : Nat) (g0 : Γ h0 = some 4) (p1 : Int32) {a1 : Int} (e1 : p1.toInt = a1) (h2 : Nat) (g2 : Γ h2 = some 5) (h3 : Nat) (g3 : Γ h3 = some 6) : Ctr l X Γ yX3_parse cX3_parse 6 (some .boolean) 6 [.ref h0, .int p1, .ref h2, .ref h3] H0 (QI X Γ (fun v H1 => Kp X Γ [0, 2, 3, 4, 5, 18, 21, 23, 25, 27] H0 H1 ∧ (v = 0 ∨ v = 1))) := by
  refine q_enterZ (own := "SnowForts$OrdersText") (by decide) rfl (Nat.le_of_ble_eq_true rfl) ?_
  intro p e s m args below meth c ls Qz E hl ret hS0
  have hx := E.1; have hb := E.2.1
  have hKp0 : Kp X Γ [0, 2, 3, 4, 5, 18, 21, 23, 25, 27] H0 H0 := Kp.rf
  have hl : lv_has ls 6 [(0, .ref h0), (1, .int p1), (2, .ref h2), (3, .ref h3)] := hl
  refine lv_aload_n hx hb dX3_parse_0 rfl (lv_at hl 3 rfl) ?_
  refine q_goV (q_runV (As := []) (rest := []) E hC0 hS0 (m_X2_clear l X Γ H0 hC0 h3 g3) cw_X2_clear cl_RX3_19 g3 ⟨rfl, rfl⟩ rfl hl.1 rfl (Nat.zero_le _) (by decide) dX3_parse_1) hS0 (fun H21 locs21 hr21 hC21 hS21 => ?_)
  have hKp21 := hKp0.tr (hr21.mono rfl)
  refine lv_aload_n hx hb dX3_parse_4 rfl (lv_at hl 0 rfl) ?_
  refine lv_iconst (v := 0) hx hb dX3_parse_5 rfl ?_
  refine q_put E hC21 hS21 g0 fp_RX3_24 tv_F rfl rfl dX3_parse_6 (fun H22 locs22 hC22 hS22 U22 => ?_)
  have hKp22 := Kp.upO E g0 fp_RX3_24 rfl U22 hKp21
  have e23 := up_I U22
  refine lv_aload_n hx hb dX3_parse_9 rfl (lv_at hl 0 rfl) ?_
  refine q_getR E hC22 g0 fa_RX3_15 dX3_parse_10 (fun q24 eq24 gq24 => ?_)
  refine lv_iload_n hx hb dX3_parse_13 rfl (lv_at hl 1 rfl) ?_
  refine q_goV (q_runV (As := [.int p1]) (rest := []) E hC22 hS22 (m_X4_start l X Γ H22 hC22 q24 gq24 p1 (a1 := a1) e1) cw_X4_start cl_RX3_28 gq24 ⟨rfl, rfl⟩ rfl hl.1 rfl (Nat.zero_le _) (by decide) dX3_parse_14) hS22 (fun H25 locs25 hr25 hC25 hS25 => ?_)
  have hKp25 := hKp22.tr (hr25.mono rfl)
  refine lv_iconst (v := 0) hx hb dX3_parse_17 rfl ?_
  refine lv_istore hx hb dX3_parse_18 hl (by decide) rfl (fun ls hl => ?_)
  replace hl : lv_has ls 6 [(4, .int 0), (0, .ref h0), (1, .int p1), (2, .ref h2), (3, .ref h3)] := hl
  have L20 : ∀ (n27 : Nat) (H27 : Heap) (locs27 : List Loc) (v26 : Int32) (z26 : Int) (ls : Array Slot), (900 - z26).toNat < n27 → v26.toInt = z26 → z26 ≤ 900 → 0 ≤ z26 → Conf X Γ H27 → va_S (AΓ Γ) H0 H27 locs27 → Kp X Γ [0, 2, 3, 4, 5, 18, 21, 23, 25, 27] H0 H27 → lv_has ls 6 [(4, .int v26), (0, .ref h0), (1, .int p1), (2, .ref h2), (3, .ref h3)] → W p l e (rmL 6) s m args below meth c H27 locs27 0 0 Qz (F0 m 20 ls []) := by
    intro n27
    induction n27 with
    | zero => intro H27 locs27 v26 z26 ls hm27 ev26 iv27_0 iv27_1 hC27 hS27 hKp27 hl; exact absurd hm27 (Nat.not_lt_zero _)
    | succ n27 ih27 =>
      intro H27 locs27 v26 z26 ls hm27 ev26 iv27_0 iv27_1 hC27 hS27 hKp27 hl
      refine lv_iload hx hb dX3_parse_20 (lv_at hl 0 rfl) ?_
      refine lv_sipush (v := 900) hx hb dX3_parse_22 rfl ?_
      refine q_icmp_ge hx hb (a := z26) (b := 900) ev26 (by decide) (tgt := 92) dX3_parse_25 rfl (fun c28 => ?_) (fun c28 => ?_)
      · refine lv_aload_n hx hb dX3_parse_92 rfl (lv_at hl 1 rfl) ?_
        refine q_getI E hC27 g0 fa_RX3_24 dX3_parse_93 (fun v29 ev29 _ _ => ?_)
        refine q_if_le hx hb (a := v29.toInt) rfl (tgt := 107) dX3_parse_96 rfl (fun c30 => ?_) (fun c30 => ?_)
        · refine lv_aload_n hx hb dX3_parse_107 rfl (lv_at hl 4 rfl) ?_
          refine lv_iconst (v := 1) hx hb dX3_parse_108 rfl ?_
          refine q_put E hC27 hS27 g3 fp_RX3_62 (tv_I (show (1 : Int32).toInt = 1 from by decide) (by omega) (by omega)) (z_of (z01 (show (1 : Int32).toInt = 1 from by decide) (by omega) (by omega))) (fit_B (z01 (show (1 : Int32).toInt = 1 from by decide) (by omega) (by omega))) dX3_parse_109 (fun H31 locs31 hC31 hS31 U31 => ?_)
          have hKp31 := Kp.upO E g3 fp_RX3_62 rfl U31 hKp27
          have e32 := up_I U31
          refine lv_iconst (v := 1) hx hb dX3_parse_112 rfl ?_
          exact ret 1 H31 locs31 _ _ dX3_parse_113 (Or.inr rfl) ⟨hKp31, Or.inr rfl⟩ hC31 hS31
        · refine lv_aload_n hx hb dX3_parse_99 rfl (lv_at hl 1 rfl) ?_
          refine q_getR E hC27 g0 fa_RX3_15 dX3_parse_100 (fun q33 eq33 gq33 => ?_)
          refine q_goI (q_runV (As := []) (rest := []) E hC27 hS27 (m_X4_misfit l X Γ H27 hC27 q33 gq33) cw_X4_misfit cl_RX3_58 gq33 ⟨rfl, rfl⟩ rfl hl.1 rfl (Nat.zero_le _) (by decide) dX3_parse_103) hS27 (fun v34 H34 locs34 hr34 hC34 hS34 => ?_)
          obtain ⟨hp34, hr34⟩ := hr34
          have hKp34 := hKp27.tr (hp34.mono rfl)
          rcases hr34 with rfl | rfl
          · exact ret 0 H34 locs34 _ _ dX3_parse_106 (Or.inl rfl) ⟨hKp34, Or.inl rfl⟩ hC34 hS34
          · exact ret 1 H34 locs34 _ _ dX3_parse_106 (Or.inr rfl) ⟨hKp34, Or.inr rfl⟩ hC34 hS34
      · refine lv_aload_n hx hb dX3_parse_28 rfl (lv_at hl 1 rfl) ?_
        refine q_getR E hC27 g0 fa_RX3_15 dX3_parse_29 (fun q35 eq35 gq35 => ?_)
        refine q_getI E hC27 gq35 fa_RX3_34 dX3_parse_32 (fun v36 ev36 _ _ => ?_)
        refine q_if_eq hx hb (a := v36.toInt) rfl (tgt := 92) dX3_parse_35 rfl (fun c37 => ?_) (fun c37 => ?_)
        · refine lv_aload_n hx hb dX3_parse_92 rfl (lv_at hl 1 rfl) ?_
          refine q_getI E hC27 g0 fa_RX3_24 dX3_parse_93 (fun v38 ev38 _ _ => ?_)
          refine q_if_le hx hb (a := v38.toInt) rfl (tgt := 107) dX3_parse_96 rfl (fun c39 => ?_) (fun c39 => ?_)
          · refine lv_aload_n hx hb dX3_parse_107 rfl (lv_at hl 4 rfl) ?_
            refine lv_iconst (v := 1) hx hb dX3_parse_108 rfl ?_
            refine q_put E hC27 hS27 g3 fp_RX3_62 (tv_I (show (1 : Int32).toInt = 1 from by decide) (by omega) (by omega)) (z_of (z01 (show (1 : Int32).toInt = 1 from by decide) (by omega) (by omega))) (fit_B (z01 (show (1 : Int32).toInt = 1 from by decide) (by omega) (by omega))) dX3_parse_109 (fun H40 locs40 hC40 hS40 U40 => ?_)
            have hKp40 := Kp.upO E g3 fp_RX3_62 rfl U40 hKp27
            have e41 := up_I U40
            refine lv_iconst (v := 1) hx hb dX3_parse_112 rfl ?_
            exact ret 1 H40 locs40 _ _ dX3_parse_113 (Or.inr rfl) ⟨hKp40, Or.inr rfl⟩ hC40 hS40
          · refine lv_aload_n hx hb dX3_parse_99 rfl (lv_at hl 1 rfl) ?_
            refine q_getR E hC27 g0 fa_RX3_15 dX3_parse_100 (fun q42 eq42 gq42 => ?_)
            refine q_goI (q_runV (As := []) (rest := []) E hC27 hS27 (m_X4_misfit l X Γ H27 hC27 q42 gq42) cw_X4_misfit cl_RX3_58 gq42 ⟨rfl, rfl⟩ rfl hl.1 rfl (Nat.zero_le _) (by decide) dX3_parse_103) hS27 (fun v43 H43 locs43 hr43 hC43 hS43 => ?_)
            obtain ⟨hp43, hr43⟩ := hr43
            have hKp43 := hKp27.tr (hp43.mono rfl)
            rcases hr43 with rfl | rfl
            · exact ret 0 H43 locs43 _ _ dX3_parse_106 (Or.inl rfl) ⟨hKp43, Or.inl rfl⟩ hC43 hS43
            · exact ret 1 H43 locs43 _ _ dX3_parse_106 (Or.inr rfl) ⟨hKp43, Or.inr rfl⟩ hC43 hS43
        · refine lv_aload_n hx hb dX3_parse_38 rfl (lv_at hl 1 rfl) ?_
          refine q_getR E hC27 g0 fa_RX3_15 dX3_parse_39 (fun q44 eq44 gq44 => ?_)
          refine q_getQ E hC27 gq44 fa_RX3_37 dX3_parse_42 (fun q45 eq45 gq45 => ?_)
          refine q_word E hS27 (i := 27) (by decide) w_722 dX3_parse_45 (fun q46 gq46 => ?_)
          refine lv_acmp_ne (rx := q45) (ry := (some q46)) (tgt := 59) hx hb dX3_parse_48 rfl (fun c47 => ?_) (fun c47 => ?_)
          · refine lv_aload_n hx hb dX3_parse_59 rfl (lv_at hl 1 rfl) ?_
            refine lv_aload_n hx hb dX3_parse_60 rfl (lv_at hl 3 rfl) ?_
            refine lv_aload_n hx hb dX3_parse_61 rfl (lv_at hl 4 rfl) ?_
            refine q_goI (q_runV (As := [.ref h2, .ref h3]) (rest := []) E hC27 hS27 (m_X3_takeStep l X Γ H27 hC27 h0 g0 h2 g2 h3 g3) cw_X3_takeStep cl_RX3_50 g0 ⟨rfl, rfl⟩ rfl hl.1 rfl (Nat.zero_le _) (by decide) dX3_parse_62) hS27 (fun v48 H48 locs48 hr48 hC48 hS48 => ?_)
            obtain ⟨hp48, hr48⟩ := hr48
            have hKp48 := hKp27.tr (hp48.mono rfl)
            rcases hr48 with rfl | rfl
            · refine lv_istore hx hb dX3_parse_65 hl (by decide) rfl (fun ls hl => ?_)
              replace hl : lv_has ls 6 [(5, .int 0), (4, .int v26), (0, .ref h0), (1, .int p1), (2, .ref h2), (3, .ref h3)] := hl
              refine lv_iload hx hb dX3_parse_67 (lv_at hl 0 rfl) ?_
              refine q_if_eq hx hb (a := 0) (by decide) (tgt := 84) dX3_parse_69 rfl (fun c49 => ?_) (fun c49 => absurd c49 (by omega))
              refine lv_iconst (v := 0) hx hb dX3_parse_84 rfl ?_
              exact ret 0 H48 locs48 _ _ dX3_parse_85 (Or.inl rfl) ⟨hKp48, Or.inl rfl⟩ hC48 hS48
            · refine lv_istore hx hb dX3_parse_65 hl (by decide) rfl (fun ls hl => ?_)
              replace hl : lv_has ls 6 [(5, .int 1), (4, .int v26), (0, .ref h0), (1, .int p1), (2, .ref h2), (3, .ref h3)] := hl
              refine lv_iload hx hb dX3_parse_67 (lv_at hl 0 rfl) ?_
              refine q_if_eq hx hb (a := 1) (by decide) (tgt := 84) dX3_parse_69 rfl (fun c50 => absurd c50 (by omega)) (fun c50 => ?_)
              refine lv_aload_n hx hb dX3_parse_72 rfl (lv_at hl 2 rfl) ?_
              refine q_getR E hC48 g0 fa_RX3_15 dX3_parse_73 (fun q51 eq51 gq51 => ?_)
              refine lv_bipush (v := 59) hx hb dX3_parse_76 rfl ?_
              refine q_goI (q_runV (As := [.int 59]) (rest := []) E hC48 hS48 (m_X4_takeSign l X Γ H48 hC48 q51 gq51 59 (a1 := 59) (by decide)) cw_X4_takeSign cl_RX3_54 gq51 ⟨rfl, rfl⟩ rfl hl.1 rfl (Nat.zero_le _) (by decide) dX3_parse_78) hS48 (fun v52 H52 locs52 hr52 hC52 hS52 => ?_)
              obtain ⟨hp52, hr52⟩ := hr52
              have hKp52 := hKp48.tr (hp52.mono rfl)
              rcases hr52 with rfl | rfl
              · refine q_if_ne hx hb (a := 0) (by decide) (tgt := 86) dX3_parse_81 rfl (fun c53 => absurd c53 (by omega)) (fun c53 => ?_)
                refine lv_iconst (v := 0) hx hb dX3_parse_84 rfl ?_
                exact ret 0 H52 locs52 _ _ dX3_parse_85 (Or.inl rfl) ⟨hKp52, Or.inl rfl⟩ hC52 hS52
              · refine q_if_ne hx hb (a := 1) (by decide) (tgt := 86) dX3_parse_81 rfl (fun c54 => ?_) (fun c54 => absurd c54 (by omega))
                obtain ⟨v55, ev55⟩ : ∃ z, z = v26 + Int32.ofInt 1 := ⟨_, rfl⟩
                have ev55i : v55.toInt = (z26 + 1) := i_add ev55 ev26 (by decide) (by omega) (by omega)
                refine lv_iinc hx hb dX3_parse_86 hl (k := 1) rfl ev55.symm (by decide) rfl (fun ls hl => ?_)
                replace hl : lv_has ls 6 [(4, .int v55), (5, .int 1), (0, .ref h0), (1, .int p1), (2, .ref h2), (3, .ref h3)] := hl
                refine lv_goto (tgt := 20) hx hb dX3_parse_89 rfl ?_
                exact ih27 H52 locs52 v55 ((z26 + 1)) ls (by omega) ev55i (by omega) (by omega) hC52 hS52 hKp52 (lv_sub hl [0, 2, 3, 4, 5] rfl)
          · refine lv_aload_n hx hb dX3_parse_51 rfl (lv_at hl 1 rfl) ?_
            refine lv_aload_n hx hb dX3_parse_52 rfl (lv_at hl 4 rfl) ?_
            refine q_goI (q_runV (As := [.ref h3]) (rest := []) E hC27 hS27 (m_X3_takeEnd l X Γ H27 hC27 h0 g0 h3 g3) cw_X3_takeEnd cl_RX3_46 g0 ⟨rfl, rfl⟩ rfl hl.1 rfl (Nat.zero_le _) (by decide) dX3_parse_53) hS27 (fun v56 H56 locs56 hr56 hC56 hS56 => ?_)
            obtain ⟨hp56, hr56⟩ := hr56
            have hKp56 := hKp27.tr (hp56.mono rfl)
            rcases hr56 with rfl | rfl
            · refine lv_goto (tgt := 65) hx hb dX3_parse_56 rfl ?_
              refine lv_istore hx hb dX3_parse_65 hl (by decide) rfl (fun ls hl => ?_)
              replace hl : lv_has ls 6 [(5, .int 0), (4, .int v26), (0, .ref h0), (1, .int p1), (2, .ref h2), (3, .ref h3)] := hl
              refine lv_iload hx hb dX3_parse_67 (lv_at hl 0 rfl) ?_
              refine q_if_eq hx hb (a := 0) (by decide) (tgt := 84) dX3_parse_69 rfl (fun c57 => ?_) (fun c57 => absurd c57 (by omega))
              refine lv_iconst (v := 0) hx hb dX3_parse_84 rfl ?_
              exact ret 0 H56 locs56 _ _ dX3_parse_85 (Or.inl rfl) ⟨hKp56, Or.inl rfl⟩ hC56 hS56
            · refine lv_goto (tgt := 65) hx hb dX3_parse_56 rfl ?_
              refine lv_istore hx hb dX3_parse_65 hl (by decide) rfl (fun ls hl => ?_)
              replace hl : lv_has ls 6 [(5, .int 1), (4, .int v26), (0, .ref h0), (1, .int p1), (2, .ref h2), (3, .ref h3)] := hl
              refine lv_iload hx hb dX3_parse_67 (lv_at hl 0 rfl) ?_
              refine q_if_eq hx hb (a := 1) (by decide) (tgt := 84) dX3_parse_69 rfl (fun c58 => absurd c58 (by omega)) (fun c58 => ?_)
              refine lv_aload_n hx hb dX3_parse_72 rfl (lv_at hl 2 rfl) ?_
              refine q_getR E hC56 g0 fa_RX3_15 dX3_parse_73 (fun q59 eq59 gq59 => ?_)
              refine lv_bipush (v := 59) hx hb dX3_parse_76 rfl ?_
              refine q_goI (q_runV (As := [.int 59]) (rest := []) E hC56 hS56 (m_X4_takeSign l X Γ H56 hC56 q59 gq59 59 (a1 := 59) (by decide)) cw_X4_takeSign cl_RX3_54 gq59 ⟨rfl, rfl⟩ rfl hl.1 rfl (Nat.zero_le _) (by decide) dX3_parse_78) hS56 (fun v60 H60 locs60 hr60 hC60 hS60 => ?_)
              obtain ⟨hp60, hr60⟩ := hr60
              have hKp60 := hKp56.tr (hp60.mono rfl)
              rcases hr60 with rfl | rfl
              · refine q_if_ne hx hb (a := 0) (by decide) (tgt := 86) dX3_parse_81 rfl (fun c61 => absurd c61 (by omega)) (fun c61 => ?_)
                refine lv_iconst (v := 0) hx hb dX3_parse_84 rfl ?_
                exact ret 0 H60 locs60 _ _ dX3_parse_85 (Or.inl rfl) ⟨hKp60, Or.inl rfl⟩ hC60 hS60
              · refine q_if_ne hx hb (a := 1) (by decide) (tgt := 86) dX3_parse_81 rfl (fun c62 => ?_) (fun c62 => absurd c62 (by omega))
                obtain ⟨v63, ev63⟩ : ∃ z, z = v26 + Int32.ofInt 1 := ⟨_, rfl⟩
                have ev63i : v63.toInt = (z26 + 1) := i_add ev63 ev26 (by decide) (by omega) (by omega)
                refine lv_iinc hx hb dX3_parse_86 hl (k := 1) rfl ev63.symm (by decide) rfl (fun ls hl => ?_)
                replace hl : lv_has ls 6 [(4, .int v63), (5, .int 1), (0, .ref h0), (1, .int p1), (2, .ref h2), (3, .ref h3)] := hl
                refine lv_goto (tgt := 20) hx hb dX3_parse_89 rfl ?_
                exact ih27 H60 locs60 v63 ((z26 + 1)) ls (by omega) ev63i (by omega) (by omega) hC60 hS60 hKp60 (lv_sub hl [0, 2, 3, 4, 5] rfl)
  exact L20 _ H25 locs25 0 0 ls (Nat.lt_succ_self _) (by decide) (by omega) (by omega) hC25 hS25 hKp25 hl
set_option maxRecDepth 100000 in
set_option maxHeartbeats 4000000 in
theorem m_X11_orders (l : Launch) (X : xW) (Γ : Nat → Option Nat) (H0 : Heap) (hC0 : Conf X Γ H0) (h0 : Nat) (g0 : Γ h0 = some 0) (p1 : Int32) {a1 : Int} (e1 : p1.toInt = a1) (ra : Nat) (gra : Γ ra = some 2) (ur : ∀ a, Γ a = some 2 → a = ra) : Ctr l X Γ yX11_orders cX11_orders 4 (some .int) 7 [.ref h0, .int p1] H0 (QI X Γ (fun v H1 => Kp X Γ [0, 2, 4, 5, 18, 21, 23, 25, 27] H0 H1 ∧ ((((a1 < 0 ∨ (sI H0 ra (X.1.2 4 1)).toInt < a1 ∨ 300 < a1) ∧ (sI H1 ra (X.1.2 4 1)).toInt = (sI H0 ra (X.1.2 4 1)).toInt) ∨ (0 ≤ a1 ∧ a1 ≤ (sI H0 ra (X.1.2 4 1)).toInt ∧ a1 ≤ 300 ∧ (sI H1 ra (X.1.2 4 1)).toInt = 0))))) := by
  refine q_enterI (own := "SnowForts") (by decide) rfl (Nat.le_of_ble_eq_true rfl) ?_
  intro p e s m args below meth c ls Qz E hl ret hS0
  have hx := E.1; have hb := E.2.1
  have hKp0 : Kp X Γ [0, 2, 4, 5, 18, 21, 23, 25, 27] H0 H0 := Kp.rf
  have hl : lv_has ls 4 [(0, .ref h0), (1, .int p1)] := hl
  have rf : (sI H0 ra (X.1.2 4 1)).toInt = (sI H0 ra (X.1.2 4 1)).toInt := rfl
  refine lv_iload_n hx hb dX11_orders_0 rfl (lv_at hl 1 rfl) ?_
  refine lv_i2l (v := p1.toInt64) hx hb dX11_orders_1 rfl (lv_topl (fun v21 ev21 => ?_))
  have ev21i : v21.toInt = a1 := l_ofi ev21.symm e1
  refine lv_iconst (v := 0) hx hb dX11_orders_2 rfl ?_
  refine lv_aload_n hx hb dX11_orders_3 rfl (lv_at hl 0 rfl) ?_
  refine q_getU E hC0 g0 fa_RX11_19 ur dX11_orders_4 ?_
  refine q_getI E hC0 gra fa_RX11_171 dX11_orders_7 (fun v22 ev22 lv22 uv22 => ?_)
  have m23 : (sI H0 ra (X.1.2 4 1)).toInt = v22.toInt := congrArg Int32.toInt ev22
  refine q_goIp (q_runS (As := [.long v21, .int 0, .int v22]) (rest := []) E hS0 (m_X11_isWithin l X Γ H0 hC0 v21 (a0 := a1) ev21i 0 (a1 := 0) (by decide) v22 (a2 := v22.toInt) rfl) cw_X11_isWithin cl_RX11_113 rfl hl.1 rfl (Nat.zero_le _) (by decide) dX11_orders_10) hS0 (fun v24 locs24 hr24 hS24 => ?_)
  rcases hr24 with ⟨rfl, f24a0, f24a1⟩ | ⟨rfl, f24b⟩
  · refine q_if_eq hx hb (a := 1) (by decide) (tgt := 23) dX11_orders_13 rfl (fun c25 => absurd c25 (by omega)) (fun c25 => ?_)
    refine lv_iload_n hx hb dX11_orders_16 rfl (lv_at hl 1 rfl) ?_
    refine lv_sipush (v := 300) hx hb dX11_orders_17 rfl ?_
    refine q_icmp_le hx hb (a := a1) (b := 300) e1 (by decide) (tgt := 29) dX11_orders_20 rfl (fun c26 => ?_) (fun c26 => ?_)
    · refine lv_aload_n hx hb dX11_orders_29 rfl (lv_at hl 0 rfl) ?_
      refine q_getR E hC0 g0 fa_RX11_35 dX11_orders_30 (fun q27 eq27 gq27 => ?_)
      refine lv_iload_n hx hb dX11_orders_33 rfl (lv_at hl 1 rfl) ?_
      refine lv_aload_n hx hb dX11_orders_34 rfl (lv_at hl 0 rfl) ?_
      refine q_getR E hC0 g0 fa_RX11_42 dX11_orders_35 (fun q28 eq28 gq28 => ?_)
      refine lv_aload_n hx hb dX11_orders_38 rfl (lv_at hl 0 rfl) ?_
      refine q_getR E hC0 g0 fa_RX11_56 dX11_orders_39 (fun q29 eq29 gq29 => ?_)
      refine q_goI (q_runV (As := [.int p1, .ref q28, .ref q29]) (rest := []) E hC0 hS24 (m_X3_parse l X Γ H0 hC0 q27 gq27 p1 (a1 := a1) e1 q28 gq28 q29 gq29) cw_X3_parse cl_RX11_194 gq27 ⟨rfl, rfl⟩ rfl hl.1 rfl (Nat.zero_le _) (by decide) dX11_orders_42) hS24 (fun v30 H30 locs30 hr30 hC30 hS30 => ?_)
      obtain ⟨hp30, hr30⟩ := hr30
      have hKp30 := hKp0.tr (hp30.mono rfl)
      have rf : (sI H30 ra (X.1.2 4 1)).toInt = (sI H0 ra (X.1.2 4 1)).toInt := (congrArg Int32.toInt (kp_I hp30 gra (k := 1) rfl (by decide) rfl)).trans rf
      rcases hr30 with rfl | rfl
      · refine lv_istore_n hx hb dX11_orders_45 rfl hl (by decide) rfl (fun ls hl => ?_)
        replace hl : lv_has ls 4 [(2, .int 0), (0, .ref h0), (1, .int p1)] := hl
        refine lv_aload_n hx hb dX11_orders_46 rfl (lv_at hl 1 rfl) ?_
        refine q_getU E hC30 g0 fa_RX11_19 ur dX11_orders_47 ?_
        refine lv_iconst (v := 0) hx hb dX11_orders_50 rfl ?_
        refine q_put E hC30 hS30 gra fp_RX11_171 (tv_I (show (0 : Int32).toInt = 0 from by decide) (by omega) (by omega)) rfl rfl dX11_orders_51 (fun H31 locs31 hC31 hS31 U31 => ?_)
        have hKp31 := Kp.upO E gra fp_RX11_171 rfl U31 hKp30
        have e32 := up_I U31
        have rz : (sI H31 ra (X.1.2 4 1)).toInt = 0 := congrArg Int32.toInt (up_I U31)
        refine lv_iload_n hx hb dX11_orders_54 rfl (lv_at hl 0 rfl) ?_
        refine q_if_ne hx hb (a := 0) (by decide) (tgt := 65) dX11_orders_55 rfl (fun c33 => absurd c33 (by omega)) (fun c33 => ?_)
        refine lv_aload_n hx hb dX11_orders_58 rfl (lv_at hl 1 rfl) ?_
        refine lv_bipush (v := 10) hx hb dX11_orders_59 rfl ?_
        refine q_goI (q_runV (As := [.int 10]) (rest := []) E hC31 hS31 (m_X11_refuse l X Γ H31 hC31 h0 g0 10 (a1 := 10) (by decide)) cw_X11_refuse cl_RX11_146 g0 ⟨rfl, rfl⟩ rfl hl.1 rfl (Nat.zero_le _) (by decide) dX11_orders_61) hS31 (fun v34 H34 locs34 hr34 hC34 hS34 => ?_)
        obtain ⟨hp34, hr34⟩ := hr34
        have hKp34 := hKp31.tr (hp34.mono rfl)
        have rz : (sI H34 ra (X.1.2 4 1)).toInt = 0 := (congrArg Int32.toInt (kp_I hp34 gra (k := 1) rfl (by decide) rfl)).trans rz
        have f34_0 := hr34
        have c35 : v34.toInt = v34.toInt := rfl
        exact ret v34 H34 locs34 _ _ dX11_orders_64 ⟨hKp34, by omega⟩ hC34 hS34
      · refine lv_istore_n hx hb dX11_orders_45 rfl hl (by decide) rfl (fun ls hl => ?_)
        replace hl : lv_has ls 4 [(2, .int 1), (0, .ref h0), (1, .int p1)] := hl
        refine lv_aload_n hx hb dX11_orders_46 rfl (lv_at hl 1 rfl) ?_
        refine q_getU E hC30 g0 fa_RX11_19 ur dX11_orders_47 ?_
        refine lv_iconst (v := 0) hx hb dX11_orders_50 rfl ?_
        refine q_put E hC30 hS30 gra fp_RX11_171 (tv_I (show (0 : Int32).toInt = 0 from by decide) (by omega) (by omega)) rfl rfl dX11_orders_51 (fun H36 locs36 hC36 hS36 U36 => ?_)
        have hKp36 := Kp.upO E gra fp_RX11_171 rfl U36 hKp30
        have e37 := up_I U36
        have rz : (sI H36 ra (X.1.2 4 1)).toInt = 0 := congrArg Int32.toInt (up_I U36)
        refine lv_iload_n hx hb dX11_orders_54 rfl (lv_at hl 0 rfl) ?_
        refine q_if_ne hx hb (a := 1) (by decide) (tgt := 65) dX11_orders_55 rfl (fun c38 => ?_) (fun c38 => absurd c38 (by omega))
        refine lv_aload_n hx hb dX11_orders_65 rfl (lv_at hl 1 rfl) ?_
        refine q_getR E hC36 g0 fa_RX11_52 dX11_orders_66 (fun q39 eq39 gq39 => ?_)
        refine lv_astore_n hx hb dX11_orders_69 rfl hl (by decide) rfl (fun ls hl => ?_)
        replace hl : lv_has ls 4 [(3, .ref q39), (2, .int 1), (0, .ref h0), (1, .int p1)] := hl
        refine lv_aload_n hx hb dX11_orders_70 rfl (lv_at hl 2 rfl) ?_
        refine lv_aload_n hx hb dX11_orders_71 rfl (lv_at hl 2 rfl) ?_
        refine q_getR E hC36 g0 fa_RX11_56 dX11_orders_72 (fun q40 eq40 gq40 => ?_)
        refine q_put E hC36 hS36 g0 fp_RX11_52 (tv_R gq40) rfl rfl dX11_orders_75 (fun H41 locs41 hC41 hS41 U41 => ?_)
        have hKp41 := Kp.upO E g0 fp_RX11_52 rfl U41 hKp36
        have rz : (sI H41 ra (X.1.2 4 1)).toInt = 0 := (congrArg Int32.toInt (up_nI U41 (ne_k gra g0 (by decide)))).trans rz
        refine lv_aload_n hx hb dX11_orders_78 rfl (lv_at hl 2 rfl) ?_
        refine lv_aload_n hx hb dX11_orders_79 rfl (lv_at hl 0 rfl) ?_
        refine q_put E hC41 hS41 g0 fp_RX11_56 (tv_R gq39) rfl rfl dX11_orders_80 (fun H42 locs42 hC42 hS42 U42 => ?_)
        have hKp42 := Kp.upO E g0 fp_RX11_56 rfl U42 hKp41
        have rz : (sI H42 ra (X.1.2 4 1)).toInt = 0 := (congrArg Int32.toInt (up_nI U42 (ne_k gra g0 (by decide)))).trans rz
        refine lv_aload_n hx hb dX11_orders_83 rfl (lv_at hl 2 rfl) ?_
        refine lv_aload_n hx hb dX11_orders_84 rfl (lv_at hl 2 rfl) ?_
        refine q_getR E hC42 g0 fa_RX11_52 dX11_orders_85 (fun q43 eq43 gq43 => ?_)
        refine q_getI E hC42 gq43 fa_RX11_197 dX11_orders_88 (fun v44 ev44 _ _ => ?_)
        refine q_goI (q_runV (As := [.int v44]) (rest := []) E hC42 hS42 (m_X11_answer l X Γ H42 hC42 h0 g0 v44 (a1 := v44.toInt) rfl) cw_X11_answer cl_RX11_191 g0 ⟨rfl, rfl⟩ rfl hl.1 rfl (Nat.zero_le _) (by decide) dX11_orders_91) hS42 (fun v45 H45 locs45 hr45 hC45 hS45 => ?_)
        obtain ⟨hp45, hr45⟩ := hr45
        have hKp45 := hKp42.tr (hp45.mono rfl)
        have rz : (sI H45 ra (X.1.2 4 1)).toInt = 0 := (congrArg Int32.toInt (kp_I hp45 gra (k := 1) rfl (by decide) rfl)).trans rz
        have f45_0 := hr45
        have c46 : v45.toInt = v45.toInt := rfl
        exact ret v45 H45 locs45 _ _ dX11_orders_94 ⟨hKp45, by omega⟩ hC45 hS45
    · refine lv_aload_n hx hb dX11_orders_23 rfl (lv_at hl 0 rfl) ?_
      refine lv_iconst (v := 5) hx hb dX11_orders_24 rfl ?_
      refine q_goI (q_runV (As := [.int 5]) (rest := []) E hC0 hS24 (m_X11_refuse l X Γ H0 hC0 h0 g0 5 (a1 := 5) (by decide)) cw_X11_refuse cl_RX11_146 g0 ⟨rfl, rfl⟩ rfl hl.1 rfl (Nat.zero_le _) (by decide) dX11_orders_25) hS24 (fun v47 H47 locs47 hr47 hC47 hS47 => ?_)
      obtain ⟨hp47, hr47⟩ := hr47
      have hKp47 := hKp0.tr (hp47.mono rfl)
      have rf : (sI H47 ra (X.1.2 4 1)).toInt = (sI H0 ra (X.1.2 4 1)).toInt := (congrArg Int32.toInt (kp_I hp47 gra (k := 1) rfl (by decide) rfl)).trans rf
      have f47_0 := hr47
      have c48 : v47.toInt = v47.toInt := rfl
      exact ret v47 H47 locs47 _ _ dX11_orders_28 ⟨hKp47, by omega⟩ hC47 hS47
  · refine q_if_eq hx hb (a := 0) (by decide) (tgt := 23) dX11_orders_13 rfl (fun c49 => ?_) (fun c49 => absurd c49 (by omega))
    refine lv_aload_n hx hb dX11_orders_23 rfl (lv_at hl 0 rfl) ?_
    refine lv_iconst (v := 5) hx hb dX11_orders_24 rfl ?_
    refine q_goI (q_runV (As := [.int 5]) (rest := []) E hC0 hS24 (m_X11_refuse l X Γ H0 hC0 h0 g0 5 (a1 := 5) (by decide)) cw_X11_refuse cl_RX11_146 g0 ⟨rfl, rfl⟩ rfl hl.1 rfl (Nat.zero_le _) (by decide) dX11_orders_25) hS24 (fun v50 H50 locs50 hr50 hC50 hS50 => ?_)
    obtain ⟨hp50, hr50⟩ := hr50
    have hKp50 := hKp0.tr (hp50.mono rfl)
    have rf : (sI H50 ra (X.1.2 4 1)).toInt = (sI H0 ra (X.1.2 4 1)).toInt := (congrArg Int32.toInt (kp_I hp50 gra (k := 1) rfl (by decide) rfl)).trans rf
    have f50_0 := hr50
    have c51 : v50.toInt = v50.toInt := rfl
    exact ret v50 H50 locs50 _ _ dX11_orders_28 ⟨hKp50, by omega⟩ hC50 hS50
set_option maxRecDepth 100000 in
set_option maxHeartbeats 4000000 in
theorem m_X11_fault (l : Launch) (X : xW) (Γ : Nat → Option Nat) (H0 : Heap) (hC0 : Conf X Γ H0) (h0 : Nat) (g0 : Γ h0 = some 0) (p1 : Int32) {a1 : Int} (e1 : p1.toInt = a1) : Ctr l X Γ yX11_fault cX11_fault 2 (some .int) 0 [.ref h0, .int p1] H0 (QI X Γ (fun v H1 => H1 = H0 ∧ (True))) := by
  refine q_enterI (own := "SnowForts") (by decide) rfl (Nat.le_of_ble_eq_true rfl) ?_
  intro p e s m args below meth c ls Qz E hl ret hS0
  have hx := E.1; have hb := E.2.1
  have hl : lv_has ls 2 [(0, .ref h0), (1, .int p1)] := hl
  refine lv_iload_n hx hb dX11_fault_0 rfl (lv_at hl 1 rfl) ?_
  refine q_if_ne hx hb (a := a1) e1 (tgt := 12) dX11_fault_1 rfl (fun c21 => ?_) (fun c21 => ?_)
  · refine lv_iload_n hx hb dX11_fault_12 rfl (lv_at hl 1 rfl) ?_
    refine lv_iconst (v := 1) hx hb dX11_fault_13 rfl ?_
    refine q_icmp_ne hx hb (a := a1) (b := 1) e1 (by decide) (tgt := 27) dX11_fault_14 rfl (fun c22 => ?_) (fun c22 => ?_)
    · refine lv_iconst (v := (-1)) hx hb dX11_fault_27 rfl ?_
      exact ret (-1) H0 [] _ _ dX11_fault_28 ⟨rfl, trivial⟩ hC0 hS0
    · refine lv_aload_n hx hb dX11_fault_17 rfl (lv_at hl 0 rfl) ?_
      refine q_getR E hC0 g0 fa_RX11_19 dX11_fault_18 (fun q23 eq23 gq23 => ?_)
      refine q_getI E hC0 gq23 fa_RX11_203 dX11_fault_21 (fun v24 ev24 _ _ => ?_)
      refine lv_goto (tgt := 28) hx hb dX11_fault_24 rfl ?_
      exact ret v24 H0 [] _ _ dX11_fault_28 ⟨rfl, trivial⟩ hC0 hS0
  · refine lv_aload_n hx hb dX11_fault_4 rfl (lv_at hl 0 rfl) ?_
    refine q_getR E hC0 g0 fa_RX11_19 dX11_fault_5 (fun q25 eq25 gq25 => ?_)
    refine q_getI E hC0 gq25 fa_RX11_200 dX11_fault_8 (fun v26 ev26 _ _ => ?_)
    exact ret v26 H0 [] _ _ dX11_fault_11 ⟨rfl, trivial⟩ hC0 hS0
