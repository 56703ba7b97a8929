set_option maxRecDepth 100000 in
set_option maxHeartbeats 4000000 in
theorem m_X10_takeArticle (l : Launch) (X : xW) (Γ : Nat → Option Nat) (H0 : Heap) (hC0 : Conf X Γ H0) (h0 : Nat) (g0 : Γ h0 = some 3) (h1 : Nat) (g1 : Γ h1 = some 5) (ra : Nat) (gra : Γ ra = some 2) (ur : ∀ a, Γ a = some 2 → a = ra) (kd vl : Nat → Int) (N i : Nat) (S : YSt) (cu : CU X Γ H0 ra kd vl N i) (ys : YSC X Γ H0 h0 h1 vl S) : Ctr l X Γ yX10_takeArticle cX10_takeArticle 2 (some .boolean) 4 [.ref h0, .ref h1] H0 (QI X Γ (fun v H1 => Kp X Γ [3, 29, 31, 37, 39, 50, 51, 52, 53, 54, 55, 56, 57, 58, 59, 60, 61, 62, 63, 65, 67, 68, 69, 70, 71, 72] H0 H1 ∧ ((v = 1 ∧ (∃ (S1 : YSt) (i1 : Nat), gArt kd vl S i S1 i1 ∧ CU X Γ H1 ra kd vl N i1 ∧ YSC X Γ H1 h0 h1 vl S1)) ∨ (v = 0 ∧ (∀ (S1 : YSt) (i1 : Nat), ¬ gArt kd vl S i S1 i1))))) := by
  refine q_enterZ (own := "SnowForts$YardText") (by decide) rfl (Nat.le_of_ble_eq_true rfl) ?_
  intro p e s m args below meth c ls Qz E hl ret hS0
  have hx := E.1; have hb := E.2.1
  have hKp0 : Kp X Γ [3, 29, 31, 37, 39, 50, 51, 52, 53, 54, 55, 56, 57, 58, 59, 60, 61, 62, 63, 65, 67, 68, 69, 70, 71, 72] H0 H0 := Kp.rf
  have hl : lv_has ls 2 [(0, .ref h0), (1, .ref h1)] := hl
  have gry := cu.g; have gyt := g0; have gyy := g1
  refine lv_aload_n hx hb dX10_takeArticle_0 rfl (lv_at hl 0 rfl) ?_
  refine q_getU E hC0 g0 fa_RX10_21 ur dX10_takeArticle_1 ?_
  refine q_getQ E hC0 gra fa_RX10_101 dX10_takeArticle_4 (fun q21 eq21 gq21 => ?_)
  refine q_word E hS0 (i := 6) (by decide) w_910 dX10_takeArticle_7 (fun g22 => ?_)
  refine lv_acmp_ne (rx := q21) (ry := (some (wad X 6))) (tgt := 42) hx hb dX10_takeArticle_10 rfl (fun c23 => ?_) (fun c23 => ?_)
  · have kn6 := cu.nsw eq21 c23 (by decide)
    refine lv_aload_n hx hb dX10_takeArticle_42 rfl (lv_at hl 0 rfl) ?_
    refine q_getU E hC0 g0 fa_RX10_21 ur dX10_takeArticle_43 ?_
    refine q_getQ E hC0 gra fa_RX10_101 dX10_takeArticle_46 (fun q24 eq24 gq24 => ?_)
    refine q_word E hS0 (i := 12) (by decide) w_934 dX10_takeArticle_49 (fun g25 => ?_)
    refine lv_acmp_ne (rx := q24) (ry := (some (wad X 12))) (tgt := 84) hx hb dX10_takeArticle_52 rfl (fun c26 => ?_) (fun c26 => ?_)
    · have kn12 := cu.nsw eq24 c26 (by decide)
      refine lv_aload_n hx hb dX10_takeArticle_84 rfl (lv_at hl 0 rfl) ?_
      refine q_getU E hC0 g0 fa_RX10_21 ur dX10_takeArticle_85 ?_
      refine q_getQ E hC0 gra fa_RX10_101 dX10_takeArticle_88 (fun q27 eq27 gq27 => ?_)
      refine q_word E hS0 (i := 15) (by decide) w_938 dX10_takeArticle_91 (fun g28 => ?_)
      refine lv_acmp_ne (rx := q27) (ry := (some (wad X 15))) (tgt := 126) hx hb dX10_takeArticle_94 rfl (fun c29 => ?_) (fun c29 => ?_)
      · have kn15 := cu.nsw eq27 c29 (by decide)
        refine lv_aload_n hx hb dX10_takeArticle_126 rfl (lv_at hl 0 rfl) ?_
        refine q_getU E hC0 g0 fa_RX10_21 ur dX10_takeArticle_127 ?_
        refine q_getQ E hC0 gra fa_RX10_101 dX10_takeArticle_130 (fun q30 eq30 gq30 => ?_)
        refine q_word E hS0 (i := 14) (by decide) w_940 dX10_takeArticle_133 (fun g31 => ?_)
        refine lv_acmp_eq (rx := q30) (ry := (some (wad X 14))) (tgt := 147) hx hb dX10_takeArticle_136 rfl (fun c32 => ?_) (fun c32 => ?_)
        · have kw14 := cu.isw E eq30 c32 (by decide)
          refine lv_aload_n hx hb dX10_takeArticle_147 rfl (lv_at hl 0 rfl) ?_
          refine lv_aload_n hx hb dX10_takeArticle_148 rfl (lv_at hl 1 rfl) ?_
          refine lv_iconst (v := 2) hx hb dX10_takeArticle_149 rfl ?_
          refine q_goI (q_runV (As := [.ref h1, .int 2]) (rest := []) E hC0 hS0 (m_X10_isNew l X Γ H0 hC0 h0 g0 h1 g1 2 (a2 := 2) (by decide) ra gra ur kd vl N (_) S cu ys (by omega) (by omega)) cw_X10_isNew cl_RX10_177 g0 ⟨rfl, rfl⟩ rfl hl.1 rfl (Nat.zero_le _) (by decide) dX10_takeArticle_150) hS0 (fun v33 H33 locs33 hr33 hC33 hS33 => ?_)
          obtain ⟨hp33, hr33⟩ := hr33
          have hKp33 := hKp0.tr (hp33.mono rfl)
          replace cu := cu.kp hp33 rfl rfl
          replace ys := ys.kp hp33 gyt gyy rfl
          rcases hr33 with ⟨rfl, ha⟩ | ⟨rfl, ha⟩
          · refine q_if_ne hx hb (a := 1) (by decide) (tgt := 158) dX10_takeArticle_153 rfl (fun c34 => ?_) (fun c34 => absurd c34 (by omega))
            refine lv_aload_n hx hb dX10_takeArticle_158 rfl (lv_at hl 1 rfl) ?_
            refine q_getR E hC33 g1 fa_RX10_200 dX10_takeArticle_159 (fun q35 eq35 gq35 => ?_)
            have hqa := eq35; have gqa := gq35
            refine lv_iconst (v := 2) hx hb dX10_takeArticle_162 rfl ?_
            refine lv_iconst (v := 0) hx hb dX10_takeArticle_163 rfl ?_
            refine q_iast E hC33 hS33 gq35 (by decide) rfl rfl (i_in (a := 2) (show (2 : Int32).toInt = 2 from by decide) (by omega) (by omega)) (tv_I (show (0 : Int32).toInt = 0 from by decide) (by omega) (by omega)) dX10_takeArticle_164 (fun H36 locs36 hC36 hS36 U36 => ?_)
            have hKp36 := Kp.upA gq35 rfl (by decide) rfl U36 hKp33
            have m37 : aI H36 q35 (2) = 0 := aI_up U36 (show (2 : Int32).toInt = 2 from by decide) (show (0 : Int32).toInt = 0 from by decide)
            replace cu := cu.ne U36 gq35 (by decide)
            have ys := ys.art U36 gyt gyy hqa gqa (w := 2) (z := 0) (by decide) (by decide)
            refine lv_aload_n hx hb dX10_takeArticle_165 rfl (lv_at hl 0 rfl) ?_
            refine q_getU E hC36 g0 fa_RX10_21 ur dX10_takeArticle_166 ?_
            refine q_goV (q_runV (As := []) (rest := []) E hC36 hS36 (m_X4_advance l X Γ H36 hC36 ra gra) cw_X4_advance cl_RX10_154 gra ⟨rfl, rfl⟩ rfl hl.1 rfl (Nat.zero_le _) (by decide) dX10_takeArticle_169) hS36 (fun H38 locs38 hr38 hC38 hS38 => ?_)
            obtain ⟨hp38, hr38⟩ := hr38
            have hKp38 := hKp36.tr (hp38.mono rfl)
            replace ys := ys.kp hp38 gyt gyy rfl
            have f38_0 := hr38
            have cu := cu.next (by have := kw14.1; omega) hp38 rfl f38_0
            refine lv_iconst (v := 1) hx hb dX10_takeArticle_172 rfl ?_
            have hyes : ∃ (S1 : YSt) (i1 : Nat), gArt kd vl S i S1 i1 ∧ CU X Γ H38 ra kd vl N i1 ∧ YSC X Γ H38 h0 h1 vl S1 := ⟨_, _, Or.inr (Or.inr (Or.inr ⟨kw14, ha, rfl, rfl⟩)), cu, ys⟩
            exact ret 1 H38 locs38 _ _ dX10_takeArticle_173 (Or.inr rfl) ⟨hKp38, Or.inl ⟨rfl, hyes⟩⟩ hC38 hS38
          · have hno : ∀ (S1 : YSt) (i1 : Nat), ¬ gArt kd vl S i S1 i1 := fun S1 i1 q => by rcases q with ⟨q1, q2, q3⟩ | ⟨q1, q2, q3⟩ | ⟨q1, q2, q3⟩ | ⟨q1, q2, -, -⟩ <;> first | exact absurd q1 (by assumption) | exact absurd q2 ha | exact hg _ _ q3 | exact absurd (okW_j q1 kw6 (by decide) (by decide)) (by decide) | exact absurd (okW_j q1 kw12 (by decide) (by decide)) (by decide) | exact absurd (okW_j q1 kw15 (by decide) (by decide)) (by decide) | exact absurd (okW_j q1 kw14 (by decide) (by decide)) (by decide)
            refine q_if_ne hx hb (a := 0) (by decide) (tgt := 158) dX10_takeArticle_153 rfl (fun c39 => absurd c39 (by omega)) (fun c39 => ?_)
            refine lv_iconst (v := 0) hx hb dX10_takeArticle_156 rfl ?_
            exact ret 0 H33 locs33 _ _ dX10_takeArticle_157 (Or.inl rfl) ⟨hKp33, Or.inr ⟨rfl, hno⟩⟩ hC33 hS33
        · have kn14 := cu.nsw eq30 c32 (by decide)
          refine lv_aload_n hx hb dX10_takeArticle_139 rfl (lv_at hl 0 rfl) ?_
          refine q_getU E hC0 g0 fa_RX10_21 ur dX10_takeArticle_140 ?_
          have hno : ∀ (S1 : YSt) (i1 : Nat), ¬ gArt kd vl S i S1 i1 := fun S1 i1 q => by rcases q with ⟨q1, q2, q3⟩ | ⟨q1, q2, q3⟩ | ⟨q1, q2, q3⟩ | ⟨q1, q2, -, -⟩ <;> first | exact absurd q1 (by assumption) | exact absurd q2 ha | exact hg _ _ q3 | exact absurd (okW_j q1 kw6 (by decide) (by decide)) (by decide) | exact absurd (okW_j q1 kw12 (by decide) (by decide)) (by decide) | exact absurd (okW_j q1 kw15 (by decide) (by decide)) (by decide) | exact absurd (okW_j q1 kw14 (by decide) (by decide)) (by decide)
          refine q_goI (q_runV (As := []) (rest := []) E hC0 hS0 (m_X4_misfit l X Γ H0 hC0 ra gra) cw_X4_misfit cl_RX10_161 gra ⟨rfl, rfl⟩ rfl hl.1 rfl (Nat.zero_le _) (by decide) dX10_takeArticle_143) hS0 (fun v40 H40 locs40 hr40 hC40 hS40 => ?_)
          obtain ⟨hp40, hr40⟩ := hr40
          have hKp40 := hKp0.tr (hp40.mono rfl)
          replace cu := cu.kp hp40 rfl rfl
          replace ys := ys.kp hp40 gyt gyy rfl
          rcases hr40 with ⟨rfl, f40a⟩ | ⟨rfl, -⟩
          · exact absurd f40a (by decide)
          · exact ret 0 H40 locs40 _ _ dX10_takeArticle_146 (Or.inl rfl) ⟨hKp40, Or.inr ⟨rfl, hno⟩⟩ hC40 hS40
      · have kw15 := cu.isw E eq27 c29 (by decide)
        refine lv_aload_n hx hb dX10_takeArticle_97 rfl (lv_at hl 0 rfl) ?_
        refine lv_aload_n hx hb dX10_takeArticle_98 rfl (lv_at hl 1 rfl) ?_
        refine lv_iconst (v := 3) hx hb dX10_takeArticle_99 rfl ?_
        refine q_goI (q_runV (As := [.ref h1, .int 3]) (rest := []) E hC0 hS0 (m_X10_isNew l X Γ H0 hC0 h0 g0 h1 g1 3 (a2 := 3) (by decide) ra gra ur kd vl N (_) S cu ys (by omega) (by omega)) cw_X10_isNew cl_RX10_177 g0 ⟨rfl, rfl⟩ rfl hl.1 rfl (Nat.zero_le _) (by decide) dX10_takeArticle_100) hS0 (fun v41 H41 locs41 hr41 hC41 hS41 => ?_)
        obtain ⟨hp41, hr41⟩ := hr41
        have hKp41 := hKp0.tr (hp41.mono rfl)
        replace cu := cu.kp hp41 rfl rfl
        replace ys := ys.kp hp41 gyt gyy rfl
        rcases hr41 with ⟨rfl, ha⟩ | ⟨rfl, ha⟩
        · refine q_if_eq hx hb (a := 1) (by decide) (tgt := 124) dX10_takeArticle_103 rfl (fun c42 => absurd c42 (by omega)) (fun c42 => ?_)
          refine lv_aload_n hx hb dX10_takeArticle_106 rfl (lv_at hl 0 rfl) ?_
          refine lv_aload_n hx hb dX10_takeArticle_107 rfl (lv_at hl 1 rfl) ?_
          refine lv_iconst (v := 3) hx hb dX10_takeArticle_108 rfl ?_
          refine q_word E hS41 (i := 11) (by decide) w_928 dX10_takeArticle_109 (fun g43 => ?_)
          refine lv_bipush (v := 18) hx hb dX10_takeArticle_112 rfl ?_
          refine q_goI (q_runV (As := [.ref h1, .int 3, va_rf (some (wad X 11)), .int 18]) (rest := []) E hC41 hS41 (m_X10_takeLimit l X Γ H41 hC41 h0 g0 h1 g1 3 (a2 := 3) (by decide) (some (wad X 11)) (fun _ h => by cases h; exact g43) 18 (a4 := 18) (by decide) ra gra ur kd vl N (_) S cu ys 11 (by decide) rfl (by first | exact kw6.1 | exact kw12.1 | exact kw15.1) (by omega) (by omega) (by omega)) cw_X10_takeLimit cl_RX10_184 g0 ⟨rfl, rfl⟩ rfl hl.1 rfl (Nat.zero_le _) (by decide) dX10_takeArticle_114) hS41 (fun v44 H44 locs44 hr44 hC44 hS44 => ?_)
          obtain ⟨hp44, hr44⟩ := hr44
          have hKp44 := hKp41.tr (hp44.mono rfl)
          rcases hr44 with ⟨rfl, S1, i1, hg, cu, ys⟩ | ⟨rfl, hg⟩
          · have hyes : ∃ (S1 : YSt) (i1 : Nat), gArt kd vl S i S1 i1 ∧ CU X Γ H44 ra kd vl N i1 ∧ YSC X Γ H44 h0 h1 vl S1 := ⟨S1, i1, by first | exact Or.inl ⟨kw6, ha, hg⟩ | exact Or.inr (Or.inl ⟨kw12, ha, hg⟩) | exact Or.inr (Or.inr (Or.inl ⟨kw15, ha, hg⟩)), cu, ys⟩
            refine q_if_eq hx hb (a := 1) (by decide) (tgt := 124) dX10_takeArticle_117 rfl (fun c45 => absurd c45 (by omega)) (fun c45 => ?_)
            refine lv_iconst (v := 1) hx hb dX10_takeArticle_120 rfl ?_
            refine lv_goto (tgt := 125) hx hb dX10_takeArticle_121 rfl ?_
            exact ret 1 H44 locs44 _ _ dX10_takeArticle_125 (Or.inr rfl) ⟨hKp44, Or.inl ⟨rfl, hyes⟩⟩ hC44 hS44
          · have hno : ∀ (S1 : YSt) (i1 : Nat), ¬ gArt kd vl S i S1 i1 := fun S1 i1 q => by rcases q with ⟨q1, q2, q3⟩ | ⟨q1, q2, q3⟩ | ⟨q1, q2, q3⟩ | ⟨q1, q2, -, -⟩ <;> first | exact absurd q1 (by assumption) | exact absurd q2 ha | exact hg _ _ q3 | exact absurd (okW_j q1 kw6 (by decide) (by decide)) (by decide) | exact absurd (okW_j q1 kw12 (by decide) (by decide)) (by decide) | exact absurd (okW_j q1 kw15 (by decide) (by decide)) (by decide) | exact absurd (okW_j q1 kw14 (by decide) (by decide)) (by decide)
            refine q_if_eq hx hb (a := 0) (by decide) (tgt := 124) dX10_takeArticle_117 rfl (fun c46 => ?_) (fun c46 => absurd c46 (by omega))
            refine lv_iconst (v := 0) hx hb dX10_takeArticle_124 rfl ?_
            exact ret 0 H44 locs44 _ _ dX10_takeArticle_125 (Or.inl rfl) ⟨hKp44, Or.inr ⟨rfl, hno⟩⟩ hC44 hS44
        · have hno : ∀ (S1 : YSt) (i1 : Nat), ¬ gArt kd vl S i S1 i1 := fun S1 i1 q => by rcases q with ⟨q1, q2, q3⟩ | ⟨q1, q2, q3⟩ | ⟨q1, q2, q3⟩ | ⟨q1, q2, -, -⟩ <;> first | exact absurd q1 (by assumption) | exact absurd q2 ha | exact hg _ _ q3 | exact absurd (okW_j q1 kw6 (by decide) (by decide)) (by decide) | exact absurd (okW_j q1 kw12 (by decide) (by decide)) (by decide) | exact absurd (okW_j q1 kw15 (by decide) (by decide)) (by decide) | exact absurd (okW_j q1 kw14 (by decide) (by decide)) (by decide)
          refine q_if_eq hx hb (a := 0) (by decide) (tgt := 124) dX10_takeArticle_103 rfl (fun c47 => ?_) (fun c47 => absurd c47 (by omega))
          refine lv_iconst (v := 0) hx hb dX10_takeArticle_124 rfl ?_
          exact ret 0 H41 locs41 _ _ dX10_takeArticle_125 (Or.inl rfl) ⟨hKp41, Or.inr ⟨rfl, hno⟩⟩ hC41 hS41
    · have kw12 := cu.isw E eq24 c26 (by decide)
      refine lv_aload_n hx hb dX10_takeArticle_55 rfl (lv_at hl 0 rfl) ?_
      refine lv_aload_n hx hb dX10_takeArticle_56 rfl (lv_at hl 1 rfl) ?_
      refine lv_iconst (v := 1) hx hb dX10_takeArticle_57 rfl ?_
      refine q_goI (q_runV (As := [.ref h1, .int 1]) (rest := []) E hC0 hS0 (m_X10_isNew l X Γ H0 hC0 h0 g0 h1 g1 1 (a2 := 1) (by decide) ra gra ur kd vl N (_) S cu ys (by omega) (by omega)) cw_X10_isNew cl_RX10_177 g0 ⟨rfl, rfl⟩ rfl hl.1 rfl (Nat.zero_le _) (by decide) dX10_takeArticle_58) hS0 (fun v48 H48 locs48 hr48 hC48 hS48 => ?_)
      obtain ⟨hp48, hr48⟩ := hr48
      have hKp48 := hKp0.tr (hp48.mono rfl)
      replace cu := cu.kp hp48 rfl rfl
      replace ys := ys.kp hp48 gyt gyy rfl
      rcases hr48 with ⟨rfl, ha⟩ | ⟨rfl, ha⟩
      · refine q_if_eq hx hb (a := 1) (by decide) (tgt := 82) dX10_takeArticle_61 rfl (fun c49 => absurd c49 (by omega)) (fun c49 => ?_)
        refine lv_aload_n hx hb dX10_takeArticle_64 rfl (lv_at hl 0 rfl) ?_
        refine lv_aload_n hx hb dX10_takeArticle_65 rfl (lv_at hl 1 rfl) ?_
        refine lv_iconst (v := 1) hx hb dX10_takeArticle_66 rfl ?_
        refine q_word E hS48 (i := 13) (by decide) w_936 dX10_takeArticle_67 (fun g50 => ?_)
        refine lv_bipush (v := 40) hx hb dX10_takeArticle_70 rfl ?_
        refine q_goI (q_runV (As := [.ref h1, .int 1, va_rf (some (wad X 13)), .int 40]) (rest := []) E hC48 hS48 (m_X10_takeLimit l X Γ H48 hC48 h0 g0 h1 g1 1 (a2 := 1) (by decide) (some (wad X 13)) (fun _ h => by cases h; exact g50) 40 (a4 := 40) (by decide) ra gra ur kd vl N (_) S cu ys 13 (by decide) rfl (by first | exact kw6.1 | exact kw12.1 | exact kw15.1) (by omega) (by omega) (by omega)) cw_X10_takeLimit cl_RX10_184 g0 ⟨rfl, rfl⟩ rfl hl.1 rfl (Nat.zero_le _) (by decide) dX10_takeArticle_72) hS48 (fun v51 H51 locs51 hr51 hC51 hS51 => ?_)
        obtain ⟨hp51, hr51⟩ := hr51
        have hKp51 := hKp48.tr (hp51.mono rfl)
        rcases hr51 with ⟨rfl, S1, i1, hg, cu, ys⟩ | ⟨rfl, hg⟩
        · have hyes : ∃ (S1 : YSt) (i1 : Nat), gArt kd vl S i S1 i1 ∧ CU X Γ H51 ra kd vl N i1 ∧ YSC X Γ H51 h0 h1 vl S1 := ⟨S1, i1, by first | exact Or.inl ⟨kw6, ha, hg⟩ | exact Or.inr (Or.inl ⟨kw12, ha, hg⟩) | exact Or.inr (Or.inr (Or.inl ⟨kw15, ha, hg⟩)), cu, ys⟩
          refine q_if_eq hx hb (a := 1) (by decide) (tgt := 82) dX10_takeArticle_75 rfl (fun c52 => absurd c52 (by omega)) (fun c52 => ?_)
          refine lv_iconst (v := 1) hx hb dX10_takeArticle_78 rfl ?_
          refine lv_goto (tgt := 83) hx hb dX10_takeArticle_79 rfl ?_
          exact ret 1 H51 locs51 _ _ dX10_takeArticle_83 (Or.inr rfl) ⟨hKp51, Or.inl ⟨rfl, hyes⟩⟩ hC51 hS51
        · have hno : ∀ (S1 : YSt) (i1 : Nat), ¬ gArt kd vl S i S1 i1 := fun S1 i1 q => by rcases q with ⟨q1, q2, q3⟩ | ⟨q1, q2, q3⟩ | ⟨q1, q2, q3⟩ | ⟨q1, q2, -, -⟩ <;> first | exact absurd q1 (by assumption) | exact absurd q2 ha | exact hg _ _ q3 | exact absurd (okW_j q1 kw6 (by decide) (by decide)) (by decide) | exact absurd (okW_j q1 kw12 (by decide) (by decide)) (by decide) | exact absurd (okW_j q1 kw15 (by decide) (by decide)) (by decide) | exact absurd (okW_j q1 kw14 (by decide) (by decide)) (by decide)
          refine q_if_eq hx hb (a := 0) (by decide) (tgt := 82) dX10_takeArticle_75 rfl (fun c53 => ?_) (fun c53 => absurd c53 (by omega))
          refine lv_iconst (v := 0) hx hb dX10_takeArticle_82 rfl ?_
          exact ret 0 H51 locs51 _ _ dX10_takeArticle_83 (Or.inl rfl) ⟨hKp51, Or.inr ⟨rfl, hno⟩⟩ hC51 hS51
      · have hno : ∀ (S1 : YSt) (i1 : Nat), ¬ gArt kd vl S i S1 i1 := fun S1 i1 q => by rcases q with ⟨q1, q2, q3⟩ | ⟨q1, q2, q3⟩ | ⟨q1, q2, q3⟩ | ⟨q1, q2, -, -⟩ <;> first | exact absurd q1 (by assumption) | exact absurd q2 ha | exact hg _ _ q3 | exact absurd (okW_j q1 kw6 (by decide) (by decide)) (by decide) | exact absurd (okW_j q1 kw12 (by decide) (by decide)) (by decide) | exact absurd (okW_j q1 kw15 (by decide) (by decide)) (by decide) | exact absurd (okW_j q1 kw14 (by decide) (by decide)) (by decide)
        refine q_if_eq hx hb (a := 0) (by decide) (tgt := 82) dX10_takeArticle_61 rfl (fun c54 => ?_) (fun c54 => absurd c54 (by omega))
        refine lv_iconst (v := 0) hx hb dX10_takeArticle_82 rfl ?_
        exact ret 0 H48 locs48 _ _ dX10_takeArticle_83 (Or.inl rfl) ⟨hKp48, Or.inr ⟨rfl, hno⟩⟩ hC48 hS48
  · have kw6 := cu.isw E eq21 c23 (by decide)
    refine lv_aload_n hx hb dX10_takeArticle_13 rfl (lv_at hl 0 rfl) ?_
    refine lv_aload_n hx hb dX10_takeArticle_14 rfl (lv_at hl 1 rfl) ?_
    refine lv_iconst (v := 0) hx hb dX10_takeArticle_15 rfl ?_
    refine q_goI (q_runV (As := [.ref h1, .int 0]) (rest := []) E hC0 hS0 (m_X10_isNew l X Γ H0 hC0 h0 g0 h1 g1 0 (a2 := 0) (by decide) ra gra ur kd vl N (_) S cu ys (by omega) (by omega)) cw_X10_isNew cl_RX10_177 g0 ⟨rfl, rfl⟩ rfl hl.1 rfl (Nat.zero_le _) (by decide) dX10_takeArticle_16) hS0 (fun v55 H55 locs55 hr55 hC55 hS55 => ?_)
    obtain ⟨hp55, hr55⟩ := hr55
    have hKp55 := hKp0.tr (hp55.mono rfl)
    replace cu := cu.kp hp55 rfl rfl
    replace ys := ys.kp hp55 gyt gyy rfl
    rcases hr55 with ⟨rfl, ha⟩ | ⟨rfl, ha⟩
    · refine q_if_eq hx hb (a := 1) (by decide) (tgt := 40) dX10_takeArticle_19 rfl (fun c56 => absurd c56 (by omega)) (fun c56 => ?_)
      refine lv_aload_n hx hb dX10_takeArticle_22 rfl (lv_at hl 0 rfl) ?_
      refine lv_aload_n hx hb dX10_takeArticle_23 rfl (lv_at hl 1 rfl) ?_
      refine lv_iconst (v := 0) hx hb dX10_takeArticle_24 rfl ?_
      refine q_word E hS55 (i := 11) (by decide) w_928 dX10_takeArticle_25 (fun g57 => ?_)
      refine lv_bipush (v := 20) hx hb dX10_takeArticle_28 rfl ?_
      refine q_goI (q_runV (As := [.ref h1, .int 0, va_rf (some (wad X 11)), .int 20]) (rest := []) E hC55 hS55 (m_X10_takeLimit l X Γ H55 hC55 h0 g0 h1 g1 0 (a2 := 0) (by decide) (some (wad X 11)) (fun _ h => by cases h; exact g57) 20 (a4 := 20) (by decide) ra gra ur kd vl N (_) S cu ys 11 (by decide) rfl (by first | exact kw6.1 | exact kw12.1 | exact kw15.1) (by omega) (by omega) (by omega)) cw_X10_takeLimit cl_RX10_184 g0 ⟨rfl, rfl⟩ rfl hl.1 rfl (Nat.zero_le _) (by decide) dX10_takeArticle_30) hS55 (fun v58 H58 locs58 hr58 hC58 hS58 => ?_)
      obtain ⟨hp58, hr58⟩ := hr58
      have hKp58 := hKp55.tr (hp58.mono rfl)
      rcases hr58 with ⟨rfl, S1, i1, hg, cu, ys⟩ | ⟨rfl, hg⟩
      · have hyes : ∃ (S1 : YSt) (i1 : Nat), gArt kd vl S i S1 i1 ∧ CU X Γ H58 ra kd vl N i1 ∧ YSC X Γ H58 h0 h1 vl S1 := ⟨S1, i1, by first | exact Or.inl ⟨kw6, ha, hg⟩ | exact Or.inr (Or.inl ⟨kw12, ha, hg⟩) | exact Or.inr (Or.inr (Or.inl ⟨kw15, ha, hg⟩)), cu, ys⟩
        refine q_if_eq hx hb (a := 1) (by decide) (tgt := 40) dX10_takeArticle_33 rfl (fun c59 => absurd c59 (by omega)) (fun c59 => ?_)
        refine lv_iconst (v := 1) hx hb dX10_takeArticle_36 rfl ?_
        refine lv_goto (tgt := 41) hx hb dX10_takeArticle_37 rfl ?_
        exact ret 1 H58 locs58 _ _ dX10_takeArticle_41 (Or.inr rfl) ⟨hKp58, Or.inl ⟨rfl, hyes⟩⟩ hC58 hS58
      · have hno : ∀ (S1 : YSt) (i1 : Nat), ¬ gArt kd vl S i S1 i1 := fun S1 i1 q => by rcases q with ⟨q1, q2, q3⟩ | ⟨q1, q2, q3⟩ | ⟨q1, q2, q3⟩ | ⟨q1, q2, -, -⟩ <;> first | exact absurd q1 (by assumption) | exact absurd q2 ha | exact hg _ _ q3 | exact absurd (okW_j q1 kw6 (by decide) (by decide)) (by decide) | exact absurd (okW_j q1 kw12 (by decide) (by decide)) (by decide) | exact absurd (okW_j q1 kw15 (by decide) (by decide)) (by decide) | exact absurd (okW_j q1 kw14 (by decide) (by decide)) (by decide)
        refine q_if_eq hx hb (a := 0) (by decide) (tgt := 40) dX10_takeArticle_33 rfl (fun c60 => ?_) (fun c60 => absurd c60 (by omega))
        refine lv_iconst (v := 0) hx hb dX10_takeArticle_40 rfl ?_
        exact ret 0 H58 locs58 _ _ dX10_takeArticle_41 (Or.inl rfl) ⟨hKp58, Or.inr ⟨rfl, hno⟩⟩ hC58 hS58
    · have hno : ∀ (S1 : YSt) (i1 : Nat), ¬ gArt kd vl S i S1 i1 := fun S1 i1 q => by rcases q with ⟨q1, q2, q3⟩ | ⟨q1, q2, q3⟩ | ⟨q1, q2, q3⟩ | ⟨q1, q2, -, -⟩ <;> first | exact absurd q1 (by assumption) | exact absurd q2 ha | exact hg _ _ q3 | exact absurd (okW_j q1 kw6 (by decide) (by decide)) (by decide) | exact absurd (okW_j q1 kw12 (by decide) (by decide)) (by decide) | exact absurd (okW_j q1 kw15 (by decide) (by decide)) (by decide) | exact absurd (okW_j q1 kw14 (by decide) (by decide)) (by decide)
      refine q_if_eq hx hb (a := 0) (by decide) (tgt := 40) dX10_takeArticle_19 rfl (fun c61 => ?_) (fun c61 => absurd c61 (by omega))
      refine lv_iconst (v := 0) hx hb dX10_takeArticle_40 rfl ?_
      exact ret 0 H55 locs55 _ _ dX10_takeArticle_41 (Or.inl rfl) ⟨hKp55, Or.inr ⟨rfl, hno⟩⟩ hC55 hS55
set_option maxRecDepth 100000 in
set_option maxHeartbeats 4000000 in
theorem m_X10_takePart (l : Launch) (X : xW) (Γ : Nat → Option Nat) (H0 : Heap) (hC0 : Conf X Γ H0) (h0 : Nat) (g0 : Γ h0 = some 3) (h1 : Nat) (g1 : Γ h1 = some 5) (ra : Nat) (gra : Γ ra = some 2) (ur : ∀ a, Γ a = some 2 → a = ra) (kd vl : Nat → Int) (N i : Nat) (S : YSt) (cu : CU X Γ H0 ra kd vl N i) (ys : YSC X Γ H0 h0 h1 vl S) : Ctr l X Γ yX10_takePart cX10_takePart 2 (some .boolean) 5 [.ref h0, .ref h1] H0 (QI X Γ (fun v H1 => Kp X Γ [3, 29, 31, 37, 39, 51, 52, 53, 54, 58, 59, 60, 62, 63, 65, 67, 68, 69, 70, 71, 72] H0 H1 ∧ ((v = 1 ∧ (∃ (S1 : YSt) (i1 : Nat), gPart kd vl S i S1 i1 ∧ CU X Γ H1 ra kd vl N i1 ∧ YSC X Γ H1 h0 h1 vl S1)) ∨ (v = 0 ∧ (∀ (S1 : YSt) (i1 : Nat), ¬ gPart kd vl S i S1 i1))))) := by
  refine q_enterZ (own := "SnowForts$YardText") (by decide) rfl (Nat.le_of_ble_eq_true rfl) ?_
  intro p e s m args below meth c ls Qz E hl ret hS0
  have hx := E.1; have hb := E.2.1
  have hKp0 : Kp X Γ [3, 29, 31, 37, 39, 51, 52, 53, 54, 58, 59, 60, 62, 63, 65, 67, 68, 69, 70, 71, 72] H0 H0 := Kp.rf
  have hl : lv_has ls 2 [(0, .ref h0), (1, .ref h1)] := hl
  have gry := cu.g; have gyt := g0; have gyy := g1
  refine lv_aload_n hx hb dX10_takePart_0 rfl (lv_at hl 0 rfl) ?_
  refine q_getU E hC0 g0 fa_RX10_21 ur dX10_takePart_1 ?_
  refine q_getQ E hC0 gra fa_RX10_101 dX10_takePart_4 (fun q21 eq21 gq21 => ?_)
  refine q_word E hS0 (i := 2) (by decide) w_887 dX10_takePart_7 (fun g22 => ?_)
  refine lv_acmp_ne (rx := q21) (ry := (some (wad X 2))) (tgt := 19) hx hb dX10_takePart_10 rfl (fun c23 => ?_) (fun c23 => ?_)
  · have kn2 := cu.nsw eq21 c23 (by decide)
    refine lv_aload_n hx hb dX10_takePart_19 rfl (lv_at hl 0 rfl) ?_
    refine q_getU E hC0 g0 fa_RX10_21 ur dX10_takePart_20 ?_
    refine q_getQ E hC0 gra fa_RX10_101 dX10_takePart_23 (fun q24 eq24 gq24 => ?_)
    refine q_word E hS0 (i := 4) (by decide) w_902 dX10_takePart_26 (fun g25 => ?_)
    refine lv_acmp_ne (rx := q24) (ry := (some (wad X 4))) (tgt := 51) hx hb dX10_takePart_29 rfl (fun c26 => ?_) (fun c26 => ?_)
    · have kn4 := cu.nsw eq24 c26 (by decide)
      refine lv_aload_n hx hb dX10_takePart_51 rfl (lv_at hl 0 rfl) ?_
      refine q_getU E hC0 g0 fa_RX10_21 ur dX10_takePart_52 ?_
      refine q_getQ E hC0 gra fa_RX10_101 dX10_takePart_55 (fun q27 eq27 gq27 => ?_)
      refine q_word E hS0 (i := 6) (by decide) w_910 dX10_takePart_58 (fun g28 => ?_)
      refine lv_acmp_ne (rx := q27) (ry := (some (wad X 6))) (tgt := 83) hx hb dX10_takePart_61 rfl (fun c29 => ?_) (fun c29 => ?_)
      · have kn6 := cu.nsw eq27 c29 (by decide)
        refine lv_aload_n hx hb dX10_takePart_83 rfl (lv_at hl 0 rfl) ?_
        refine q_getU E hC0 g0 fa_RX10_21 ur dX10_takePart_84 ?_
        refine q_getQ E hC0 gra fa_RX10_101 dX10_takePart_87 (fun q30 eq30 gq30 => ?_)
        refine q_word E hS0 (i := 8) (by decide) w_914 dX10_takePart_90 (fun g31 => ?_)
        refine lv_acmp_ne (rx := q30) (ry := (some (wad X 8))) (tgt := 115) hx hb dX10_takePart_93 rfl (fun c32 => ?_) (fun c32 => ?_)
        · have kn8 := cu.nsw eq30 c32 (by decide)
          refine lv_aload_n hx hb dX10_takePart_115 rfl (lv_at hl 0 rfl) ?_
          refine q_getU E hC0 g0 fa_RX10_21 ur dX10_takePart_116 ?_
          refine q_word E hS0 (i := 10) (by decide) w_918 dX10_takePart_119 (fun g33 => ?_)
          refine q_goI (q_runV (As := [va_rf (some (wad X 10))]) (rest := []) E hC0 hS0 (m_X4_take l X Γ H0 hC0 ra gra (some (wad X 10)) (fun _ h => by cases h; exact g33)) cw_X4_take cl_RX10_75 gra ⟨rfl, rfl⟩ rfl hl.1 rfl (Nat.zero_le _) (by decide) dX10_takePart_122) hS0 (fun v34 H34 locs34 hr34 hC34 hS34 => ?_)
          obtain ⟨hp34, hr34⟩ := hr34
          have hKp34 := hKp0.tr (hp34.mono rfl)
          replace ys := ys.kp hp34 gyt gyy rfl
          rcases hr34.2 kd vl N (_) cu 10 (by decide) rfl with ⟨rfl, kw10, cu⟩ | ⟨rfl, kn10⟩
          · refine q_if_eq hx hb (a := 1) (by decide) (tgt := 140) dX10_takePart_125 rfl (fun c35 => absurd c35 (by omega)) (fun c35 => ?_)
            refine lv_aload_n hx hb dX10_takePart_128 rfl (lv_at hl 0 rfl) ?_
            refine lv_aload_n hx hb dX10_takePart_129 rfl (lv_at hl 1 rfl) ?_
            refine q_goI (q_runV (As := [.ref h1]) (rest := []) E hC34 hS34 (m_X10_takeArticle l X Γ H34 hC34 h0 g0 h1 g1 ra gra ur kd vl N (_) S cu ys) cw_X10_takeArticle cl_RX10_141 g0 ⟨rfl, rfl⟩ rfl hl.1 rfl (Nat.zero_le _) (by decide) dX10_takePart_130) hS34 (fun v36 H36 locs36 hr36 hC36 hS36 => ?_)
            obtain ⟨hp36, hr36⟩ := hr36
            have hKp36 := hKp34.tr (hp36.mono rfl)
            rcases hr36 with ⟨rfl, S1, i1, hg, cu, ys⟩ | ⟨rfl, hg⟩
            · have hyes : ∃ (S1 : YSt) (i1 : Nat), gPart kd vl S i S1 i1 ∧ CU X Γ H36 ra kd vl N i1 ∧ YSC X Γ H36 h0 h1 vl S1 := ⟨S1, i1, by first | exact Or.inl ⟨kw2, hg⟩ | exact Or.inr (Or.inl ⟨kw4, hg⟩) | exact Or.inr (Or.inr (Or.inl ⟨kw6, hg⟩)) | exact Or.inr (Or.inr (Or.inr (Or.inl ⟨kw8, hg⟩))) | exact Or.inr (Or.inr (Or.inr (Or.inr ⟨kw10, hg⟩))), cu, ys⟩
              refine q_if_eq hx hb (a := 1) (by decide) (tgt := 140) dX10_takePart_133 rfl (fun c37 => absurd c37 (by omega)) (fun c37 => ?_)
              refine lv_iconst (v := 1) hx hb dX10_takePart_136 rfl ?_
              refine lv_goto (tgt := 141) hx hb dX10_takePart_137 rfl ?_
              exact ret 1 H36 locs36 _ _ dX10_takePart_141 (Or.inr rfl) ⟨hKp36, Or.inl ⟨rfl, hyes⟩⟩ hC36 hS36
            · have hno : ∀ (S1 : YSt) (i1 : Nat), ¬ gPart kd vl S i S1 i1 := fun S1 i1 q => by rcases q with ⟨q1, q2⟩ | ⟨q1, q2⟩ | ⟨q1, q2⟩ | ⟨q1, q2⟩ | ⟨q1, q2⟩ <;> first | exact absurd q1 (by assumption) | exact hg _ _ q2 | exact absurd (okW_j q1 kw2 (by decide) (by decide)) (by decide) | exact absurd (okW_j q1 kw4 (by decide) (by decide)) (by decide) | exact absurd (okW_j q1 kw6 (by decide) (by decide)) (by decide) | exact absurd (okW_j q1 kw8 (by decide) (by decide)) (by decide) | exact absurd (okW_j q1 kw10 (by decide) (by decide)) (by decide)
              refine q_if_eq hx hb (a := 0) (by decide) (tgt := 140) dX10_takePart_133 rfl (fun c38 => ?_) (fun c38 => absurd c38 (by omega))
              refine lv_iconst (v := 0) hx hb dX10_takePart_140 rfl ?_
              exact ret 0 H36 locs36 _ _ dX10_takePart_141 (Or.inl rfl) ⟨hKp36, Or.inr ⟨rfl, hno⟩⟩ hC36 hS36
          · have hno : ∀ (S1 : YSt) (i1 : Nat), ¬ gPart kd vl S i S1 i1 := fun S1 i1 q => by rcases q with ⟨q1, q2⟩ | ⟨q1, q2⟩ | ⟨q1, q2⟩ | ⟨q1, q2⟩ | ⟨q1, q2⟩ <;> first | exact absurd q1 (by assumption) | exact hg _ _ q2 | exact absurd (okW_j q1 kw2 (by decide) (by decide)) (by decide) | exact absurd (okW_j q1 kw4 (by decide) (by decide)) (by decide) | exact absurd (okW_j q1 kw6 (by decide) (by decide)) (by decide) | exact absurd (okW_j q1 kw8 (by decide) (by decide)) (by decide) | exact absurd (okW_j q1 kw10 (by decide) (by decide)) (by decide)
            refine q_if_eq hx hb (a := 0) (by decide) (tgt := 140) dX10_takePart_125 rfl (fun c39 => ?_) (fun c39 => absurd c39 (by omega))
            refine lv_iconst (v := 0) hx hb dX10_takePart_140 rfl ?_
            exact ret 0 H34 locs34 _ _ dX10_takePart_141 (Or.inl rfl) ⟨hKp34, Or.inr ⟨rfl, hno⟩⟩ hC34 hS34
        · have kw8 := cu.isw E eq30 c32 (by decide)
          refine lv_aload_n hx hb dX10_takePart_96 rfl (lv_at hl 0 rfl) ?_
          refine lv_aload_n hx hb dX10_takePart_97 rfl (lv_at hl 1 rfl) ?_
          refine lv_aload_n hx hb dX10_takePart_98 rfl (lv_at hl 1 rfl) ?_
          refine q_getR E hC0 g1 fa_RX10_132 dX10_takePart_99 (fun q40 eq40 gq40 => ?_)
          refine lv_aload_n hx hb dX10_takePart_102 rfl (lv_at hl 0 rfl) ?_
          refine q_getR E hC0 g0 fa_RX10_18 dX10_takePart_103 (fun q41 eq41 gq41 => ?_)
          have etl := eq41
          refine q_word E hS0 (i := 9) (by decide) w_916 dX10_takePart_106 (fun g42 => ?_)
          refine lv_bipush (v := 9) hx hb dX10_takePart_109 rfl ?_
          refine q_goI (q_runV (As := [.ref h1, .ref q40, .ref q41, va_rf (some (wad X 9)), .int 9]) (rest := []) E hC0 hS0 (m_X10_takeHeap_77 l X Γ H0 hC0 h0 g0 h1 g1 q40 gq40 q41 gq41 (some (wad X 9)) (fun _ h => by cases h; exact g42) 9 (a5 := 9) (by decide) ra gra ur kd vl N (_) S cu ys 9 (by decide) rfl etl (by first | exact kw4.1 | exact kw6.1 | exact kw8.1) (by omega)) cw_X10_takeHeap cl_RX10_119 g0 ⟨rfl, rfl⟩ rfl hl.1 rfl (Nat.zero_le _) (by decide) dX10_takePart_111) hS0 (fun v43 H43 locs43 hr43 hC43 hS43 => ?_)
          obtain ⟨hp43, hr43⟩ := hr43
          have hKp43 := hKp0.tr (hp43.mono rfl)
          rcases hr43 with ⟨rfl, S1, i1, hg, cu, ys⟩ | ⟨rfl, hg⟩
          · have hyes : ∃ (S1 : YSt) (i1 : Nat), gPart kd vl S i S1 i1 ∧ CU X Γ H43 ra kd vl N i1 ∧ YSC X Γ H43 h0 h1 vl S1 := ⟨S1, i1, by first | exact Or.inl ⟨kw2, hg⟩ | exact Or.inr (Or.inl ⟨kw4, hg⟩) | exact Or.inr (Or.inr (Or.inl ⟨kw6, hg⟩)) | exact Or.inr (Or.inr (Or.inr (Or.inl ⟨kw8, hg⟩))) | exact Or.inr (Or.inr (Or.inr (Or.inr ⟨kw10, hg⟩))), cu, ys⟩
            exact ret 1 H43 locs43 _ _ dX10_takePart_114 (Or.inr rfl) ⟨hKp43, Or.inl ⟨rfl, hyes⟩⟩ hC43 hS43
          · have hno : ∀ (S1 : YSt) (i1 : Nat), ¬ gPart kd vl S i S1 i1 := fun S1 i1 q => by rcases q with ⟨q1, q2⟩ | ⟨q1, q2⟩ | ⟨q1, q2⟩ | ⟨q1, q2⟩ | ⟨q1, q2⟩ <;> first | exact absurd q1 (by assumption) | exact hg _ _ q2 | exact absurd (okW_j q1 kw2 (by decide) (by decide)) (by decide) | exact absurd (okW_j q1 kw4 (by decide) (by decide)) (by decide) | exact absurd (okW_j q1 kw6 (by decide) (by decide)) (by decide) | exact absurd (okW_j q1 kw8 (by decide) (by decide)) (by decide) | exact absurd (okW_j q1 kw10 (by decide) (by decide)) (by decide)
            exact ret 0 H43 locs43 _ _ dX10_takePart_114 (Or.inl rfl) ⟨hKp43, Or.inr ⟨rfl, hno⟩⟩ hC43 hS43
      · have kw6 := cu.isw E eq27 c29 (by decide)
        refine lv_aload_n hx hb dX10_takePart_64 rfl (lv_at hl 0 rfl) ?_
        refine lv_aload_n hx hb dX10_takePart_65 rfl (lv_at hl 1 rfl) ?_
        refine lv_aload_n hx hb dX10_takePart_66 rfl (lv_at hl 1 rfl) ?_
        refine q_getR E hC0 g1 fa_RX10_57 dX10_takePart_67 (fun q44 eq44 gq44 => ?_)
        refine lv_aload_n hx hb dX10_takePart_70 rfl (lv_at hl 0 rfl) ?_
        refine q_getR E hC0 g0 fa_RX10_15 dX10_takePart_71 (fun q45 eq45 gq45 => ?_)
        have etl := eq45
        refine q_word E hS0 (i := 7) (by decide) w_912 dX10_takePart_74 (fun g46 => ?_)
        refine lv_bipush (v := 99) hx hb dX10_takePart_77 rfl ?_
        refine q_goI (q_runV (As := [.ref h1, .ref q44, .ref q45, va_rf (some (wad X 7)), .int 99]) (rest := []) E hC0 hS0 (m_X10_takeHeap_76 l X Γ H0 hC0 h0 g0 h1 g1 q44 gq44 q45 gq45 (some (wad X 7)) (fun _ h => by cases h; exact g46) 99 (a5 := 99) (by decide) ra gra ur kd vl N (_) S cu ys 7 (by decide) rfl etl (by first | exact kw4.1 | exact kw6.1 | exact kw8.1) (by omega)) cw_X10_takeHeap cl_RX10_119 g0 ⟨rfl, rfl⟩ rfl hl.1 rfl (Nat.zero_le _) (by decide) dX10_takePart_79) hS0 (fun v47 H47 locs47 hr47 hC47 hS47 => ?_)
        obtain ⟨hp47, hr47⟩ := hr47
        have hKp47 := hKp0.tr (hp47.mono rfl)
        rcases hr47 with ⟨rfl, S1, i1, hg, cu, ys⟩ | ⟨rfl, hg⟩
        · have hyes : ∃ (S1 : YSt) (i1 : Nat), gPart kd vl S i S1 i1 ∧ CU X Γ H47 ra kd vl N i1 ∧ YSC X Γ H47 h0 h1 vl S1 := ⟨S1, i1, by first | exact Or.inl ⟨kw2, hg⟩ | exact Or.inr (Or.inl ⟨kw4, hg⟩) | exact Or.inr (Or.inr (Or.inl ⟨kw6, hg⟩)) | exact Or.inr (Or.inr (Or.inr (Or.inl ⟨kw8, hg⟩))) | exact Or.inr (Or.inr (Or.inr (Or.inr ⟨kw10, hg⟩))), cu, ys⟩
          exact ret 1 H47 locs47 _ _ dX10_takePart_82 (Or.inr rfl) ⟨hKp47, Or.inl ⟨rfl, hyes⟩⟩ hC47 hS47
        · have hno : ∀ (S1 : YSt) (i1 : Nat), ¬ gPart kd vl S i S1 i1 := fun S1 i1 q => by rcases q with ⟨q1, q2⟩ | ⟨q1, q2⟩ | ⟨q1, q2⟩ | ⟨q1, q2⟩ | ⟨q1, q2⟩ <;> first | exact absurd q1 (by assumption) | exact hg _ _ q2 | exact absurd (okW_j q1 kw2 (by decide) (by decide)) (by decide) | exact absurd (okW_j q1 kw4 (by decide) (by decide)) (by decide) | exact absurd (okW_j q1 kw6 (by decide) (by decide)) (by decide) | exact absurd (okW_j q1 kw8 (by decide) (by decide)) (by decide) | exact absurd (okW_j q1 kw10 (by decide) (by decide)) (by decide)
          exact ret 0 H47 locs47 _ _ dX10_takePart_82 (Or.inl rfl) ⟨hKp47, Or.inr ⟨rfl, hno⟩⟩ hC47 hS47
    · have kw4 := cu.isw E eq24 c26 (by decide)
      refine lv_aload_n hx hb dX10_takePart_32 rfl (lv_at hl 0 rfl) ?_
      refine lv_aload_n hx hb dX10_takePart_33 rfl (lv_at hl 1 rfl) ?_
      refine lv_aload_n hx hb dX10_takePart_34 rfl (lv_at hl 1 rfl) ?_
      refine q_getR E hC0 g1 fa_RX10_113 dX10_takePart_35 (fun q48 eq48 gq48 => ?_)
      refine lv_aload_n hx hb dX10_takePart_38 rfl (lv_at hl 0 rfl) ?_
      refine q_getR E hC0 g0 fa_RX10_9 dX10_takePart_39 (fun q49 eq49 gq49 => ?_)
      have etl := eq49
      refine q_word E hS0 (i := 5) (by decide) w_904 dX10_takePart_42 (fun g50 => ?_)
      refine lv_bipush (v := 99) hx hb dX10_takePart_45 rfl ?_
      refine q_goI (q_runV (As := [.ref h1, .ref q48, .ref q49, va_rf (some (wad X 5)), .int 99]) (rest := []) E hC0 hS0 (m_X10_takeHeap_42 l X Γ H0 hC0 h0 g0 h1 g1 q48 gq48 q49 gq49 (some (wad X 5)) (fun _ h => by cases h; exact g50) 99 (a5 := 99) (by decide) ra gra ur kd vl N (_) S cu ys 5 (by decide) rfl etl (by first | exact kw4.1 | exact kw6.1 | exact kw8.1) (by omega)) cw_X10_takeHeap cl_RX10_119 g0 ⟨rfl, rfl⟩ rfl hl.1 rfl (Nat.zero_le _) (by decide) dX10_takePart_47) hS0 (fun v51 H51 locs51 hr51 hC51 hS51 => ?_)
      obtain ⟨hp51, hr51⟩ := hr51
      have hKp51 := hKp0.tr (hp51.mono rfl)
      rcases hr51 with ⟨rfl, S1, i1, hg, cu, ys⟩ | ⟨rfl, hg⟩
      · have hyes : ∃ (S1 : YSt) (i1 : Nat), gPart kd vl S i S1 i1 ∧ CU X Γ H51 ra kd vl N i1 ∧ YSC X Γ H51 h0 h1 vl S1 := ⟨S1, i1, by first | exact Or.inl ⟨kw2, hg⟩ | exact Or.inr (Or.inl ⟨kw4, hg⟩) | exact Or.inr (Or.inr (Or.inl ⟨kw6, hg⟩)) | exact Or.inr (Or.inr (Or.inr (Or.inl ⟨kw8, hg⟩))) | exact Or.inr (Or.inr (Or.inr (Or.inr ⟨kw10, hg⟩))), cu, ys⟩
        exact ret 1 H51 locs51 _ _ dX10_takePart_50 (Or.inr rfl) ⟨hKp51, Or.inl ⟨rfl, hyes⟩⟩ hC51 hS51
      · have hno : ∀ (S1 : YSt) (i1 : Nat), ¬ gPart kd vl S i S1 i1 := fun S1 i1 q => by rcases q with ⟨q1, q2⟩ | ⟨q1, q2⟩ | ⟨q1, q2⟩ | ⟨q1, q2⟩ | ⟨q1, q2⟩ <;> first | exact absurd q1 (by assumption) | exact hg _ _ q2 | exact absurd (okW_j q1 kw2 (by decide) (by decide)) (by decide) | exact absurd (okW_j q1 kw4 (by decide) (by decide)) (by decide) | exact absurd (okW_j q1 kw6 (by decide) (by decide)) (by decide) | exact absurd (okW_j q1 kw8 (by decide) (by decide)) (by decide) | exact absurd (okW_j q1 kw10 (by decide) (by decide)) (by decide)
        exact ret 0 H51 locs51 _ _ dX10_takePart_50 (Or.inl rfl) ⟨hKp51, Or.inr ⟨rfl, hno⟩⟩ hC51 hS51
  · have kw2 := cu.isw E eq21 c23 (by decide)
    refine lv_aload_n hx hb dX10_takePart_13 rfl (lv_at hl 0 rfl) ?_
    refine lv_aload_n hx hb dX10_takePart_14 rfl (lv_at hl 1 rfl) ?_
    refine q_goI (q_runV (As := [.ref h1]) (rest := []) E hC0 hS0 (m_X10_takeSchool l X Γ H0 hC0 h0 g0 h1 g1 ra gra ur kd vl N (_) S cu ys kw2) cw_X10_takeSchool cl_RX10_107 g0 ⟨rfl, rfl⟩ rfl hl.1 rfl (Nat.zero_le _) (by decide) dX10_takePart_15) hS0 (fun v52 H52 locs52 hr52 hC52 hS52 => ?_)
    obtain ⟨hp52, hr52⟩ := hr52
    have hKp52 := hKp0.tr (hp52.mono rfl)
    rcases hr52 with ⟨rfl, S1, i1, hg, cu, ys⟩ | ⟨rfl, hg⟩
    · have hyes : ∃ (S1 : YSt) (i1 : Nat), gPart kd vl S i S1 i1 ∧ CU X Γ H52 ra kd vl N i1 ∧ YSC X Γ H52 h0 h1 vl S1 := ⟨S1, i1, by first | exact Or.inl ⟨kw2, hg⟩ | exact Or.inr (Or.inl ⟨kw4, hg⟩) | exact Or.inr (Or.inr (Or.inl ⟨kw6, hg⟩)) | exact Or.inr (Or.inr (Or.inr (Or.inl ⟨kw8, hg⟩))) | exact Or.inr (Or.inr (Or.inr (Or.inr ⟨kw10, hg⟩))), cu, ys⟩
      exact ret 1 H52 locs52 _ _ dX10_takePart_18 (Or.inr rfl) ⟨hKp52, Or.inl ⟨rfl, hyes⟩⟩ hC52 hS52
    · have hno : ∀ (S1 : YSt) (i1 : Nat), ¬ gPart kd vl S i S1 i1 := fun S1 i1 q => by rcases q with ⟨q1, q2⟩ | ⟨q1, q2⟩ | ⟨q1, q2⟩ | ⟨q1, q2⟩ | ⟨q1, q2⟩ <;> first | exact absurd q1 (by assumption) | exact hg _ _ q2 | exact absurd (okW_j q1 kw2 (by decide) (by decide)) (by decide) | exact absurd (okW_j q1 kw4 (by decide) (by decide)) (by decide) | exact absurd (okW_j q1 kw6 (by decide) (by decide)) (by decide) | exact absurd (okW_j q1 kw8 (by decide) (by decide)) (by decide) | exact absurd (okW_j q1 kw10 (by decide) (by decide)) (by decide)
      exact ret 0 H52 locs52 _ _ dX10_takePart_18 (Or.inl rfl) ⟨hKp52, Or.inr ⟨rfl, hno⟩⟩ hC52 hS52
set_option maxRecDepth 100000 in
set_option maxHeartbeats 4000000 in
theorem m_X10_parse (l : Launch) (X : xW) (Γ : Nat → Option Nat) (H0 : Heap) (hC0 : Conf X Γ H0) (h0 : Nat) (g0 : Γ h0 = some 3) (p1 : Int32) {a1 : Int} (e1 : p1.toInt = a1) (h2 : Nat) (g2 : Γ h2 = some 5) (ra : Nat) (gra : Γ ra = some 2) (ur : ∀ a, Γ a = some 2 → a = ra) (tp : Nat) (htp : sR H0 ra (X.1.2 4 0) = some tp) (gtp : Γ tp = some 25) (sn wl su lw ic kn hd us br ar fi : Nat) (yn : YN X Γ H0 h2 sn wl su lw ic kn hd us br ar fi) (r0 : 0 ≤ a1) (r1 : a1 ≤ 900) : Ctr l X Γ yX10_parse cX10_parse 4 (some .boolean) 6 [.ref h0, .int p1, .ref h2] H0 (QI X Γ (fun v H1 => Kp X Γ [3, 29, 37, 39, 67, 68, 69, 70, 71, 72] H0 H1 ∧ ((v = 0 ∨ v = 1) ∧ (∃ (kd vl w3 : Nat → Int) (pos : Nat → Nat) (N : Nat), TKS (bf H0 tp) (a1).toNat N pos kd vl w3 ∧ ((sI H1 h2 (X.1.2 8 3)).toInt = 0 ∧ (sI H1 h2 (X.1.2 8 4)).toInt = 0 ∧ (sI H1 h2 (X.1.2 8 5)).toInt = 0 ∧ (sI H1 h2 (X.1.2 8 6)).toInt = 0 ∧ aI H1 us 0 = 0 ∧ aI H1 us 1 = 0 ∧ aI H1 br 0 = 0 ∧ aI H1 br 1 = 0) ∧ ((v = 1 ∧ ∃ w h, gYard kd vl w h ∧ (sI H1 h2 (X.1.2 8 0)).toInt = w ∧ (sI H1 h2 (X.1.2 8 1)).toInt = h ∧ ∃ T, gFin kd vl 1000 (Si0 vl) 5 T ∧ (sI H1 h2 (X.1.2 8 2)).toInt = T.2.2.1) ∨ (v = 0 ∧ ∀ w h, ¬ gYard kd vl w h)))))) := by
  refine q_enterZ (own := "SnowForts$YardText") (by decide) rfl (Nat.le_of_ble_eq_true rfl) ?_
  intro p e s m args below meth c ls Qz E hl ret hS0
  have hx := E.1; have hb := E.2.1
  have hKp0 : Kp X Γ [3, 29, 37, 39, 67, 68, 69, 70, 71, 72] H0 H0 := Kp.rf
  have hl : lv_has ls 4 [(0, .ref h0), (1, .int p1), (2, .ref h2)] := hl
  have gsn := yn.sn.2; have gwl := yn.wl.2; have gsu := yn.su.2; have glw := yn.lw.2; have gic := yn.ic.2; have gkn := yn.kn.2; have ghd := yn.hd.2; have gus := yn.us.2; have gbr := yn.br.2; have gar := yn.ar.2; have gfi := yn.fi.2
  have gyt := g0; have gyy := g2
  have tpt : ∀ j, sI H0 tp j = sI H0 tp j := fun _ => rfl
  refine lv_aload_n hx hb dX10_parse_0 rfl (lv_at hl 2 rfl) ?_
  refine q_goV (q_runV (As := []) (rest := []) E hC0 hS0 (m_X9_clear l X Γ H0 hC0 h2 g2 sn wl su lw ic kn hd us br ar fi yn) cw_X9_clear cl_RX10_25 g2 ⟨rfl, rfl⟩ rfl hl.1 rfl (Nat.zero_le _) (by decide) dX10_parse_1) hS0 (fun H21 locs21 hr21 hC21 hS21 => ?_)
  obtain ⟨hp21, hr21⟩ := hr21
  have hKp21 := hKp0.tr (hp21.mono rfl)
  replace tpt : ∀ j, sI H21 tp j = sI H0 tp j := fun j => (kp_aI hp21 j gtp rfl rfl).trans (tpt j)
  obtain ⟨f21_0, f21_1, f21_2, f21_3, f21_4, f21_5, f21_6, f21_7, f21_8⟩ := hr21
  have ycl := f21_0
  refine lv_aload_n hx hb dX10_parse_4 rfl (lv_at hl 0 rfl) ?_
  refine q_getR E hC21 g0 fa_RX10_9 dX10_parse_5 (fun q30 eq30 gq30 => ?_)
  have eq1 := eq30; have gq1 := gq30
  refine lv_iconst (v := 0) hx hb dX10_parse_8 rfl ?_
  refine q_goV (q_runS (As := [.ref q30, .int 0]) (rest := []) E hS21 (m_fillI l X Γ H21 hC21 q30 gq30 (by decide) rfl rfl (fun _ => rfl) (by decide) 0 (by decide)) cw_J7_fill_53178 cl_RX10_30 rfl hl.1 rfl (Nat.zero_le _) (by decide) dX10_parse_9) hS21 (fun H31 locs31 U31 hC31 hS31 => ?_)
  obtain ⟨U31, F31⟩ := U31
  have hKp31 := Kp.upC gq30 rfl (by decide) rfl U31 hKp21
  have m32 : aI H31 us (0) = aI H21 us (0) := aI_cp U31 (nek gus gq30 (by decide))
  have m33 : aI H31 us (1) = aI H21 us (1) := aI_cp U31 (nek gus gq30 (by decide))
  have m34 : aI H31 br (0) = aI H21 br (0) := aI_cp U31 (nek gbr gq30 (by decide))
  have m35 : aI H31 br (1) = aI H21 br (1) := aI_cp U31 (nek gbr gq30 (by decide))
  have m36 : (sI H31 h2 (X.1.2 8 3)).toInt = (sI H21 h2 (X.1.2 8 3)).toInt := congrArg Int32.toInt (cp_I U31 (nek g2 gq30 (by decide)))
  have m37 : (sI H31 h2 (X.1.2 8 4)).toInt = (sI H21 h2 (X.1.2 8 4)).toInt := congrArg Int32.toInt (cp_I U31 (nek g2 gq30 (by decide)))
  have m38 : (sI H31 h2 (X.1.2 8 5)).toInt = (sI H21 h2 (X.1.2 8 5)).toInt := congrArg Int32.toInt (cp_I U31 (nek g2 gq30 (by decide)))
  have m39 : (sI H31 h2 (X.1.2 8 6)).toInt = (sI H21 h2 (X.1.2 8 6)).toInt := congrArg Int32.toInt (cp_I U31 (nek g2 gq30 (by decide)))
  replace tpt : ∀ j, sI H31 tp j = sI H0 tp j := fun j => (cp_I U31 (nek gtp gq30 (by decide))).trans (tpt j)
  replace ycl := ycl.cp gyy U31 gq30 (by decide)
  have tz1 := TZO.mk (k := 42) gyt eq1 gq1 (by decide) U31 F31
  refine lv_aload_n hx hb dX10_parse_12 rfl (lv_at hl 0 rfl) ?_
  refine q_getR E hC31 g0 fa_RX10_15 dX10_parse_13 (fun q40 eq40 gq40 => ?_)
  have eq2 := eq40; have gq2 := gq40
  refine lv_iconst (v := 0) hx hb dX10_parse_16 rfl ?_
  refine q_goV (q_runS (As := [.ref q40, .int 0]) (rest := []) E hS31 (m_fillI l X Γ H31 hC31 q40 gq40 (by decide) rfl rfl (fun _ => rfl) (by decide) 0 (by decide)) cw_J7_fill_53178 cl_RX10_30 rfl hl.1 rfl (Nat.zero_le _) (by decide) dX10_parse_17) hS31 (fun H41 locs41 U41 hC41 hS41 => ?_)
  obtain ⟨U41, F41⟩ := U41
  have hKp41 := Kp.upC gq40 rfl (by decide) rfl U41 hKp31
  have m42 : aI H41 us (0) = aI H31 us (0) := aI_cp U41 (nek gus gq40 (by decide))
  have m43 : aI H41 us (1) = aI H31 us (1) := aI_cp U41 (nek gus gq40 (by decide))
  have m44 : aI H41 br (0) = aI H31 br (0) := aI_cp U41 (nek gbr gq40 (by decide))
  have m45 : aI H41 br (1) = aI H31 br (1) := aI_cp U41 (nek gbr gq40 (by decide))
  have m46 : (sI H41 h2 (X.1.2 8 3)).toInt = (sI H31 h2 (X.1.2 8 3)).toInt := congrArg Int32.toInt (cp_I U41 (nek g2 gq40 (by decide)))
  have m47 : (sI H41 h2 (X.1.2 8 4)).toInt = (sI H31 h2 (X.1.2 8 4)).toInt := congrArg Int32.toInt (cp_I U41 (nek g2 gq40 (by decide)))
  have m48 : (sI H41 h2 (X.1.2 8 5)).toInt = (sI H31 h2 (X.1.2 8 5)).toInt := congrArg Int32.toInt (cp_I U41 (nek g2 gq40 (by decide)))
  have m49 : (sI H41 h2 (X.1.2 8 6)).toInt = (sI H31 h2 (X.1.2 8 6)).toInt := congrArg Int32.toInt (cp_I U41 (nek g2 gq40 (by decide)))
  replace tpt : ∀ j, sI H41 tp j = sI H0 tp j := fun j => (cp_I U41 (nek gtp gq40 (by decide))).trans (tpt j)
  replace ycl := ycl.cp gyy U41 gq40 (by decide)
  replace tz1 := tz1.cp gyt U41 gq40 (by decide)
  have tz2 := TZO.mk (k := 76) gyt eq2 gq2 (by decide) U41 F41
  refine lv_aload_n hx hb dX10_parse_20 rfl (lv_at hl 0 rfl) ?_
  refine q_getR E hC41 g0 fa_RX10_18 dX10_parse_21 (fun q50 eq50 gq50 => ?_)
  have eq3 := eq50; have gq3 := gq50
  refine lv_iconst (v := 0) hx hb dX10_parse_24 rfl ?_
  refine q_goV (q_runS (As := [.ref q50, .int 0]) (rest := []) E hS41 (m_fillI l X Γ H41 hC41 q50 gq50 (by decide) rfl rfl (fun _ => rfl) (by decide) 0 (by decide)) cw_J7_fill_53178 cl_RX10_30 rfl hl.1 rfl (Nat.zero_le _) (by decide) dX10_parse_25) hS41 (fun H51 locs51 U51 hC51 hS51 => ?_)
  obtain ⟨U51, F51⟩ := U51
  have hKp51 := Kp.upC gq50 rfl (by decide) rfl U51 hKp41
  have m52 : aI H51 us (0) = aI H41 us (0) := aI_cp U51 (nek gus gq50 (by decide))
  have m53 : aI H51 us (1) = aI H41 us (1) := aI_cp U51 (nek gus gq50 (by decide))
  have m54 : aI H51 br (0) = aI H41 br (0) := aI_cp U51 (nek gbr gq50 (by decide))
  have m55 : aI H51 br (1) = aI H41 br (1) := aI_cp U51 (nek gbr gq50 (by decide))
  have m56 : (sI H51 h2 (X.1.2 8 3)).toInt = (sI H41 h2 (X.1.2 8 3)).toInt := congrArg Int32.toInt (cp_I U51 (nek g2 gq50 (by decide)))
  have m57 : (sI H51 h2 (X.1.2 8 4)).toInt = (sI H41 h2 (X.1.2 8 4)).toInt := congrArg Int32.toInt (cp_I U51 (nek g2 gq50 (by decide)))
  have m58 : (sI H51 h2 (X.1.2 8 5)).toInt = (sI H41 h2 (X.1.2 8 5)).toInt := congrArg Int32.toInt (cp_I U51 (nek g2 gq50 (by decide)))
  have m59 : (sI H51 h2 (X.1.2 8 6)).toInt = (sI H41 h2 (X.1.2 8 6)).toInt := congrArg Int32.toInt (cp_I U51 (nek g2 gq50 (by decide)))
  replace tpt : ∀ j, sI H51 tp j = sI H0 tp j := fun j => (cp_I U51 (nek gtp gq50 (by decide))).trans (tpt j)
  replace ycl := ycl.cp gyy U51 gq50 (by decide)
  replace tz1 := tz1.cp gyt U51 gq50 (by decide)
  replace tz2 := tz2.cp gyt U51 gq50 (by decide)
  have tz3 := TZO.mk (k := 77) gyt eq3 gq3 (by decide) U51 F51
  refine lv_aload_n hx hb dX10_parse_28 rfl (lv_at hl 0 rfl) ?_
  refine q_getU E hC51 g0 fa_RX10_21 ur dX10_parse_29 ?_
  refine lv_iload_n hx hb dX10_parse_32 rfl (lv_at hl 1 rfl) ?_
  have tb := bf_eq tpt
  refine q_goV (q_runV (As := [.int p1]) (rest := []) E hC51 hS51 (m_X4_start l X Γ H51 hC51 ra gra p1 (a1 := a1) e1 tp ((kp_R hKp51 gra (ci := 4) (k := 0) rfl (by decide) rfl).trans htp) gtp (by omega) (by omega)) cw_X4_start cl_RX10_36 gra ⟨rfl, rfl⟩ rfl hl.1 rfl (Nat.zero_le _) (by decide) dX10_parse_33) hS51 (fun H60 locs60 hr60 hC60 hS60 => ?_)
  obtain ⟨hp60, hr60⟩ := hr60
  have hKp60 := hKp51.tr (hp60.mono rfl)
  have m61 : aI H60 us (0) = aI H51 us (0) := aI_kp hp60 gus rfl rfl
  have m62 : aI H60 us (1) = aI H51 us (1) := aI_kp hp60 gus rfl rfl
  have m63 : aI H60 br (0) = aI H51 br (0) := aI_kp hp60 gbr rfl rfl
  have m64 : aI H60 br (1) = aI H51 br (1) := aI_kp hp60 gbr rfl rfl
  have m65 : (sI H60 h2 (X.1.2 8 3)).toInt = (sI H51 h2 (X.1.2 8 3)).toInt := congrArg Int32.toInt (kp_I hp60 g2 (ci := 8) (k := 3) rfl (by decide) rfl)
  have m66 : (sI H60 h2 (X.1.2 8 4)).toInt = (sI H51 h2 (X.1.2 8 4)).toInt := congrArg Int32.toInt (kp_I hp60 g2 (ci := 8) (k := 4) rfl (by decide) rfl)
  have m67 : (sI H60 h2 (X.1.2 8 5)).toInt = (sI H51 h2 (X.1.2 8 5)).toInt := congrArg Int32.toInt (kp_I hp60 g2 (ci := 8) (k := 5) rfl (by decide) rfl)
  have m68 : (sI H60 h2 (X.1.2 8 6)).toInt = (sI H51 h2 (X.1.2 8 6)).toInt := congrArg Int32.toInt (kp_I hp60 g2 (ci := 8) (k := 6) rfl (by decide) rfl)
  replace tpt : ∀ j, sI H60 tp j = sI H0 tp j := fun j => (kp_aI hp60 j gtp rfl rfl).trans (tpt j)
  replace ycl := ycl.kp gyy hp60 rfl
  replace tz1 := tz1.kp gyt hp60 rfl (by decide)
  replace tz2 := tz2.kp gyt hp60 rfl (by decide)
  replace tz3 := tz3.kp gyt hp60 rfl (by decide)
  have f60_0 := hr60
  obtain ⟨kd, vl, w3, pos, N, htk, cu⟩ := f60_0
  rw [tb] at htk
  have ys := YSC.start (vl := vl) ycl tz1 tz2 tz3
  have cu := cu
  refine lv_aload_n hx hb dX10_parse_36 rfl (lv_at hl 0 rfl) ?_
  refine lv_aload_n hx hb dX10_parse_37 rfl (lv_at hl 2 rfl) ?_
  refine q_goI (q_runV (As := [.ref h2]) (rest := []) E hC60 hS60 (m_X10_takeSize l X Γ H60 hC60 h0 g0 h2 g2 ra gra ur kd vl N 0 (2, 1, 0, 0, (fun _ _ => 0), fun _ => -1) cu ys rfl) cw_X10_takeSize cl_RX10_42 g0 ⟨rfl, rfl⟩ rfl hl.1 rfl (Nat.zero_le _) (by decide) dX10_parse_38) hS60 (fun v69 H69 locs69 hr69 hC69 hS69 => ?_)
  obtain ⟨hp69, hr69⟩ := hr69
  have hKp69 := hKp60.tr (hp69.mono rfl)
  have m70 : aI H69 us (0) = aI H60 us (0) := aI_kp hp69 gus rfl rfl
  have m71 : aI H69 us (1) = aI H60 us (1) := aI_kp hp69 gus rfl rfl
  have m72 : aI H69 br (0) = aI H60 br (0) := aI_kp hp69 gbr rfl rfl
  have m73 : aI H69 br (1) = aI H60 br (1) := aI_kp hp69 gbr rfl rfl
  have m74 : (sI H69 h2 (X.1.2 8 3)).toInt = (sI H60 h2 (X.1.2 8 3)).toInt := congrArg Int32.toInt (kp_I hp69 g2 (ci := 8) (k := 3) rfl (by decide) rfl)
  have m75 : (sI H69 h2 (X.1.2 8 4)).toInt = (sI H60 h2 (X.1.2 8 4)).toInt := congrArg Int32.toInt (kp_I hp69 g2 (ci := 8) (k := 4) rfl (by decide) rfl)
  have m76 : (sI H69 h2 (X.1.2 8 5)).toInt = (sI H60 h2 (X.1.2 8 5)).toInt := congrArg Int32.toInt (kp_I hp69 g2 (ci := 8) (k := 5) rfl (by decide) rfl)
  have m77 : (sI H69 h2 (X.1.2 8 6)).toInt = (sI H60 h2 (X.1.2 8 6)).toInt := congrArg Int32.toInt (kp_I hp69 g2 (ci := 8) (k := 6) rfl (by decide) rfl)
  rcases hr69 with ⟨rfl, S1, hg, hS, cu, ys⟩ | ⟨rfl, hg⟩
  · have hyi := fun w h => yard_iff (w := w) (h := h) hg hS
    have hSi := Si0_eq hg hS
    refine q_if_ne hx hb (a := 1) (by decide) (tgt := 46) dX10_parse_41 rfl (fun c78 => ?_) (fun c78 => absurd c78 (by omega))
    refine lv_iconst (v := 0) hx hb dX10_parse_46 rfl ?_
    refine lv_istore_n hx hb dX10_parse_47 rfl hl (by decide) rfl (fun ls hl => ?_)
    replace hl : lv_has ls 4 [(3, .int 0), (0, .ref h0), (1, .int p1), (2, .ref h2)] := hl
    have L48 : ∀ (n80 : Nat) (H80 : Heap) (locs80 : List Loc) (v79 : Int32) (z79 : Int) (ls : Array Slot), (900 - z79).toNat < n80 → v79.toInt = z79 → z79 ≤ 900 → 0 ≤ z79 → PIV X Γ H80 ra h0 h2 kd vl N S1 z79 → (sI H80 h2 (X.1.2 8 3)).toInt = 0 → (sI H80 h2 (X.1.2 8 4)).toInt = 0 → (sI H80 h2 (X.1.2 8 5)).toInt = 0 → (sI H80 h2 (X.1.2 8 6)).toInt = 0 → aI H80 us 0 = 0 → aI H80 us 1 = 0 → aI H80 br 0 = 0 → aI H80 br 1 = 0 → Conf X Γ H80 → va_S (AΓ Γ) H0 H80 locs80 → Kp X Γ [3, 29, 37, 39, 67, 68, 69, 70, 71, 72] H0 H80 → lv_has ls 4 [(3, .int v79), (0, .ref h0), (1, .int p1), (2, .ref h2)] → W p l e (rmL 6) s m args below meth c H80 locs80 0 0 Qz (F0 m 48 ls []) := by
      intro n80
      induction n80 with
      | zero => intro H80 locs80 v79 z79 ls hm80 ev79 iv80_0 iv80_1 iv80_2 iv80_3 iv80_4 iv80_5 iv80_6 iv80_7 iv80_8 iv80_9 iv80_10 hC80 hS80 hKp80 hl; exact absurd hm80 (Nat.not_lt_zero _)
      | succ n80 ih80 =>
        intro H80 locs80 v79 z79 ls hm80 ev79 iv80_0 iv80_1 iv80_2 iv80_3 iv80_4 iv80_5 iv80_6 iv80_7 iv80_8 iv80_9 iv80_10 hC80 hS80 hKp80 hl
        obtain ⟨S, i, f, cu, ys, hgw, hgh, hga, hgi, hgf, hgt⟩ := iv80_2
        have hiN := cu.2.2.2
        have hcuk := cu.kk
        have cu := cu
        have ys := ys
        refine lv_iload_n hx hb dX10_parse_48 rfl (lv_at hl 0 rfl) ?_
        refine lv_sipush (v := 900) hx hb dX10_parse_49 rfl ?_
        refine q_icmp_ge hx hb (a := z79) (b := 900) ev79 (by decide) (tgt := 93) dX10_parse_52 rfl (fun c81 => ?_) (fun c81 => ?_)
        · have hacc : gAcc kd vl 1000 S1 5 := by first | exact hga.mp (by obtain ⟨f2, rfl⟩ : ∃ f2, f = f2 + 1 := ⟨f - 1, by have := cu.2.2.2; omega⟩; exact gAcc_end (by have := cu.kk; omega)) | (exfalso; have q1 := cu.2.2.2; have q2 := cu.2.1.1; omega)
          have hw0 := ys.1.trans hgw; have hh0 := ys.2.1.trans hgh
          have gsy := g2
          have yw : (sI H80 h2 (X.1.2 8 0)).toInt = S1.1 := hw0
          have yh : (sI H80 h2 (X.1.2 8 1)).toInt = S1.2.1 := hh0
          have hfin : gFin kd vl 1000 S1 5 S := by first | exact hgt S (by obtain ⟨f2, rfl⟩ : ∃ f2, f = f2 + 1 := ⟨f - 1, by have := cu.2.2.2; omega⟩; exact gFin_end (by have := cu.kk; omega)) | (exfalso; have q1 := cu.2.2.2; have q2 := cu.2.1.1; omega)
          have yc : (sI H80 h2 (X.1.2 8 2)).toInt = S.2.2.1 := ys.2.2.1
          refine lv_aload_n hx hb dX10_parse_93 rfl (lv_at hl 3 rfl) ?_
          refine q_getS E hC80 g2 fa_RX10_57 (yn.kp g2 hKp80 rfl).wl.1 dX10_parse_94 (fun _ => ?_)
          refine lv_iconst (v := 0) hx hb dX10_parse_97 rfl ?_
          refine lv_aload_n hx hb dX10_parse_98 rfl (lv_at hl 3 rfl) ?_
          refine q_getS E hC80 g2 fa_RX10_60 (yn.kp g2 hKp80 rfl).lw.1 dX10_parse_99 (fun _ => ?_)
          refine lv_iconst (v := 0) hx hb dX10_parse_102 rfl ?_
          refine lv_bipush (v := 36) hx hb dX10_parse_103 rfl ?_
          refine q_copyI E hl.1 w_942 arrw hC80 hS80 gwl glw (by decide) rfl rfl rfl rfl (fun _ => rfl) (fun _ => rfl) (a := 0) (b := 0) (d := 36) (show (0 : Int32).toInt = 0 from by decide) (show (0 : Int32).toInt = 0 from by decide) (show (36 : Int32).toInt = 36 from by decide) (by omega) (by omega) (by omega) (by omega) (by omega) (by decide) (Nat.zero_le _) dX10_parse_105 (fun H82 locs82 hC82 hS82 U82 => ?_)
          obtain ⟨U82, C82⟩ := U82
          have hKp82 := Kp.upC glw rfl (by decide) rfl U82 hKp80
          have m83 : aI H82 us (0) = aI H80 us (0) := aI_cp U82 (nek gus glw (by decide))
          have m84 : aI H82 us (1) = aI H80 us (1) := aI_cp U82 (nek gus glw (by decide))
          have m85 : aI H82 br (0) = aI H80 br (0) := aI_cp U82 (nek gbr glw (by decide))
          have m86 : aI H82 br (1) = aI H80 br (1) := aI_cp U82 (nek gbr glw (by decide))
          have m87 : (sI H82 h2 (X.1.2 8 3)).toInt = (sI H80 h2 (X.1.2 8 3)).toInt := congrArg Int32.toInt (cp_I U82 (nek g2 glw (by decide)))
          have m88 : (sI H82 h2 (X.1.2 8 4)).toInt = (sI H80 h2 (X.1.2 8 4)).toInt := congrArg Int32.toInt (cp_I U82 (nek g2 glw (by decide)))
          have m89 : (sI H82 h2 (X.1.2 8 5)).toInt = (sI H80 h2 (X.1.2 8 5)).toInt := congrArg Int32.toInt (cp_I U82 (nek g2 glw (by decide)))
          have m90 : (sI H82 h2 (X.1.2 8 6)).toInt = (sI H80 h2 (X.1.2 8 6)).toInt := congrArg Int32.toInt (cp_I U82 (nek g2 glw (by decide)))
          have yw : (sI H82 h2 (X.1.2 8 0)).toInt = S1.1 := (congrArg Int32.toInt (cp_I U82 (nek gsy glw (by decide)))).trans yw
          have yh : (sI H82 h2 (X.1.2 8 1)).toInt = S1.2.1 := (congrArg Int32.toInt (cp_I U82 (nek gsy glw (by decide)))).trans yh
          have yc : (sI H82 h2 (X.1.2 8 2)).toInt = S.2.2.1 := (congrArg Int32.toInt (cp_I U82 (nek gsy glw (by decide)))).trans yc
          refine lv_iconst (v := 1) hx hb dX10_parse_108 rfl ?_
          exact ret 1 H82 locs82 _ _ dX10_parse_109 (Or.inr rfl) ⟨hKp82, ⟨Or.inr rfl, ⟨kd, vl, w3, pos, N, htk, ⟨by omega, by omega, by omega, by omega, by omega, by omega, by omega, by omega⟩, Or.inl ⟨rfl, S1.1, S1.2.1, (hyi _ _).mpr ⟨rfl, rfl, hacc⟩, yw, yh, S, by rw [← hSi]; exact hfin, yc⟩⟩⟩⟩ hC82 hS82
        · refine lv_aload_n hx hb dX10_parse_55 rfl (lv_at hl 1 rfl) ?_
          refine q_getU E hC80 g0 fa_RX10_21 ur dX10_parse_56 ?_
          refine q_getI E hC80 gra fa_RX10_46 dX10_parse_59 (fun v91 ev91 _ _ => ?_)
          have m92 : (sI H80 ra (X.1.2 4 9)).toInt = v91.toInt := congrArg Int32.toInt ev91
          refine q_if_eq hx hb (a := v91.toInt) rfl (tgt := 93) dX10_parse_62 rfl (fun c93 => ?_) (fun c93 => ?_)
          · have hacc : gAcc kd vl 1000 S1 5 := by first | exact hga.mp (by obtain ⟨f2, rfl⟩ : ∃ f2, f = f2 + 1 := ⟨f - 1, by have := cu.2.2.2; omega⟩; exact gAcc_end (by have := cu.kk; omega)) | (exfalso; have q1 := cu.2.2.2; have q2 := cu.2.1.1; omega)
            have hw0 := ys.1.trans hgw; have hh0 := ys.2.1.trans hgh
            have gsy := g2
            have yw : (sI H80 h2 (X.1.2 8 0)).toInt = S1.1 := hw0
            have yh : (sI H80 h2 (X.1.2 8 1)).toInt = S1.2.1 := hh0
            have hfin : gFin kd vl 1000 S1 5 S := by first | exact hgt S (by obtain ⟨f2, rfl⟩ : ∃ f2, f = f2 + 1 := ⟨f - 1, by have := cu.2.2.2; omega⟩; exact gFin_end (by have := cu.kk; omega)) | (exfalso; have q1 := cu.2.2.2; have q2 := cu.2.1.1; omega)
            have yc : (sI H80 h2 (X.1.2 8 2)).toInt = S.2.2.1 := ys.2.2.1
            refine lv_aload_n hx hb dX10_parse_93 rfl (lv_at hl 3 rfl) ?_
            refine q_getS E hC80 g2 fa_RX10_57 (yn.kp g2 hKp80 rfl).wl.1 dX10_parse_94 (fun _ => ?_)
            refine lv_iconst (v := 0) hx hb dX10_parse_97 rfl ?_
            refine lv_aload_n hx hb dX10_parse_98 rfl (lv_at hl 3 rfl) ?_
            refine q_getS E hC80 g2 fa_RX10_60 (yn.kp g2 hKp80 rfl).lw.1 dX10_parse_99 (fun _ => ?_)
            refine lv_iconst (v := 0) hx hb dX10_parse_102 rfl ?_
            refine lv_bipush (v := 36) hx hb dX10_parse_103 rfl ?_
            refine q_copyI E hl.1 w_942 arrw hC80 hS80 gwl glw (by decide) rfl rfl rfl rfl (fun _ => rfl) (fun _ => rfl) (a := 0) (b := 0) (d := 36) (show (0 : Int32).toInt = 0 from by decide) (show (0 : Int32).toInt = 0 from by decide) (show (36 : Int32).toInt = 36 from by decide) (by omega) (by omega) (by omega) (by omega) (by omega) (by decide) (Nat.zero_le _) dX10_parse_105 (fun H94 locs94 hC94 hS94 U94 => ?_)
            obtain ⟨U94, C94⟩ := U94
            have hKp94 := Kp.upC glw rfl (by decide) rfl U94 hKp80
            have m95 : aI H94 us (0) = aI H80 us (0) := aI_cp U94 (nek gus glw (by decide))
            have m96 : aI H94 us (1) = aI H80 us (1) := aI_cp U94 (nek gus glw (by decide))
            have m97 : aI H94 br (0) = aI H80 br (0) := aI_cp U94 (nek gbr glw (by decide))
            have m98 : aI H94 br (1) = aI H80 br (1) := aI_cp U94 (nek gbr glw (by decide))
            have m99 : (sI H94 h2 (X.1.2 8 3)).toInt = (sI H80 h2 (X.1.2 8 3)).toInt := congrArg Int32.toInt (cp_I U94 (nek g2 glw (by decide)))
            have m100 : (sI H94 h2 (X.1.2 8 4)).toInt = (sI H80 h2 (X.1.2 8 4)).toInt := congrArg Int32.toInt (cp_I U94 (nek g2 glw (by decide)))
            have m101 : (sI H94 h2 (X.1.2 8 5)).toInt = (sI H80 h2 (X.1.2 8 5)).toInt := congrArg Int32.toInt (cp_I U94 (nek g2 glw (by decide)))
            have m102 : (sI H94 h2 (X.1.2 8 6)).toInt = (sI H80 h2 (X.1.2 8 6)).toInt := congrArg Int32.toInt (cp_I U94 (nek g2 glw (by decide)))
            have yw : (sI H94 h2 (X.1.2 8 0)).toInt = S1.1 := (congrArg Int32.toInt (cp_I U94 (nek gsy glw (by decide)))).trans yw
            have yh : (sI H94 h2 (X.1.2 8 1)).toInt = S1.2.1 := (congrArg Int32.toInt (cp_I U94 (nek gsy glw (by decide)))).trans yh
            have yc : (sI H94 h2 (X.1.2 8 2)).toInt = S.2.2.1 := (congrArg Int32.toInt (cp_I U94 (nek gsy glw (by decide)))).trans yc
            refine lv_iconst (v := 1) hx hb dX10_parse_108 rfl ?_
            exact ret 1 H94 locs94 _ _ dX10_parse_109 (Or.inr rfl) ⟨hKp94, ⟨Or.inr rfl, ⟨kd, vl, w3, pos, N, htk, ⟨by omega, by omega, by omega, by omega, by omega, by omega, by omega, by omega⟩, Or.inl ⟨rfl, S1.1, S1.2.1, (hyi _ _).mpr ⟨rfl, rfl, hacc⟩, yw, yh, S, by rw [← hSi]; exact hfin, yc⟩⟩⟩⟩ hC94 hS94
          · have hk0 : kd i ≠ 0 := by omega
            refine lv_aload_n hx hb dX10_parse_65 rfl (lv_at hl 1 rfl) ?_
            refine lv_aload_n hx hb dX10_parse_66 rfl (lv_at hl 3 rfl) ?_
            refine q_goI (q_runV (As := [.ref h2]) (rest := []) E hC80 hS80 (m_X10_takePart l X Γ H80 hC80 h0 g0 h2 g2 ra gra ur kd vl N (_) S cu ys) cw_X10_takePart cl_RX10_50 g0 ⟨rfl, rfl⟩ rfl hl.1 rfl (Nat.zero_le _) (by decide) dX10_parse_67) hS80 (fun v103 H103 locs103 hr103 hC103 hS103 => ?_)
            obtain ⟨hp103, hr103⟩ := hr103
            have hKp103 := hKp80.tr (hp103.mono rfl)
            have m104 : aI H103 us (0) = aI H80 us (0) := aI_kp hp103 gus rfl rfl
            have m105 : aI H103 us (1) = aI H80 us (1) := aI_kp hp103 gus rfl rfl
            have m106 : aI H103 br (0) = aI H80 br (0) := aI_kp hp103 gbr rfl rfl
            have m107 : aI H103 br (1) = aI H80 br (1) := aI_kp hp103 gbr rfl rfl
            have m108 : (sI H103 h2 (X.1.2 8 3)).toInt = (sI H80 h2 (X.1.2 8 3)).toInt := congrArg Int32.toInt (kp_I hp103 g2 (ci := 8) (k := 3) rfl (by decide) rfl)
            have m109 : (sI H103 h2 (X.1.2 8 4)).toInt = (sI H80 h2 (X.1.2 8 4)).toInt := congrArg Int32.toInt (kp_I hp103 g2 (ci := 8) (k := 4) rfl (by decide) rfl)
            have m110 : (sI H103 h2 (X.1.2 8 5)).toInt = (sI H80 h2 (X.1.2 8 5)).toInt := congrArg Int32.toInt (kp_I hp103 g2 (ci := 8) (k := 5) rfl (by decide) rfl)
            have m111 : (sI H103 h2 (X.1.2 8 6)).toInt = (sI H80 h2 (X.1.2 8 6)).toInt := congrArg Int32.toInt (kp_I hp103 g2 (ci := 8) (k := 6) rfl (by decide) rfl)
            rcases hr103 with ⟨rfl, S1, i1, hg, cu, ys⟩ | ⟨rfl, hg⟩
            · refine q_if_eq hx hb (a := 1) (by decide) (tgt := 85) dX10_parse_70 rfl (fun c112 => absurd c112 (by omega)) (fun c112 => ?_)
              refine lv_aload_n hx hb dX10_parse_73 rfl (lv_at hl 1 rfl) ?_
              refine q_getU E hC103 g0 fa_RX10_21 ur dX10_parse_74 ?_
              refine lv_bipush (v := 59) hx hb dX10_parse_77 rfl ?_
              refine q_goI (q_runV (As := [.int 59]) (rest := []) E hC103 hS103 (m_X4_takeSign l X Γ H103 hC103 ra gra 59 (a1 := 59) (by decide)) cw_X4_takeSign cl_RX10_53 gra ⟨rfl, rfl⟩ rfl hl.1 rfl (Nat.zero_le _) (by decide) dX10_parse_79) hS103 (fun v113 H113 locs113 hr113 hC113 hS113 => ?_)
              obtain ⟨hp113, hr113⟩ := hr113
              have hKp113 := hKp103.tr (hp113.mono rfl)
              have m114 : aI H113 us (0) = aI H103 us (0) := aI_kp hp113 gus rfl rfl
              have m115 : aI H113 us (1) = aI H103 us (1) := aI_kp hp113 gus rfl rfl
              have m116 : aI H113 br (0) = aI H103 br (0) := aI_kp hp113 gbr rfl rfl
              have m117 : aI H113 br (1) = aI H103 br (1) := aI_kp hp113 gbr rfl rfl
              have m118 : (sI H113 h2 (X.1.2 8 3)).toInt = (sI H103 h2 (X.1.2 8 3)).toInt := congrArg Int32.toInt (kp_I hp113 g2 (ci := 8) (k := 3) rfl (by decide) rfl)
              have m119 : (sI H113 h2 (X.1.2 8 4)).toInt = (sI H103 h2 (X.1.2 8 4)).toInt := congrArg Int32.toInt (kp_I hp113 g2 (ci := 8) (k := 4) rfl (by decide) rfl)
              have m120 : (sI H113 h2 (X.1.2 8 5)).toInt = (sI H103 h2 (X.1.2 8 5)).toInt := congrArg Int32.toInt (kp_I hp113 g2 (ci := 8) (k := 5) rfl (by decide) rfl)
              have m121 : (sI H113 h2 (X.1.2 8 6)).toInt = (sI H103 h2 (X.1.2 8 6)).toInt := congrArg Int32.toInt (kp_I hp113 g2 (ci := 8) (k := 6) rfl (by decide) rfl)
              replace ys := ys.kp hp113 gyt gyy rfl
              rcases hr113.2 kd vl N _ cu (by decide) with ⟨rfl, w59, cu⟩ | ⟨rfl, w59⟩
              · refine q_if_ne hx hb (a := 1) (by decide) (tgt := 87) dX10_parse_82 rfl (fun c122 => ?_) (fun c122 => absurd c122 (by omega))
                obtain ⟨v123, ev123⟩ : ∃ z, z = v79 + Int32.ofInt 1 := ⟨_, rfl⟩
                have ev123i : v123.toInt = (z79 + 1) := i_add ev123 ev79 (by decide) (by omega) (by omega)
                refine lv_iinc hx hb dX10_parse_87 hl (k := 0) rfl ev123.symm (by decide) rfl (fun ls hl => ?_)
                replace hl : lv_has ls 4 [(3, .int v123), (0, .ref h0), (1, .int p1), (2, .ref h2)] := hl
                refine lv_goto (tgt := 48) hx hb dX10_parse_90 rfl ?_
                exact ih80 H113 locs113 v123 ((z79 + 1)) ls (ms_lt hm80 (by omega) (by omega)) ev123i (by omega) (by omega) (PIV.step hg hk0 w59 cu ys hgw hgh hga hgi hgf hgt hiN) (by omega) (by omega) (by omega) (by omega) (by omega) (by omega) (by omega) (by omega) hC113 hS113 hKp113 hl
              · have hno : ∀ w h, ¬ gYard kd vl w h := fun w h q => PIV.sign (N := N) hg hk0 w59 hga ((hyi w h).mp q).2.2
                refine q_if_ne hx hb (a := 0) (by decide) (tgt := 87) dX10_parse_82 rfl (fun c124 => absurd c124 (by omega)) (fun c124 => ?_)
                refine lv_iconst (v := 0) hx hb dX10_parse_85 rfl ?_
                exact ret 0 H113 locs113 _ _ dX10_parse_86 (Or.inl rfl) ⟨hKp113, ⟨Or.inl rfl, ⟨kd, vl, w3, pos, N, htk, ⟨by omega, by omega, by omega, by omega, by omega, by omega, by omega, by omega⟩, Or.inr ⟨rfl, hno⟩⟩⟩⟩ hC113 hS113
            · have hno : ∀ w h, ¬ gYard kd vl w h := fun w h q => PIV.part (N := N) hg (by have := cu.kk; omega) hga ((hyi w h).mp q).2.2
              refine q_if_eq hx hb (a := 0) (by decide) (tgt := 85) dX10_parse_70 rfl (fun c125 => ?_) (fun c125 => absurd c125 (by omega))
              refine lv_iconst (v := 0) hx hb dX10_parse_85 rfl ?_
              exact ret 0 H103 locs103 _ _ dX10_parse_86 (Or.inl rfl) ⟨hKp103, ⟨Or.inl rfl, ⟨kd, vl, w3, pos, N, htk, ⟨by omega, by omega, by omega, by omega, by omega, by omega, by omega, by omega⟩, Or.inr ⟨rfl, hno⟩⟩⟩⟩ hC103 hS103
    exact L48 _ H69 locs69 0 0 ls (Nat.lt_succ_self _) (by decide) (by omega) (by omega) (PIV.start cu ys) (by omega) (by omega) (by omega) (by omega) (by omega) (by omega) (by omega) (by omega) hC69 hS69 hKp69 hl
  · have hno : ∀ w h, ¬ gYard kd vl w h := fun w h q => hg w h q.1
    refine q_if_ne hx hb (a := 0) (by decide) (tgt := 46) dX10_parse_41 rfl (fun c126 => absurd c126 (by omega)) (fun c126 => ?_)
    refine lv_iconst (v := 0) hx hb dX10_parse_44 rfl ?_
    exact ret 0 H69 locs69 _ _ dX10_parse_45 (Or.inl rfl) ⟨hKp69, ⟨Or.inl rfl, ⟨kd, vl, w3, pos, N, htk, ⟨by omega, by omega, by omega, by omega, by omega, by omega, by omega, by omega⟩, Or.inr ⟨rfl, hno⟩⟩⟩⟩ hC69 hS69
set_option maxRecDepth 100000 in
set_option maxHeartbeats 4000000 in
theorem m_X2_clear (l : Launch) (X : xW) (Γ : Nat → Option Nat) (H0 : Heap) (hC0 : Conf X Γ H0) (h0 : Nat) (g0 : Γ h0 = some 6) : Ctr l X Γ yX2_clear cX2_clear 1 none 0 [.ref h0] H0 (QV X Γ (fun H1 => Kp X Γ [3, 29, 31, 32, 33, 34, 37, 39, 40, 50, 51, 52, 53, 54, 55, 56, 57, 58, 59, 60, 61, 62, 63, 65, 67, 68, 69, 70, 71, 72] H0 H1)) := by
  refine q_enterV (own := "SnowForts$Orders") (by decide) rfl (Nat.le_of_ble_eq_true rfl) ?_
  intro p e s m args below meth c ls Qz E hl ret hS0
  have hx := E.1; have hb := E.2.1
  have hKp0 : Kp X Γ [3, 29, 31, 32, 33, 34, 37, 39, 40, 50, 51, 52, 53, 54, 55, 56, 57, 58, 59, 60, 61, 62, 63, 65, 67, 68, 69, 70, 71, 72] H0 H0 := Kp.rf
  have hl : lv_has ls 1 [(0, .ref h0)] := hl
  refine lv_aload_n hx hb dX2_clear_0 rfl (lv_at hl 0 rfl) ?_
  refine lv_iconst (v := 0) hx hb dX2_clear_1 rfl ?_
  refine q_put E hC0 hS0 g0 fp_RX2_28 (tv_I (show (0 : Int32).toInt = 0 from by decide) (by omega) (by omega)) (z_of (z01 (show (0 : Int32).toInt = 0 from by decide) (by omega) (by omega))) (fit_B (z01 (show (0 : Int32).toInt = 0 from by decide) (by omega) (by omega))) dX2_clear_2 (fun H21 locs21 hC21 hS21 U21 => ?_)
  have hKp21 := Kp.upO E g0 fp_RX2_28 rfl U21 hKp0
  have e22 := up_I U21
  refine lv_aload_n hx hb dX2_clear_5 rfl (lv_at hl 0 rfl) ?_
  refine lv_iconst (v := 0) hx hb dX2_clear_6 rfl ?_
  refine q_put E hC21 hS21 g0 fp_RX2_32 tv_F rfl rfl dX2_clear_7 (fun H23 locs23 hC23 hS23 U23 => ?_)
  have hKp23 := Kp.upO E g0 fp_RX2_32 rfl U23 hKp21
  have e24 := up_I U23
  refine lv_aload_n hx hb dX2_clear_10 rfl (lv_at hl 0 rfl) ?_
  refine lv_iconst (v := 0) hx hb dX2_clear_11 rfl ?_
  refine q_put E hC23 hS23 g0 fp_RX2_36 tv_F rfl rfl dX2_clear_12 (fun H25 locs25 hC25 hS25 U25 => ?_)
  have hKp25 := Kp.upO E g0 fp_RX2_36 rfl U25 hKp23
  have e26 := up_I U25
  exact ret H25 locs25 _ _ dX2_clear_15 hKp25 hC25 hS25
