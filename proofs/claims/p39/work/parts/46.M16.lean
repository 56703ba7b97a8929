set_option maxRecDepth 100000 in
set_option maxHeartbeats 4000000 in
theorem m_X12_draw (l : Launch) (X : xW) (Γ : Nat → Option Nat) (H0 : Heap) (hC0 : Conf X Γ H0) (h0 : Nat) (g0 : Γ h0 = some 11) (p1 : Int32) {a1 : Int} (e1 : p1.toInt = a1) (ca : Nat) (gca : Γ ca = some 64) (uc : ∀ a, Γ a = some 64 → a = ca) (r0 : 1 ≤ a1) : Ctr l X Γ yX12_draw cX12_draw 2 (some .int) 0 [.ref h0, .int p1] H0 (QI X Γ (fun v H1 => Kp X Γ [1, 6, 7, 8, 9, 10, 11, 12, 14, 15, 16, 17, 19, 22, 24, 26, 28] H0 H1 ∧ ((0 ≤ v.toInt) ∧ (v.toInt < a1)))) := by
  refine q_enterI (own := "SnowFortsModel") (by decide) rfl (Nat.le_of_ble_eq_true rfl) ?_
  intro p e s m args below meth c ls Qz E hl ret hS0
  have hx := E.1; have hb := E.2.1
  have hKp0 : Kp X Γ [1, 6, 7, 8, 9, 10, 11, 12, 14, 15, 16, 17, 19, 22, 24, 26, 28] H0 H0 := Kp.rf
  have hl : lv_has ls 2 [(0, .ref h0), (1, .int p1)] := hl
  refine lv_aload_n hx hb dX12_draw_0 rfl (lv_at hl 0 rfl) ?_
  refine lv_aload_n hx hb dX12_draw_1 rfl (lv_at hl 0 rfl) ?_
  refine q_getI E hC0 g0 fa_RX12_437 dX12_draw_2 (fun v21 ev21 lv21 uv21 => ?_)
  refine lv_sipush (v := 2741) hx hb dX12_draw_5 rfl ?_
  refine lv_imul hx hb dX12_draw_8 (lv_topi (fun v22 ev22 => ?_))
  have ev22i : v22.toInt = (v21.toInt * 2741) := i_mul ev22 rfl (by decide) (by omega) (by omega)
  refine lv_sipush (v := 9337) hx hb dX12_draw_9 rfl ?_
  refine lv_iadd hx hb dX12_draw_12 (lv_topi (fun v23 ev23 => ?_))
  have ev23i : v23.toInt = ((v21.toInt * 2741) + 9337) := i_add ev23 ev22i (by decide) (by omega) (by omega)
  refine lv_ldcw (v := 65536) hx hb E.2.2.2.1 (E.2.2.2.2.1 _ w_1975) dX12_draw_13 ?_
  refine lv_irem hx hb dX12_draw_16 (by decide) (lv_topi (fun v24 ev24 => ?_))
  have ev24i : v24.toInt = (((v21.toInt * 2741) + 9337) % 65536) := i_rem ev24 ev23i (by decide) (by omega) (by decide)
  refine q_put E hC0 hS0 g0 fp_RX12_437 (tv_I ev24i (by omega) (by omega)) rfl rfl dX12_draw_17 (fun H25 locs25 hC25 hS25 U25 => ?_)
  have hKp25 := Kp.upO E g0 fp_RX12_437 rfl U25 hKp0
  have e26 := up_I U25
  refine lv_aload_n hx hb dX12_draw_20 rfl (lv_at hl 0 rfl) ?_
  refine q_getI E hC25 g0 fa_RX12_437 dX12_draw_21 (fun v27 ev27 lv27 uv27 => ?_)
  have qv27 := e26.symm.trans ev27; subst qv27
  refine lv_bipush (v := 8) hx hb dX12_draw_24 rfl ?_
  refine lv_idiv hx hb dX12_draw_26 (by decide) (lv_topi (fun v28 ev28 => ?_))
  have ev28i : v28.toInt = ((((v21.toInt * 2741) + 9337) % 65536) / 8) := i_div ev28 ev24i (by decide) (by omega) (by decide)
  refine lv_iload_n hx hb dX12_draw_27 rfl (lv_at hl 1 rfl) ?_
  refine lv_irem hx hb dX12_draw_28 (i_nz e1 (by omega)) (lv_topi (fun v29 ev29 => ?_))
  have ev29b : 0 ≤ v29.toInt ∧ v29.toInt < a1 := by rw [i_rem ev29 ev28i e1 (by omega) (by omega)]; exact ⟨Int.emod_nonneg _ (by omega), Int.emod_lt_of_pos _ (by omega)⟩
  have c30 : v29.toInt = v29.toInt := rfl
  exact ret v29 H25 locs25 _ _ dX12_draw_29 ⟨hKp25, ⟨by omega, by omega⟩⟩ hC25 hS25
set_option maxRecDepth 100000 in
set_option maxHeartbeats 4000000 in
theorem m_X12_does (l : Launch) (X : xW) (Γ : Nat → Option Nat) (H0 : Heap) (hC0 : Conf X Γ H0) (h0 : Nat) (g0 : Γ h0 = some 11) (p1 : Int32) {a1 : Int} (e1 : p1.toInt = a1) (ca : Nat) (gca : Γ ca = some 64) (uc : ∀ a, Γ a = some 64 → a = ca) (hu0 : UH H0 ca) (hsw0 : SW H0 ca 0) (sx : Int) (r0 : a1 = 244 + 9 * sx) (r1 : 0 ≤ sx) (r2 : sx < (sI H0 ca (243 : Int).toNat).toInt) : Ctr l X Γ yX12_does cX12_does 4 (some .boolean) 3 [.ref h0, .int p1] H0 (QI X Γ (fun v H1 => (Kp X Γ [1, 6, 7, 8, 9, 10, 11, 12, 14, 17, 19, 22, 24, 26, 28] H0 H1 ∧ UH H1 ca) ∧ (v = 0 ∨ v = 1))) := by
  refine q_enterZ (own := "SnowFortsModel") (by decide) rfl (Nat.le_of_ble_eq_true rfl) ?_
  intro p e s m args below meth c ls Qz E hl ret hS0
  have hx := E.1; have hb := E.2.1
  have hKp0 : Kp X Γ [1, 6, 7, 8, 9, 10, 11, 12, 14, 17, 19, 22, 24, 26, 28] H0 H0 := Kp.rf
  have hl : lv_has ls 4 [(0, .ref h0), (1, .int p1)] := hl
  obtain ⟨v21, ev21⟩ : ∃ z, sI H0 ca (a1 : Int).toNat = z := ⟨_, rfl⟩
  have m22 : (sI H0 ca (a1 : Int).toNat).toInt = v21.toInt := congrArg Int32.toInt ev21
  have hn0 := c243 hC0 gca
  have hst := SW.get hsw0 (s := sx) (w := a1) (by omega) (by omega) (by omega)
  unfold stp at hst
  have hk0 := okS.kind hst
  refine lv_aload_n hx hb dX12_does_0 rfl (lv_at hl 0 rfl) ?_
  refine q_getC E hC0 g0 fa_RX12_35 uc dX12_does_1 ?_
  refine lv_iload_n hx hb dX12_does_4 rfl (lv_at hl 1 rfl) ?_
  refine q_cald E hC0 (lo := -2147483648) (hi := 2147483647) gca (a := a1) e1 (by omega) (by omega) (cr_c244 (by omega) (by omega)) dX12_does_5 (fun v23 ev23 _ _ => ?_)
  have qv23 := ev21.symm.trans ev23; subst qv23
  refine lv_istore_n hx hb dX12_does_6 rfl hl (by decide) rfl (fun ls hl => ?_)
  replace hl : lv_has ls 4 [(2, .int v21), (0, .ref h0), (1, .int p1)] := hl
  refine lv_iload_n hx hb dX12_does_7 rfl (lv_at hl 0 rfl) ?_
  refine q_if_ne hx hb (a := v21.toInt) rfl (tgt := 27) dX12_does_8 rfl (fun c24 => ?_) (fun c24 => ?_)
  · refine lv_iload_n hx hb dX12_does_27 rfl (lv_at hl 0 rfl) ?_
    refine lv_iconst (v := 1) hx hb dX12_does_28 rfl ?_
    refine q_icmp_ne hx hb (a := v21.toInt) (b := 1) rfl (by decide) (tgt := 48) dX12_does_29 rfl (fun c25 => ?_) (fun c25 => ?_)
    · refine lv_iload_n hx hb dX12_does_48 rfl (lv_at hl 0 rfl) ?_
      refine lv_iconst (v := 2) hx hb dX12_does_49 rfl ?_
      refine q_icmp_ne hx hb (a := v21.toInt) (b := 2) rfl (by decide) (tgt := 93) dX12_does_50 rfl (fun c26 => ?_) (fun c26 => ?_)
      · refine lv_iload_n hx hb dX12_does_93 rfl (lv_at hl 0 rfl) ?_
        refine lv_iconst (v := 3) hx hb dX12_does_94 rfl ?_
        refine q_icmp_ne hx hb (a := v21.toInt) (b := 3) rfl (by decide) (tgt := 139) dX12_does_95 rfl (fun c27 => ?_) (fun c27 => ?_)
        · refine lv_iload_n hx hb dX12_does_139 rfl (lv_at hl 0 rfl) ?_
          refine lv_iconst (v := 4) hx hb dX12_does_140 rfl ?_
          refine q_icmp_ne hx hb (a := v21.toInt) (b := 4) rfl (by decide) (tgt := 157) dX12_does_141 rfl (fun c28 => ?_) (fun c28 => ?_)
          · refine lv_iload_n hx hb dX12_does_157 rfl (lv_at hl 0 rfl) ?_
            refine lv_iconst (v := 5) hx hb dX12_does_158 rfl ?_
            refine q_icmp_ne hx hb (a := v21.toInt) (b := 5) rfl (by decide) (tgt := 199) dX12_does_159 rfl (fun c29 => ?_) (fun c29 => ?_)
            · refine lv_aload_n hx hb dX12_does_199 rfl (lv_at hl 1 rfl) ?_
              refine q_goI (q_runV (As := []) (rest := []) E hC0 hS0 (m_X12_nights l X Γ H0 hC0 h0 g0 ca gca uc hu0) cw_X12_nights cl_RX12_349 g0 ⟨rfl, rfl⟩ rfl hl.1 rfl (Nat.zero_le _) (by decide) dX12_does_200) hS0 (fun v30 H30 locs30 hr30 hC30 hS30 => ?_)
              obtain ⟨hp30, hr30⟩ := hr30
              obtain ⟨hp30p, hU30⟩ := hp30
              have hKp30 := hKp0.tr (hp30p.mono rfl)
              rcases hr30 with rfl | rfl
              · exact ret 0 H30 locs30 _ _ dX12_does_203 (Or.inl rfl) ⟨⟨hKp30, hU30⟩, Or.inl rfl⟩ hC30 hS30
              · exact ret 1 H30 locs30 _ _ dX12_does_203 (Or.inr rfl) ⟨⟨hKp30, hU30⟩, Or.inr rfl⟩ hC30 hS30
            · obtain ⟨v31, ev31⟩ : ∃ z, sI H0 ca ((a1 + 1) : Int).toNat = z := ⟨_, rfl⟩
              have m32 : (sI H0 ca ((a1 + 1) : Int).toNat).toInt = v31.toInt := congrArg Int32.toInt ev31
              obtain ⟨v33, ev33⟩ : ∃ z, sI H0 ca ((a1 + 2) : Int).toNat = z := ⟨_, rfl⟩
              have m34 : (sI H0 ca ((a1 + 2) : Int).toNat).toInt = v33.toInt := congrArg Int32.toInt ev33
              obtain ⟨v35, ev35⟩ : ∃ z, sI H0 ca ((a1 + 3) : Int).toNat = z := ⟨_, rfl⟩
              have m36 : (sI H0 ca ((a1 + 3) : Int).toNat).toInt = v35.toInt := congrArg Int32.toInt ev35
              have hs3 := okS.k3 hst (by omega)
              have hs5 := okS.k5 hst (by omega)
              refine lv_aload_n hx hb dX12_does_162 rfl (lv_at hl 1 rfl) ?_
              refine lv_aload_n hx hb dX12_does_163 rfl (lv_at hl 1 rfl) ?_
              refine q_getC E hC0 g0 fa_RX12_35 uc dX12_does_164 ?_
              refine lv_iload_n hx hb dX12_does_167 rfl (lv_at hl 2 rfl) ?_
              refine lv_iconst (v := 1) hx hb dX12_does_168 rfl ?_
              refine lv_iadd hx hb dX12_does_169 (lv_topi (fun v37 ev37 => ?_))
              have ev37i : v37.toInt = (a1 + 1) := i_add ev37 e1 (by decide) (by omega) (by omega)
              refine q_cald E hC0 (lo := -2147483648) (hi := 2147483647) gca (a := (a1 + 1)) ev37i (by omega) (by omega) (cr_c244 (by omega) (by omega)) dX12_does_170 (fun v38 ev38 _ _ => ?_)
              have qv38 := ev31.symm.trans ev38; subst qv38
              refine lv_aload_n hx hb dX12_does_171 rfl (lv_at hl 1 rfl) ?_
              refine q_getC E hC0 g0 fa_RX12_35 uc dX12_does_172 ?_
              refine lv_iload_n hx hb dX12_does_175 rfl (lv_at hl 2 rfl) ?_
              refine lv_iconst (v := 2) hx hb dX12_does_176 rfl ?_
              refine lv_iadd hx hb dX12_does_177 (lv_topi (fun v39 ev39 => ?_))
              have ev39i : v39.toInt = (a1 + 2) := i_add ev39 e1 (by decide) (by omega) (by omega)
              refine q_cald E hC0 (lo := -2147483648) (hi := 2147483647) gca (a := (a1 + 2)) ev39i (by omega) (by omega) (cr_c244 (by omega) (by omega)) dX12_does_178 (fun v40 ev40 _ _ => ?_)
              have qv40 := ev33.symm.trans ev40; subst qv40
              refine lv_aload_n hx hb dX12_does_179 rfl (lv_at hl 1 rfl) ?_
              refine q_getC E hC0 g0 fa_RX12_35 uc dX12_does_180 ?_
              refine lv_iload_n hx hb dX12_does_183 rfl (lv_at hl 2 rfl) ?_
              refine lv_iconst (v := 3) hx hb dX12_does_184 rfl ?_
              refine lv_iadd hx hb dX12_does_185 (lv_topi (fun v41 ev41 => ?_))
              have ev41i : v41.toInt = (a1 + 3) := i_add ev41 e1 (by decide) (by omega) (by omega)
              refine q_cald E hC0 (lo := -2147483648) (hi := 2147483647) gca (a := (a1 + 3)) ev41i (by omega) (by omega) (cr_c244 (by omega) (by omega)) dX12_does_186 (fun v42 ev42 _ _ => ?_)
              have qv42 := ev35.symm.trans ev42; subst qv42
              refine q_goI (q_runV (As := [.int v31, .int v33, .int v35]) (rest := []) E hC0 hS0 (m_X12_steals l X Γ H0 hC0 h0 g0 v31 (a1 := v31.toInt) rfl v33 (a2 := v33.toInt) rfl v35 (a3 := v35.toInt) rfl ca gca uc hu0 (by omega) (by omega) (by omega) (by omega) (by omega)) cw_X12_steals cl_RX12_345 g0 ⟨rfl, rfl⟩ rfl hl.1 rfl (Nat.zero_le _) (by decide) dX12_does_187) hS0 (fun v43 H43 locs43 hr43 hC43 hS43 => ?_)
              obtain ⟨hp43, hr43⟩ := hr43
              obtain ⟨hp43p, hU43⟩ := hp43
              have hKp43 := hKp0.tr (hp43p.mono rfl)
              refine q_if_le hx hb (a := v43.toInt) rfl (tgt := 197) dX12_does_190 rfl (fun c44 => ?_) (fun c44 => ?_)
              · refine lv_iconst (v := 0) hx hb dX12_does_197 rfl ?_
                exact ret 0 H43 locs43 _ _ dX12_does_198 (Or.inl rfl) ⟨⟨hKp43, hU43⟩, Or.inl rfl⟩ hC43 hS43
              · refine lv_iconst (v := 1) hx hb dX12_does_193 rfl ?_
                refine lv_goto (tgt := 198) hx hb dX12_does_194 rfl ?_
                exact ret 1 H43 locs43 _ _ dX12_does_198 (Or.inr rfl) ⟨⟨hKp43, hU43⟩, Or.inr rfl⟩ hC43 hS43
          · obtain ⟨v45, ev45⟩ : ∃ z, sI H0 ca ((a1 + 1) : Int).toNat = z := ⟨_, rfl⟩
            have m46 : (sI H0 ca ((a1 + 1) : Int).toNat).toInt = v45.toInt := congrArg Int32.toInt ev45
            have hs3 := okS.k3 hst (by omega)
            refine lv_aload_n hx hb dX12_does_144 rfl (lv_at hl 1 rfl) ?_
            refine lv_aload_n hx hb dX12_does_145 rfl (lv_at hl 1 rfl) ?_
            refine q_getC E hC0 g0 fa_RX12_35 uc dX12_does_146 ?_
            refine lv_iload_n hx hb dX12_does_149 rfl (lv_at hl 2 rfl) ?_
            refine lv_iconst (v := 1) hx hb dX12_does_150 rfl ?_
            refine lv_iadd hx hb dX12_does_151 (lv_topi (fun v47 ev47 => ?_))
            have ev47i : v47.toInt = (a1 + 1) := i_add ev47 e1 (by decide) (by omega) (by omega)
            refine q_cald E hC0 (lo := -2147483648) (hi := 2147483647) gca (a := (a1 + 1)) ev47i (by omega) (by omega) (cr_c244 (by omega) (by omega)) dX12_does_152 (fun v48 ev48 _ _ => ?_)
            have qv48 := ev45.symm.trans ev48; subst qv48
            refine q_goI (q_runV (As := [.int v45]) (rest := []) E hC0 hS0 (m_X12_ices l X Γ H0 hC0 h0 g0 v45 (a1 := v45.toInt) rfl ca gca uc hu0 (by omega) (by omega)) cw_X12_ices cl_RX12_342 g0 ⟨rfl, rfl⟩ rfl hl.1 rfl (Nat.zero_le _) (by decide) dX12_does_153) hS0 (fun v49 H49 locs49 hr49 hC49 hS49 => ?_)
            obtain ⟨hp49, hr49⟩ := hr49
            obtain ⟨hp49p, hU49⟩ := hp49
            have hKp49 := hKp0.tr (hp49p.mono rfl)
            rcases hr49 with rfl | rfl
            · exact ret 0 H49 locs49 _ _ dX12_does_156 (Or.inl rfl) ⟨⟨hKp49, hU49⟩, Or.inl rfl⟩ hC49 hS49
            · exact ret 1 H49 locs49 _ _ dX12_does_156 (Or.inr rfl) ⟨⟨hKp49, hU49⟩, Or.inr rfl⟩ hC49 hS49
        · obtain ⟨v50, ev50⟩ : ∃ z, sI H0 ca ((a1 + 1) : Int).toNat = z := ⟨_, rfl⟩
          have m51 : (sI H0 ca ((a1 + 1) : Int).toNat).toInt = v50.toInt := congrArg Int32.toInt ev50
          have hs3 := okS.k3 hst (by omega)
          refine lv_aload_n hx hb dX12_does_98 rfl (lv_at hl 1 rfl) ?_
          refine lv_aload_n hx hb dX12_does_99 rfl (lv_at hl 1 rfl) ?_
          refine q_getC E hC0 g0 fa_RX12_35 uc dX12_does_100 ?_
          refine lv_iload_n hx hb dX12_does_103 rfl (lv_at hl 2 rfl) ?_
          refine lv_iconst (v := 1) hx hb dX12_does_104 rfl ?_
          refine lv_iadd hx hb dX12_does_105 (lv_topi (fun v52 ev52 => ?_))
          have ev52i : v52.toInt = (a1 + 1) := i_add ev52 e1 (by decide) (by omega) (by omega)
          refine q_cald E hC0 (lo := -2147483648) (hi := 2147483647) gca (a := (a1 + 1)) ev52i (by omega) (by omega) (cr_c244 (by omega) (by omega)) dX12_does_106 (fun v53 ev53 _ _ => ?_)
          have qv53 := ev50.symm.trans ev53; subst qv53
          refine lv_aload_n hx hb dX12_does_107 rfl (lv_at hl 1 rfl) ?_
          refine q_getC E hC0 g0 fa_RX12_35 uc dX12_does_108 ?_
          refine lv_iload_n hx hb dX12_does_111 rfl (lv_at hl 2 rfl) ?_
          refine lv_iconst (v := 2) hx hb dX12_does_112 rfl ?_
          refine lv_iadd hx hb dX12_does_113 (lv_topi (fun v54 ev54 => ?_))
          have ev54i : v54.toInt = (a1 + 2) := i_add ev54 e1 (by decide) (by omega) (by omega)
          refine q_cald E hC0 (lo := -2147483648) (hi := 2147483647) gca (a := (a1 + 2)) ev54i (by omega) (by omega) (cr_c244 (by omega) (by omega)) dX12_does_114 (fun v55 ev55 _ _ => ?_)
          have m56 : (sI H0 ca ((a1 + 2) : Int).toNat).toInt = v55.toInt := congrArg Int32.toInt ev55
          refine q_goI (q_runV (As := [.int v50, .int v55]) (rest := []) E hC0 hS0 (m_X12_builds l X Γ H0 hC0 h0 g0 v50 (a1 := v50.toInt) rfl v55 (a2 := v55.toInt) rfl ca gca uc hu0 (by omega) (by omega)) cw_X12_builds cl_RX12_339 g0 ⟨rfl, rfl⟩ rfl hl.1 rfl (Nat.zero_le _) (by decide) dX12_does_115) hS0 (fun v57 H57 locs57 hr57 hC57 hS57 => ?_)
          obtain ⟨hp57, hr57⟩ := hr57
          obtain ⟨hp57p, hU57⟩ := hp57
          have hKp57 := hKp0.tr (hp57p.mono rfl)
          refine lv_istore_n hx hb dX12_does_118 rfl hl (by decide) rfl (fun ls hl => ?_)
          replace hl : lv_has ls 4 [(3, .int v57), (2, .int v21), (0, .ref h0), (1, .int p1)] := hl
          refine lv_aload_n hx hb dX12_does_119 rfl (lv_at hl 2 rfl) ?_
          refine lv_dup hx hb dX12_does_120 rfl ?_
          refine q_getI E hC57 g0 fa_RX12_444 dX12_does_121 (fun v58 ev58 _ _ => ?_)
          refine lv_iload_n hx hb dX12_does_124 rfl (lv_at hl 0 rfl) ?_
          refine lv_iadd hx hb dX12_does_125 (lv_topi (fun v59 ev59 => ?_))
          refine q_put E hC57 hS57 g0 fp_RX12_444 tv_F rfl rfl dX12_does_126 (fun H60 locs60 hC60 hS60 U60 => ?_)
          have hKp60 := Kp.upO E g0 fp_RX12_444 rfl U60 hKp57
          have e61 := up_I U60
          have hU60 := UH.ne hU57 U60 (Or.inl (nek g0 gca (by decide)))
          refine lv_iload_n hx hb dX12_does_129 rfl (lv_at hl 0 rfl) ?_
          refine q_if_le hx hb (a := v57.toInt) rfl (tgt := 137) dX12_does_130 rfl (fun c62 => ?_) (fun c62 => ?_)
          · refine lv_iconst (v := 0) hx hb dX12_does_137 rfl ?_
            exact ret 0 H60 locs60 _ _ dX12_does_138 (Or.inl rfl) ⟨⟨hKp60, hU60⟩, Or.inl rfl⟩ hC60 hS60
          · refine lv_iconst (v := 1) hx hb dX12_does_133 rfl ?_
            refine lv_goto (tgt := 138) hx hb dX12_does_134 rfl ?_
            exact ret 1 H60 locs60 _ _ dX12_does_138 (Or.inr rfl) ⟨⟨hKp60, hU60⟩, Or.inr rfl⟩ hC60 hS60
      · obtain ⟨v63, ev63⟩ : ∃ z, sI H0 ca ((a1 + 1) : Int).toNat = z := ⟨_, rfl⟩
        have m64 : (sI H0 ca ((a1 + 1) : Int).toNat).toInt = v63.toInt := congrArg Int32.toInt ev63
        obtain ⟨v65, ev65⟩ : ∃ z, sI H0 ca ((a1 + 2) : Int).toNat = z := ⟨_, rfl⟩
        have m66 : (sI H0 ca ((a1 + 2) : Int).toNat).toInt = v65.toInt := congrArg Int32.toInt ev65
        have hs2 := okS.k2 hst (by omega)
        refine lv_aload_n hx hb dX12_does_53 rfl (lv_at hl 1 rfl) ?_
        refine lv_aload_n hx hb dX12_does_54 rfl (lv_at hl 1 rfl) ?_
        refine q_getC E hC0 g0 fa_RX12_35 uc dX12_does_55 ?_
        refine lv_iload_n hx hb dX12_does_58 rfl (lv_at hl 2 rfl) ?_
        refine lv_iconst (v := 1) hx hb dX12_does_59 rfl ?_
        refine lv_iadd hx hb dX12_does_60 (lv_topi (fun v67 ev67 => ?_))
        have ev67i : v67.toInt = (a1 + 1) := i_add ev67 e1 (by decide) (by omega) (by omega)
        refine q_cald E hC0 (lo := -2147483648) (hi := 2147483647) gca (a := (a1 + 1)) ev67i (by omega) (by omega) (cr_c244 (by omega) (by omega)) dX12_does_61 (fun v68 ev68 _ _ => ?_)
        have qv68 := ev63.symm.trans ev68; subst qv68
        refine lv_aload_n hx hb dX12_does_62 rfl (lv_at hl 1 rfl) ?_
        refine lv_aload_n hx hb dX12_does_63 rfl (lv_at hl 1 rfl) ?_
        refine q_getC E hC0 g0 fa_RX12_35 uc dX12_does_64 ?_
        refine lv_iload_n hx hb dX12_does_67 rfl (lv_at hl 2 rfl) ?_
        refine lv_iconst (v := 2) hx hb dX12_does_68 rfl ?_
        refine lv_iadd hx hb dX12_does_69 (lv_topi (fun v69 ev69 => ?_))
        have ev69i : v69.toInt = (a1 + 2) := i_add ev69 e1 (by decide) (by omega) (by omega)
        refine q_cald E hC0 (lo := -2147483648) (hi := 2147483647) gca (a := (a1 + 2)) ev69i (by omega) (by omega) (cr_c244 (by omega) (by omega)) dX12_does_70 (fun v70 ev70 _ _ => ?_)
        have qv70 := ev65.symm.trans ev70; subst qv70
        refine lv_aload_n hx hb dX12_does_71 rfl (lv_at hl 1 rfl) ?_
        refine q_getC E hC0 g0 fa_RX12_35 uc dX12_does_72 ?_
        refine lv_iload_n hx hb dX12_does_75 rfl (lv_at hl 2 rfl) ?_
        refine lv_iconst (v := 1) hx hb dX12_does_76 rfl ?_
        refine lv_iadd hx hb dX12_does_77 (lv_topi (fun v71 ev71 => ?_))
        have ev71i : v71.toInt = (a1 + 1) := i_add ev71 e1 (by decide) (by omega) (by omega)
        refine q_cald E hC0 (lo := -2147483648) (hi := 2147483647) gca (a := (a1 + 1)) ev71i (by omega) (by omega) (cr_c244 (by omega) (by omega)) dX12_does_78 (fun v72 ev72 _ _ => ?_)
        have qv72 := ev63.symm.trans ev72; subst qv72
        refine lv_isub hx hb dX12_does_79 (lv_topi (fun v73 ev73 => ?_))
        have ev73i : v73.toInt = (v65.toInt - v63.toInt) := i_sub ev73 rfl rfl (by omega) (by omega)
        refine lv_iconst (v := 1) hx hb dX12_does_80 rfl ?_
        refine lv_iadd hx hb dX12_does_81 (lv_topi (fun v74 ev74 => ?_))
        have ev74i : v74.toInt = ((v65.toInt - v63.toInt) + 1) := i_add ev74 ev73i (by decide) (by omega) (by omega)
        refine q_goI (q_runV (As := [.int v74]) (rest := [.int v63, .ref h0]) E hC0 hS0 (m_X12_draw l X Γ H0 hC0 h0 g0 v74 (a1 := ((v65.toInt - v63.toInt) + 1)) ev74i ca gca uc (by omega)) cw_X12_draw cl_RX12_441 g0 ⟨rfl, rfl⟩ rfl hl.1 rfl (show _ ≤ _ from by simp [Value.category]) (by decide) dX12_does_82) hS0 (fun v75 H75 locs75 hr75 hC75 hS75 => ?_)
        obtain ⟨hp75, hr75⟩ := hr75
        have hU75 := UH.kp hu0 hp75 gca rfl rfl
        have hKp75 := hKp0.tr (hp75.mono rfl)
        obtain ⟨f75_0, f75_1⟩ := hr75
        refine lv_iadd hx hb dX12_does_85 (lv_topi (fun v76 ev76 => ?_))
        have ev76i : v76.toInt = (v63.toInt + v75.toInt) := i_add ev76 rfl rfl (by omega) (by omega)
        refine q_goI (q_runV (As := [.int v76]) (rest := []) E hC75 hS75 (m_X12_falls l X Γ H75 hC75 h0 g0 v76 (a1 := (v63.toInt + v75.toInt)) ev76i ca gca uc (by omega) (by omega)) cw_X12_falls cl_RX12_317 g0 ⟨rfl, rfl⟩ rfl hl.1 rfl (Nat.zero_le _) (by decide) dX12_does_86) hS75 (fun v77 H77 locs77 hr77 hC77 hS77 => ?_)
        obtain ⟨hp77, hr77⟩ := hr77
        have hU77 := UH.kp hU75 hp77 gca rfl rfl
        have hKp77 := hKp75.tr (hp77.mono rfl)
        refine lv_pop hx hb dX12_does_89 rfl ?_
        refine lv_goto (tgt := 204) hx hb dX12_does_90 rfl ?_
        refine lv_iconst (v := 1) hx hb dX12_does_204 rfl ?_
        exact ret 1 H77 locs77 _ _ dX12_does_205 (Or.inr rfl) ⟨⟨hKp77, hU77⟩, Or.inr rfl⟩ hC77 hS77
    · obtain ⟨v78, ev78⟩ : ∃ z, sI H0 ca ((a1 + 1) : Int).toNat = z := ⟨_, rfl⟩
      have m79 : (sI H0 ca ((a1 + 1) : Int).toNat).toInt = v78.toInt := congrArg Int32.toInt ev78
      have hs1 := okS.k1 hst (by omega)
      refine lv_aload_n hx hb dX12_does_32 rfl (lv_at hl 1 rfl) ?_
      refine lv_aload_n hx hb dX12_does_33 rfl (lv_at hl 1 rfl) ?_
      refine q_getC E hC0 g0 fa_RX12_35 uc dX12_does_34 ?_
      refine lv_iload_n hx hb dX12_does_37 rfl (lv_at hl 2 rfl) ?_
      refine lv_iconst (v := 1) hx hb dX12_does_38 rfl ?_
      refine lv_iadd hx hb dX12_does_39 (lv_topi (fun v80 ev80 => ?_))
      have ev80i : v80.toInt = (a1 + 1) := i_add ev80 e1 (by decide) (by omega) (by omega)
      refine q_cald E hC0 (lo := -2147483648) (hi := 2147483647) gca (a := (a1 + 1)) ev80i (by omega) (by omega) (cr_c244 (by omega) (by omega)) dX12_does_40 (fun v81 ev81 _ _ => ?_)
      have qv81 := ev78.symm.trans ev81; subst qv81
      refine q_goI (q_runV (As := [.int v78]) (rest := []) E hC0 hS0 (m_X12_thaws l X Γ H0 hC0 h0 g0 v78 (a1 := v78.toInt) rfl ca gca uc (by omega) (by omega)) cw_X12_thaws cl_RX12_323 g0 ⟨rfl, rfl⟩ rfl hl.1 rfl (Nat.zero_le _) (by decide) dX12_does_41) hS0 (fun v82 H82 locs82 hr82 hC82 hS82 => ?_)
      obtain ⟨hp82, hr82⟩ := hr82
      have hU82 := UH.kp hu0 hp82 gca rfl rfl
      have hKp82 := hKp0.tr (hp82.mono rfl)
      refine lv_pop hx hb dX12_does_44 rfl ?_
      refine lv_goto (tgt := 204) hx hb dX12_does_45 rfl ?_
      refine lv_iconst (v := 1) hx hb dX12_does_204 rfl ?_
      exact ret 1 H82 locs82 _ _ dX12_does_205 (Or.inr rfl) ⟨⟨hKp82, hU82⟩, Or.inr rfl⟩ hC82 hS82
  · obtain ⟨v83, ev83⟩ : ∃ z, sI H0 ca ((a1 + 1) : Int).toNat = z := ⟨_, rfl⟩
    have m84 : (sI H0 ca ((a1 + 1) : Int).toNat).toInt = v83.toInt := congrArg Int32.toInt ev83
    have hs1 := okS.k1 hst (by omega)
    refine lv_aload_n hx hb dX12_does_11 rfl (lv_at hl 1 rfl) ?_
    refine lv_aload_n hx hb dX12_does_12 rfl (lv_at hl 1 rfl) ?_
    refine q_getC E hC0 g0 fa_RX12_35 uc dX12_does_13 ?_
    refine lv_iload_n hx hb dX12_does_16 rfl (lv_at hl 2 rfl) ?_
    refine lv_iconst (v := 1) hx hb dX12_does_17 rfl ?_
    refine lv_iadd hx hb dX12_does_18 (lv_topi (fun v85 ev85 => ?_))
    have ev85i : v85.toInt = (a1 + 1) := i_add ev85 e1 (by decide) (by omega) (by omega)
    refine q_cald E hC0 (lo := -2147483648) (hi := 2147483647) gca (a := (a1 + 1)) ev85i (by omega) (by omega) (cr_c244 (by omega) (by omega)) dX12_does_19 (fun v86 ev86 _ _ => ?_)
    have qv86 := ev83.symm.trans ev86; subst qv86
    refine q_goI (q_runV (As := [.int v83]) (rest := []) E hC0 hS0 (m_X12_falls l X Γ H0 hC0 h0 g0 v83 (a1 := v83.toInt) rfl ca gca uc (by omega) (by omega)) cw_X12_falls cl_RX12_317 g0 ⟨rfl, rfl⟩ rfl hl.1 rfl (Nat.zero_le _) (by decide) dX12_does_20) hS0 (fun v87 H87 locs87 hr87 hC87 hS87 => ?_)
    obtain ⟨hp87, hr87⟩ := hr87
    have hU87 := UH.kp hu0 hp87 gca rfl rfl
    have hKp87 := hKp0.tr (hp87.mono rfl)
    refine lv_pop hx hb dX12_does_23 rfl ?_
    refine lv_goto (tgt := 204) hx hb dX12_does_24 rfl ?_
    refine lv_iconst (v := 1) hx hb dX12_does_204 rfl ?_
    exact ret 1 H87 locs87 _ _ dX12_does_205 (Or.inr rfl) ⟨⟨hKp87, hU87⟩, Or.inr rfl⟩ hC87 hS87
set_option maxRecDepth 100000 in
set_option maxHeartbeats 4000000 in
theorem m_X12_isSo (l : Launch) (X : xW) (Γ : Nat → Option Nat) (H0 : Heap) (hC0 : Conf X Γ H0) (h0 : Nat) (g0 : Γ h0 = some 11) (p1 : Int32) {a1 : Int} (e1 : p1.toInt = a1) (ca : Nat) (gca : Γ ca = some 64) (uc : ∀ a, Γ a = some 64 → a = ca) (oa : Nat) (goa : Γ oa = some 68) (uo : ∀ a, Γ a = some 68 → a = oa) (hsw0 : SW H0 ca 0) (sx : Int) (r0 : a1 = 244 + 9 * sx) (r1 : 0 ≤ sx) (r2 : sx < (sI H0 ca (243 : Int).toNat).toInt) (r3 : (sI H0 ca (a1).toNat).toInt = 7) : Ctr l X Γ yX12_isSo cX12_isSo 4 (some .boolean) 5 [.ref h0, .int p1] H0 (QI X Γ (fun v H1 => Kp X Γ [1, 6, 7, 8, 9, 10, 11, 14, 15, 16, 17, 19, 22, 24, 26, 28] H0 H1 ∧ (v = 0 ∨ v = 1))) := by
  refine q_enterZ (own := "SnowFortsModel") (by decide) rfl (Nat.le_of_ble_eq_true rfl) ?_
  intro p e s m args below meth c ls Qz E hl ret hS0
  have hx := E.1; have hb := E.2.1
  have hKp0 : Kp X Γ [1, 6, 7, 8, 9, 10, 11, 14, 15, 16, 17, 19, 22, 24, 26, 28] H0 H0 := Kp.rf
  have hl : lv_has ls 4 [(0, .ref h0), (1, .int p1)] := hl
  have hn0 := c243 hC0 gca
  have hst := SW.get hsw0 (s := sx) (w := a1) (by omega) (by omega) (by omega)
  unfold stp at hst
  have hk0 := okS.kind hst
  refine lv_aload_n hx hb dX12_isSo_0 rfl (lv_at hl 0 rfl) ?_
  refine q_getC E hC0 g0 fa_RX12_35 uc dX12_isSo_1 ?_
  refine lv_iload_n hx hb dX12_isSo_4 rfl (lv_at hl 1 rfl) ?_
  refine lv_bipush (v := 6) hx hb dX12_isSo_5 rfl ?_
  refine lv_iadd hx hb dX12_isSo_7 (lv_topi (fun v21 ev21 => ?_))
  have ev21i : v21.toInt = (a1 + 6) := i_add ev21 e1 (by decide) (by omega) (by omega)
  refine q_cald E hC0 (lo := -2147483648) (hi := 2147483647) gca (a := (a1 + 6)) ev21i (by omega) (by omega) (cr_c244 (by omega) (by omega)) dX12_isSo_8 (fun v22 ev22 _ _ => ?_)
  have m23 : (sI H0 ca ((a1 + 6) : Int).toNat).toInt = v22.toInt := congrArg Int32.toInt ev22
  refine lv_istore_n hx hb dX12_isSo_9 rfl hl (by decide) rfl (fun ls hl => ?_)
  replace hl : lv_has ls 4 [(2, .int v22), (0, .ref h0), (1, .int p1)] := hl
  refine lv_iload_n hx hb dX12_isSo_10 rfl (lv_at hl 0 rfl) ?_
  refine lv_iconst (v := 2) hx hb dX12_isSo_11 rfl ?_
  refine q_icmp_ne hx hb (a := v22.toInt) (b := 2) rfl (by decide) (tgt := 30) dX12_isSo_12 rfl (fun c24 => ?_) (fun c24 => ?_)
  · refine lv_iload_n hx hb dX12_isSo_30 rfl (lv_at hl 0 rfl) ?_
    refine q_if_ne hx hb (a := v22.toInt) rfl (tgt := 43) dX12_isSo_31 rfl (fun c25 => ?_) (fun c25 => ?_)
    · refine lv_iload_n hx hb dX12_isSo_43 rfl (lv_at hl 0 rfl) ?_
      refine lv_iconst (v := 1) hx hb dX12_isSo_44 rfl ?_
      refine q_icmp_ne hx hb (a := v22.toInt) (b := 1) rfl (by decide) (tgt := 67) dX12_isSo_45 rfl (fun c26 => ?_) (fun c26 => ?_)
      · refine lv_aload_n hx hb dX12_isSo_67 rfl (lv_at hl 1 rfl) ?_
        refine q_goI (q_runV (As := []) (rest := []) E hC0 hS0 (m_X12_ways l X Γ H0 hC0 h0 g0 ca gca uc oa goa uo) cw_X12_ways cl_RX12_383 g0 ⟨rfl, rfl⟩ rfl hl.1 rfl (Nat.zero_le _) (by decide) dX12_isSo_68) hS0 (fun v27 H27 locs27 hr27 hC27 hS27 => ?_)
        obtain ⟨hp27, hr27⟩ := hr27
        have hKp27 := hKp0.tr (hp27.mono rfl)
        obtain ⟨f27_0, f27_1, f27_2⟩ := hr27
        refine lv_sipush (v := 1000) hx hb dX12_isSo_71 rfl ?_
        refine lv_idiv hx hb dX12_isSo_74 (by decide) (lv_topi (fun v28 ev28 => ?_))
        have ev28i : v28.toInt = (v27.toInt / 1000) := i_div ev28 rfl (by decide) (by omega) (by decide)
        refine lv_istore_n hx hb dX12_isSo_75 rfl hl (by decide) rfl (fun ls hl => ?_)
        replace hl : lv_has ls 4 [(3, .int v28), (2, .int v22), (0, .ref h0), (1, .int p1)] := hl
        refine lv_aload_n hx hb dX12_isSo_76 rfl (lv_at hl 2 rfl) ?_
        refine q_getC E hC27 g0 fa_RX12_35 uc dX12_isSo_77 ?_
        refine lv_iload_n hx hb dX12_isSo_80 rfl (lv_at hl 3 rfl) ?_
        refine lv_bipush (v := 7) hx hb dX12_isSo_81 rfl ?_
        refine lv_iadd hx hb dX12_isSo_83 (lv_topi (fun v29 ev29 => ?_))
        have ev29i : v29.toInt = (a1 + 7) := i_add ev29 e1 (by decide) (by omega) (by omega)
        refine q_cald E hC27 (lo := -2147483648) (hi := 2147483647) gca (a := (a1 + 7)) ev29i (by omega) (by omega) (cr_c244 (by omega) (by omega)) dX12_isSo_84 (fun v30 ev30 _ _ => ?_)
        have m31 : (sI H27 ca ((a1 + 7) : Int).toNat).toInt = v30.toInt := congrArg Int32.toInt ev30
        refine lv_bipush (v := 60) hx hb dX12_isSo_85 rfl ?_
        refine q_icmp_ne hx hb (a := v30.toInt) (b := 60) rfl (by decide) (tgt := 110) dX12_isSo_87 rfl (fun c32 => ?_) (fun c32 => ?_)
        · refine lv_aload_n hx hb dX12_isSo_110 rfl (lv_at hl 2 rfl) ?_
          refine q_getC E hC27 g0 fa_RX12_35 uc dX12_isSo_111 ?_
          refine lv_iload_n hx hb dX12_isSo_114 rfl (lv_at hl 3 rfl) ?_
          refine lv_bipush (v := 7) hx hb dX12_isSo_115 rfl ?_
          refine lv_iadd hx hb dX12_isSo_117 (lv_topi (fun v33 ev33 => ?_))
          have ev33i : v33.toInt = (a1 + 7) := i_add ev33 e1 (by decide) (by omega) (by omega)
          refine q_cald E hC27 (lo := -2147483648) (hi := 2147483647) gca (a := (a1 + 7)) ev33i (by omega) (by omega) (cr_c244 (by omega) (by omega)) dX12_isSo_118 (fun v34 ev34 _ _ => ?_)
          have qv34 := ev30.symm.trans ev34; subst qv34
          refine lv_bipush (v := 62) hx hb dX12_isSo_119 rfl ?_
          refine q_icmp_ne hx hb (a := v30.toInt) (b := 62) rfl (by decide) (tgt := 144) dX12_isSo_121 rfl (fun c35 => ?_) (fun c35 => ?_)
          · refine lv_iload_n hx hb dX12_isSo_144 rfl (lv_at hl 0 rfl) ?_
            refine lv_aload_n hx hb dX12_isSo_145 rfl (lv_at hl 2 rfl) ?_
            refine q_getC E hC27 g0 fa_RX12_35 uc dX12_isSo_146 ?_
            refine lv_iload_n hx hb dX12_isSo_149 rfl (lv_at hl 3 rfl) ?_
            refine lv_iconst (v := 2) hx hb dX12_isSo_150 rfl ?_
            refine lv_iadd hx hb dX12_isSo_151 (lv_topi (fun v36 ev36 => ?_))
            have ev36i : v36.toInt = (a1 + 2) := i_add ev36 e1 (by decide) (by omega) (by omega)
            refine q_cald E hC27 (lo := -2147483648) (hi := 2147483647) gca (a := (a1 + 2)) ev36i (by omega) (by omega) (cr_c244 (by omega) (by omega)) dX12_isSo_152 (fun v37 ev37 _ _ => ?_)
            have m38 : (sI H27 ca ((a1 + 2) : Int).toNat).toInt = v37.toInt := congrArg Int32.toInt ev37
            have c39 := i_rng v37; rw [show v37.toInt = v37.toInt from rfl] at c39
            refine q_icmp_ne hx hb (a := (v27.toInt / 1000)) (b := v37.toInt) ev28i rfl (tgt := 160) dX12_isSo_153 rfl (fun c40 => ?_) (fun c40 => ?_)
            · refine lv_iconst (v := 0) hx hb dX12_isSo_160 rfl ?_
              exact ret 0 H27 locs27 _ _ dX12_isSo_161 (Or.inl rfl) ⟨hKp27, Or.inl rfl⟩ hC27 hS27
            · refine lv_iconst (v := 1) hx hb dX12_isSo_156 rfl ?_
              refine lv_goto (tgt := 161) hx hb dX12_isSo_157 rfl ?_
              exact ret 1 H27 locs27 _ _ dX12_isSo_161 (Or.inr rfl) ⟨hKp27, Or.inr rfl⟩ hC27 hS27
          · refine lv_iload_n hx hb dX12_isSo_124 rfl (lv_at hl 0 rfl) ?_
            refine lv_aload_n hx hb dX12_isSo_125 rfl (lv_at hl 2 rfl) ?_
            refine q_getC E hC27 g0 fa_RX12_35 uc dX12_isSo_126 ?_
            refine lv_iload_n hx hb dX12_isSo_129 rfl (lv_at hl 3 rfl) ?_
            refine lv_iconst (v := 2) hx hb dX12_isSo_130 rfl ?_
            refine lv_iadd hx hb dX12_isSo_131 (lv_topi (fun v41 ev41 => ?_))
            have ev41i : v41.toInt = (a1 + 2) := i_add ev41 e1 (by decide) (by omega) (by omega)
            refine q_cald E hC27 (lo := -2147483648) (hi := 2147483647) gca (a := (a1 + 2)) ev41i (by omega) (by omega) (cr_c244 (by omega) (by omega)) dX12_isSo_132 (fun v42 ev42 _ _ => ?_)
            have m43 : (sI H27 ca ((a1 + 2) : Int).toNat).toInt = v42.toInt := congrArg Int32.toInt ev42
            have c44 := i_rng v42; rw [show v42.toInt = v42.toInt from rfl] at c44
            refine q_icmp_le hx hb (a := (v27.toInt / 1000)) (b := v42.toInt) ev28i rfl (tgt := 140) dX12_isSo_133 rfl (fun c45 => ?_) (fun c45 => ?_)
            · refine lv_iconst (v := 0) hx hb dX12_isSo_140 rfl ?_
              refine lv_goto (tgt := 161) hx hb dX12_isSo_141 rfl ?_
              exact ret 0 H27 locs27 _ _ dX12_isSo_161 (Or.inl rfl) ⟨hKp27, Or.inl rfl⟩ hC27 hS27
            · refine lv_iconst (v := 1) hx hb dX12_isSo_136 rfl ?_
              refine lv_goto (tgt := 161) hx hb dX12_isSo_137 rfl ?_
              exact ret 1 H27 locs27 _ _ dX12_isSo_161 (Or.inr rfl) ⟨hKp27, Or.inr rfl⟩ hC27 hS27
        · refine lv_iload_n hx hb dX12_isSo_90 rfl (lv_at hl 0 rfl) ?_
          refine lv_aload_n hx hb dX12_isSo_91 rfl (lv_at hl 2 rfl) ?_
          refine q_getC E hC27 g0 fa_RX12_35 uc dX12_isSo_92 ?_
          refine lv_iload_n hx hb dX12_isSo_95 rfl (lv_at hl 3 rfl) ?_
          refine lv_iconst (v := 2) hx hb dX12_isSo_96 rfl ?_
          refine lv_iadd hx hb dX12_isSo_97 (lv_topi (fun v46 ev46 => ?_))
          have ev46i : v46.toInt = (a1 + 2) := i_add ev46 e1 (by decide) (by omega) (by omega)
          refine q_cald E hC27 (lo := -2147483648) (hi := 2147483647) gca (a := (a1 + 2)) ev46i (by omega) (by omega) (cr_c244 (by omega) (by omega)) dX12_isSo_98 (fun v47 ev47 _ _ => ?_)
          have m48 : (sI H27 ca ((a1 + 2) : Int).toNat).toInt = v47.toInt := congrArg Int32.toInt ev47
          have c49 := i_rng v47; rw [show v47.toInt = v47.toInt from rfl] at c49
          refine q_icmp_ge hx hb (a := (v27.toInt / 1000)) (b := v47.toInt) ev28i rfl (tgt := 106) dX12_isSo_99 rfl (fun c50 => ?_) (fun c50 => ?_)
          · refine lv_iconst (v := 0) hx hb dX12_isSo_106 rfl ?_
            refine lv_goto (tgt := 161) hx hb dX12_isSo_107 rfl ?_
            exact ret 0 H27 locs27 _ _ dX12_isSo_161 (Or.inl rfl) ⟨hKp27, Or.inl rfl⟩ hC27 hS27
          · refine lv_iconst (v := 1) hx hb dX12_isSo_102 rfl ?_
            refine lv_goto (tgt := 161) hx hb dX12_isSo_103 rfl ?_
            exact ret 1 H27 locs27 _ _ dX12_isSo_161 (Or.inr rfl) ⟨hKp27, Or.inr rfl⟩ hC27 hS27
      · obtain ⟨v51, ev51⟩ : ∃ z, sI H0 ca ((a1 + 1) : Int).toNat = z := ⟨_, rfl⟩
        have m52 : (sI H0 ca ((a1 + 1) : Int).toNat).toInt = v51.toInt := congrArg Int32.toInt ev51
        have hs7 := okS.k7 hst (by omega) (by omega)
        refine lv_aload_n hx hb dX12_isSo_48 rfl (lv_at hl 1 rfl) ?_
        refine q_getC E hC0 g0 fa_RX12_35 uc dX12_isSo_49 ?_
        refine lv_bipush (v := 62) hx hb dX12_isSo_52 rfl ?_
        refine lv_aload_n hx hb dX12_isSo_54 rfl (lv_at hl 1 rfl) ?_
        refine q_getC E hC0 g0 fa_RX12_35 uc dX12_isSo_55 ?_
        refine lv_iload_n hx hb dX12_isSo_58 rfl (lv_at hl 2 rfl) ?_
        refine lv_iconst (v := 1) hx hb dX12_isSo_59 rfl ?_
        refine lv_iadd hx hb dX12_isSo_60 (lv_topi (fun v53 ev53 => ?_))
        have ev53i : v53.toInt = (a1 + 1) := i_add ev53 e1 (by decide) (by omega) (by omega)
        refine q_cald E hC0 (lo := -2147483648) (hi := 2147483647) gca (a := (a1 + 1)) ev53i (by omega) (by omega) (cr_c244 (by omega) (by omega)) dX12_isSo_61 (fun v54 ev54 _ _ => ?_)
        have qv54 := ev51.symm.trans ev54; subst qv54
        refine lv_iadd hx hb dX12_isSo_62 (lv_topi (fun v55 ev55 => ?_))
        have ev55i : v55.toInt = (62 + v51.toInt) := i_add ev55 (by decide) rfl (by omega) (by omega)
        refine q_cald E hC0 (lo := 0) (hi := 99) gca (a := (62 + v51.toInt)) ev55i (by omega) (by omega) (cr_c26 (by omega) (by omega)) dX12_isSo_63 (fun v56 ev56 lv56 uv56 => ?_)
        have m57 : (sI H0 ca ((62 + v51.toInt) : Int).toNat).toInt = v56.toInt := congrArg Int32.toInt ev56
        refine lv_goto (tgt := 75) hx hb dX12_isSo_64 rfl ?_
        refine lv_istore_n hx hb dX12_isSo_75 rfl hl (by decide) rfl (fun ls hl => ?_)
        replace hl : lv_has ls 4 [(3, .int v56), (2, .int v22), (0, .ref h0), (1, .int p1)] := hl
        refine lv_aload_n hx hb dX12_isSo_76 rfl (lv_at hl 2 rfl) ?_
        refine q_getC E hC0 g0 fa_RX12_35 uc dX12_isSo_77 ?_
        refine lv_iload_n hx hb dX12_isSo_80 rfl (lv_at hl 3 rfl) ?_
        refine lv_bipush (v := 7) hx hb dX12_isSo_81 rfl ?_
        refine lv_iadd hx hb dX12_isSo_83 (lv_topi (fun v58 ev58 => ?_))
        have ev58i : v58.toInt = (a1 + 7) := i_add ev58 e1 (by decide) (by omega) (by omega)
        refine q_cald E hC0 (lo := -2147483648) (hi := 2147483647) gca (a := (a1 + 7)) ev58i (by omega) (by omega) (cr_c244 (by omega) (by omega)) dX12_isSo_84 (fun v59 ev59 _ _ => ?_)
        have m60 : (sI H0 ca ((a1 + 7) : Int).toNat).toInt = v59.toInt := congrArg Int32.toInt ev59
        refine lv_bipush (v := 60) hx hb dX12_isSo_85 rfl ?_
        refine q_icmp_ne hx hb (a := v59.toInt) (b := 60) rfl (by decide) (tgt := 110) dX12_isSo_87 rfl (fun c61 => ?_) (fun c61 => ?_)
        · refine lv_aload_n hx hb dX12_isSo_110 rfl (lv_at hl 2 rfl) ?_
          refine q_getC E hC0 g0 fa_RX12_35 uc dX12_isSo_111 ?_
          refine lv_iload_n hx hb dX12_isSo_114 rfl (lv_at hl 3 rfl) ?_
          refine lv_bipush (v := 7) hx hb dX12_isSo_115 rfl ?_
          refine lv_iadd hx hb dX12_isSo_117 (lv_topi (fun v62 ev62 => ?_))
          have ev62i : v62.toInt = (a1 + 7) := i_add ev62 e1 (by decide) (by omega) (by omega)
          refine q_cald E hC0 (lo := -2147483648) (hi := 2147483647) gca (a := (a1 + 7)) ev62i (by omega) (by omega) (cr_c244 (by omega) (by omega)) dX12_isSo_118 (fun v63 ev63 _ _ => ?_)
          have qv63 := ev59.symm.trans ev63; subst qv63
          refine lv_bipush (v := 62) hx hb dX12_isSo_119 rfl ?_
          refine q_icmp_ne hx hb (a := v59.toInt) (b := 62) rfl (by decide) (tgt := 144) dX12_isSo_121 rfl (fun c64 => ?_) (fun c64 => ?_)
          · refine lv_iload_n hx hb dX12_isSo_144 rfl (lv_at hl 0 rfl) ?_
            refine lv_aload_n hx hb dX12_isSo_145 rfl (lv_at hl 2 rfl) ?_
            refine q_getC E hC0 g0 fa_RX12_35 uc dX12_isSo_146 ?_
            refine lv_iload_n hx hb dX12_isSo_149 rfl (lv_at hl 3 rfl) ?_
            refine lv_iconst (v := 2) hx hb dX12_isSo_150 rfl ?_
            refine lv_iadd hx hb dX12_isSo_151 (lv_topi (fun v65 ev65 => ?_))
            have ev65i : v65.toInt = (a1 + 2) := i_add ev65 e1 (by decide) (by omega) (by omega)
            refine q_cald E hC0 (lo := -2147483648) (hi := 2147483647) gca (a := (a1 + 2)) ev65i (by omega) (by omega) (cr_c244 (by omega) (by omega)) dX12_isSo_152 (fun v66 ev66 _ _ => ?_)
            have m67 : (sI H0 ca ((a1 + 2) : Int).toNat).toInt = v66.toInt := congrArg Int32.toInt ev66
            have c68 := i_rng v66; rw [show v66.toInt = v66.toInt from rfl] at c68
            refine q_icmp_ne hx hb (a := v56.toInt) (b := v66.toInt) rfl rfl (tgt := 160) dX12_isSo_153 rfl (fun c69 => ?_) (fun c69 => ?_)
            · refine lv_iconst (v := 0) hx hb dX12_isSo_160 rfl ?_
              exact ret 0 H0 [] _ _ dX12_isSo_161 (Or.inl rfl) ⟨hKp0, Or.inl rfl⟩ hC0 hS0
            · refine lv_iconst (v := 1) hx hb dX12_isSo_156 rfl ?_
              refine lv_goto (tgt := 161) hx hb dX12_isSo_157 rfl ?_
              exact ret 1 H0 [] _ _ dX12_isSo_161 (Or.inr rfl) ⟨hKp0, Or.inr rfl⟩ hC0 hS0
          · refine lv_iload_n hx hb dX12_isSo_124 rfl (lv_at hl 0 rfl) ?_
            refine lv_aload_n hx hb dX12_isSo_125 rfl (lv_at hl 2 rfl) ?_
            refine q_getC E hC0 g0 fa_RX12_35 uc dX12_isSo_126 ?_
            refine lv_iload_n hx hb dX12_isSo_129 rfl (lv_at hl 3 rfl) ?_
            refine lv_iconst (v := 2) hx hb dX12_isSo_130 rfl ?_
            refine lv_iadd hx hb dX12_isSo_131 (lv_topi (fun v70 ev70 => ?_))
            have ev70i : v70.toInt = (a1 + 2) := i_add ev70 e1 (by decide) (by omega) (by omega)
            refine q_cald E hC0 (lo := -2147483648) (hi := 2147483647) gca (a := (a1 + 2)) ev70i (by omega) (by omega) (cr_c244 (by omega) (by omega)) dX12_isSo_132 (fun v71 ev71 _ _ => ?_)
            have m72 : (sI H0 ca ((a1 + 2) : Int).toNat).toInt = v71.toInt := congrArg Int32.toInt ev71
            have c73 := i_rng v71; rw [show v71.toInt = v71.toInt from rfl] at c73
            refine q_icmp_le hx hb (a := v56.toInt) (b := v71.toInt) rfl rfl (tgt := 140) dX12_isSo_133 rfl (fun c74 => ?_) (fun c74 => ?_)
            · refine lv_iconst (v := 0) hx hb dX12_isSo_140 rfl ?_
              refine lv_goto (tgt := 161) hx hb dX12_isSo_141 rfl ?_
              exact ret 0 H0 [] _ _ dX12_isSo_161 (Or.inl rfl) ⟨hKp0, Or.inl rfl⟩ hC0 hS0
            · refine lv_iconst (v := 1) hx hb dX12_isSo_136 rfl ?_
              refine lv_goto (tgt := 161) hx hb dX12_isSo_137 rfl ?_
              exact ret 1 H0 [] _ _ dX12_isSo_161 (Or.inr rfl) ⟨hKp0, Or.inr rfl⟩ hC0 hS0
        · refine lv_iload_n hx hb dX12_isSo_90 rfl (lv_at hl 0 rfl) ?_
          refine lv_aload_n hx hb dX12_isSo_91 rfl (lv_at hl 2 rfl) ?_
          refine q_getC E hC0 g0 fa_RX12_35 uc dX12_isSo_92 ?_
          refine lv_iload_n hx hb dX12_isSo_95 rfl (lv_at hl 3 rfl) ?_
          refine lv_iconst (v := 2) hx hb dX12_isSo_96 rfl ?_
          refine lv_iadd hx hb dX12_isSo_97 (lv_topi (fun v75 ev75 => ?_))
          have ev75i : v75.toInt = (a1 + 2) := i_add ev75 e1 (by decide) (by omega) (by omega)
          refine q_cald E hC0 (lo := -2147483648) (hi := 2147483647) gca (a := (a1 + 2)) ev75i (by omega) (by omega) (cr_c244 (by omega) (by omega)) dX12_isSo_98 (fun v76 ev76 _ _ => ?_)
          have m77 : (sI H0 ca ((a1 + 2) : Int).toNat).toInt = v76.toInt := congrArg Int32.toInt ev76
          have c78 := i_rng v76; rw [show v76.toInt = v76.toInt from rfl] at c78
          refine q_icmp_ge hx hb (a := v56.toInt) (b := v76.toInt) rfl rfl (tgt := 106) dX12_isSo_99 rfl (fun c79 => ?_) (fun c79 => ?_)
          · refine lv_iconst (v := 0) hx hb dX12_isSo_106 rfl ?_
            refine lv_goto (tgt := 161) hx hb dX12_isSo_107 rfl ?_
            exact ret 0 H0 [] _ _ dX12_isSo_161 (Or.inl rfl) ⟨hKp0, Or.inl rfl⟩ hC0 hS0
          · refine lv_iconst (v := 1) hx hb dX12_isSo_102 rfl ?_
            refine lv_goto (tgt := 161) hx hb dX12_isSo_103 rfl ?_
            exact ret 1 H0 [] _ _ dX12_isSo_161 (Or.inr rfl) ⟨hKp0, Or.inr rfl⟩ hC0 hS0
    · refine lv_aload_n hx hb dX12_isSo_34 rfl (lv_at hl 1 rfl) ?_
      refine q_getC E hC0 g0 fa_RX12_35 uc dX12_isSo_35 ?_
      refine lv_iconst (v := 3) hx hb dX12_isSo_38 rfl ?_
      refine q_cald E hC0 (lo := -2147483648) (hi := 2147483647) gca (a := 3) (show (3 : Int32).toInt = 3 from by decide) (by omega) (by omega) (cr_c3 (by omega) (by omega)) dX12_isSo_39 (fun v80 ev80 _ _ => ?_)
      have m81 : (sI H0 ca (3 : Int).toNat).toInt = v80.toInt := congrArg Int32.toInt ev80
      refine lv_goto (tgt := 75) hx hb dX12_isSo_40 rfl ?_
      refine lv_istore_n hx hb dX12_isSo_75 rfl hl (by decide) rfl (fun ls hl => ?_)
      replace hl : lv_has ls 4 [(3, .int v80), (2, .int v22), (0, .ref h0), (1, .int p1)] := hl
      refine lv_aload_n hx hb dX12_isSo_76 rfl (lv_at hl 2 rfl) ?_
      refine q_getC E hC0 g0 fa_RX12_35 uc dX12_isSo_77 ?_
      refine lv_iload_n hx hb dX12_isSo_80 rfl (lv_at hl 3 rfl) ?_
      refine lv_bipush (v := 7) hx hb dX12_isSo_81 rfl ?_
      refine lv_iadd hx hb dX12_isSo_83 (lv_topi (fun v82 ev82 => ?_))
      have ev82i : v82.toInt = (a1 + 7) := i_add ev82 e1 (by decide) (by omega) (by omega)
      refine q_cald E hC0 (lo := -2147483648) (hi := 2147483647) gca (a := (a1 + 7)) ev82i (by omega) (by omega) (cr_c244 (by omega) (by omega)) dX12_isSo_84 (fun v83 ev83 _ _ => ?_)
      have m84 : (sI H0 ca ((a1 + 7) : Int).toNat).toInt = v83.toInt := congrArg Int32.toInt ev83
      refine lv_bipush (v := 60) hx hb dX12_isSo_85 rfl ?_
      refine q_icmp_ne hx hb (a := v83.toInt) (b := 60) rfl (by decide) (tgt := 110) dX12_isSo_87 rfl (fun c85 => ?_) (fun c85 => ?_)
      · refine lv_aload_n hx hb dX12_isSo_110 rfl (lv_at hl 2 rfl) ?_
        refine q_getC E hC0 g0 fa_RX12_35 uc dX12_isSo_111 ?_
        refine lv_iload_n hx hb dX12_isSo_114 rfl (lv_at hl 3 rfl) ?_
        refine lv_bipush (v := 7) hx hb dX12_isSo_115 rfl ?_
        refine lv_iadd hx hb dX12_isSo_117 (lv_topi (fun v86 ev86 => ?_))
        have ev86i : v86.toInt = (a1 + 7) := i_add ev86 e1 (by decide) (by omega) (by omega)
        refine q_cald E hC0 (lo := -2147483648) (hi := 2147483647) gca (a := (a1 + 7)) ev86i (by omega) (by omega) (cr_c244 (by omega) (by omega)) dX12_isSo_118 (fun v87 ev87 _ _ => ?_)
        have qv87 := ev83.symm.trans ev87; subst qv87
        refine lv_bipush (v := 62) hx hb dX12_isSo_119 rfl ?_
        refine q_icmp_ne hx hb (a := v83.toInt) (b := 62) rfl (by decide) (tgt := 144) dX12_isSo_121 rfl (fun c88 => ?_) (fun c88 => ?_)
        · refine lv_iload_n hx hb dX12_isSo_144 rfl (lv_at hl 0 rfl) ?_
          refine lv_aload_n hx hb dX12_isSo_145 rfl (lv_at hl 2 rfl) ?_
          refine q_getC E hC0 g0 fa_RX12_35 uc dX12_isSo_146 ?_
          refine lv_iload_n hx hb dX12_isSo_149 rfl (lv_at hl 3 rfl) ?_
          refine lv_iconst (v := 2) hx hb dX12_isSo_150 rfl ?_
          refine lv_iadd hx hb dX12_isSo_151 (lv_topi (fun v89 ev89 => ?_))
          have ev89i : v89.toInt = (a1 + 2) := i_add ev89 e1 (by decide) (by omega) (by omega)
          refine q_cald E hC0 (lo := -2147483648) (hi := 2147483647) gca (a := (a1 + 2)) ev89i (by omega) (by omega) (cr_c244 (by omega) (by omega)) dX12_isSo_152 (fun v90 ev90 _ _ => ?_)
          have m91 : (sI H0 ca ((a1 + 2) : Int).toNat).toInt = v90.toInt := congrArg Int32.toInt ev90
          have c92 := i_rng v80; rw [show v80.toInt = v80.toInt from rfl] at c92
          have c93 := i_rng v90; rw [show v90.toInt = v90.toInt from rfl] at c93
          refine q_icmp_ne hx hb (a := v80.toInt) (b := v90.toInt) rfl rfl (tgt := 160) dX12_isSo_153 rfl (fun c94 => ?_) (fun c94 => ?_)
          · refine lv_iconst (v := 0) hx hb dX12_isSo_160 rfl ?_
            exact ret 0 H0 [] _ _ dX12_isSo_161 (Or.inl rfl) ⟨hKp0, Or.inl rfl⟩ hC0 hS0
          · refine lv_iconst (v := 1) hx hb dX12_isSo_156 rfl ?_
            refine lv_goto (tgt := 161) hx hb dX12_isSo_157 rfl ?_
            exact ret 1 H0 [] _ _ dX12_isSo_161 (Or.inr rfl) ⟨hKp0, Or.inr rfl⟩ hC0 hS0
        · refine lv_iload_n hx hb dX12_isSo_124 rfl (lv_at hl 0 rfl) ?_
          refine lv_aload_n hx hb dX12_isSo_125 rfl (lv_at hl 2 rfl) ?_
          refine q_getC E hC0 g0 fa_RX12_35 uc dX12_isSo_126 ?_
          refine lv_iload_n hx hb dX12_isSo_129 rfl (lv_at hl 3 rfl) ?_
          refine lv_iconst (v := 2) hx hb dX12_isSo_130 rfl ?_
          refine lv_iadd hx hb dX12_isSo_131 (lv_topi (fun v95 ev95 => ?_))
          have ev95i : v95.toInt = (a1 + 2) := i_add ev95 e1 (by decide) (by omega) (by omega)
          refine q_cald E hC0 (lo := -2147483648) (hi := 2147483647) gca (a := (a1 + 2)) ev95i (by omega) (by omega) (cr_c244 (by omega) (by omega)) dX12_isSo_132 (fun v96 ev96 _ _ => ?_)
          have m97 : (sI H0 ca ((a1 + 2) : Int).toNat).toInt = v96.toInt := congrArg Int32.toInt ev96
          have c98 := i_rng v80; rw [show v80.toInt = v80.toInt from rfl] at c98
          have c99 := i_rng v96; rw [show v96.toInt = v96.toInt from rfl] at c99
          refine q_icmp_le hx hb (a := v80.toInt) (b := v96.toInt) rfl rfl (tgt := 140) dX12_isSo_133 rfl (fun c100 => ?_) (fun c100 => ?_)
          · refine lv_iconst (v := 0) hx hb dX12_isSo_140 rfl ?_
            refine lv_goto (tgt := 161) hx hb dX12_isSo_141 rfl ?_
            exact ret 0 H0 [] _ _ dX12_isSo_161 (Or.inl rfl) ⟨hKp0, Or.inl rfl⟩ hC0 hS0
          · refine lv_iconst (v := 1) hx hb dX12_isSo_136 rfl ?_
            refine lv_goto (tgt := 161) hx hb dX12_isSo_137 rfl ?_
            exact ret 1 H0 [] _ _ dX12_isSo_161 (Or.inr rfl) ⟨hKp0, Or.inr rfl⟩ hC0 hS0
      · refine lv_iload_n hx hb dX12_isSo_90 rfl (lv_at hl 0 rfl) ?_
        refine lv_aload_n hx hb dX12_isSo_91 rfl (lv_at hl 2 rfl) ?_
        refine q_getC E hC0 g0 fa_RX12_35 uc dX12_isSo_92 ?_
        refine lv_iload_n hx hb dX12_isSo_95 rfl (lv_at hl 3 rfl) ?_
        refine lv_iconst (v := 2) hx hb dX12_isSo_96 rfl ?_
        refine lv_iadd hx hb dX12_isSo_97 (lv_topi (fun v101 ev101 => ?_))
        have ev101i : v101.toInt = (a1 + 2) := i_add ev101 e1 (by decide) (by omega) (by omega)
        refine q_cald E hC0 (lo := -2147483648) (hi := 2147483647) gca (a := (a1 + 2)) ev101i (by omega) (by omega) (cr_c244 (by omega) (by omega)) dX12_isSo_98 (fun v102 ev102 _ _ => ?_)
        have m103 : (sI H0 ca ((a1 + 2) : Int).toNat).toInt = v102.toInt := congrArg Int32.toInt ev102
        have c104 := i_rng v80; rw [show v80.toInt = v80.toInt from rfl] at c104
        have c105 := i_rng v102; rw [show v102.toInt = v102.toInt from rfl] at c105
        refine q_icmp_ge hx hb (a := v80.toInt) (b := v102.toInt) rfl rfl (tgt := 106) dX12_isSo_99 rfl (fun c106 => ?_) (fun c106 => ?_)
        · refine lv_iconst (v := 0) hx hb dX12_isSo_106 rfl ?_
          refine lv_goto (tgt := 161) hx hb dX12_isSo_107 rfl ?_
          exact ret 0 H0 [] _ _ dX12_isSo_161 (Or.inl rfl) ⟨hKp0, Or.inl rfl⟩ hC0 hS0
        · refine lv_iconst (v := 1) hx hb dX12_isSo_102 rfl ?_
          refine lv_goto (tgt := 161) hx hb dX12_isSo_103 rfl ?_
          exact ret 1 H0 [] _ _ dX12_isSo_161 (Or.inr rfl) ⟨hKp0, Or.inr rfl⟩ hC0 hS0
  · refine lv_aload_n hx hb dX12_isSo_15 rfl (lv_at hl 1 rfl) ?_
    refine q_getC E hC0 g0 fa_RX12_35 uc dX12_isSo_16 ?_
    refine lv_iconst (v := 4) hx hb dX12_isSo_19 rfl ?_
    refine q_cald E hC0 (lo := -2147483648) (hi := 2147483647) gca (a := 4) (show (4 : Int32).toInt = 4 from by decide) (by omega) (by omega) (cr_c3 (by omega) (by omega)) dX12_isSo_20 (fun v107 ev107 _ _ => ?_)
    have m108 : (sI H0 ca (4 : Int).toNat).toInt = v107.toInt := congrArg Int32.toInt ev107
    refine q_if_le hx hb (a := v107.toInt) rfl (tgt := 28) dX12_isSo_21 rfl (fun c109 => ?_) (fun c109 => ?_)
    · refine lv_iconst (v := 0) hx hb dX12_isSo_28 rfl ?_
      exact ret 0 H0 [] _ _ dX12_isSo_29 (Or.inl rfl) ⟨hKp0, Or.inl rfl⟩ hC0 hS0
    · refine lv_iconst (v := 1) hx hb dX12_isSo_24 rfl ?_
      refine lv_goto (tgt := 29) hx hb dX12_isSo_25 rfl ?_
      exact ret 1 H0 [] _ _ dX12_isSo_29 (Or.inr rfl) ⟨hKp0, Or.inr rfl⟩ hC0 hS0
set_option maxRecDepth 100000 in
set_option maxHeartbeats 4000000 in
theorem m_X12_doOne (l : Launch) (X : xW) (Γ : Nat → Option Nat) (d : Nat) (IH : ∀ d2 : Nat, d2 < d → ∀ (H0 : Heap) (hC0 : Conf X Γ H0) (h0 : Nat) (g0 : Γ h0 = some 11) (p1 : Int32) {a1 : Int} (e1 : p1.toInt = a1) (p2 : Int32) {a2 : Int} (e2 : p2.toInt = a2) (ca : Nat) (gca : Γ ca = some 64) (uc : ∀ a, Γ a = some 64 → a = ca) (oa : Nat) (goa : Γ oa = some 68) (uo : ∀ a, Γ a = some 68 → a = oa) (hu0 : UH H0 ca) (hsw0 : SW H0 ca 0) (r0 : 0 ≤ a1) (r1 : a1 + (d2 : Int) = 30) (r2 : a2 ≤ (sI H0 ca (243 : Int).toNat).toInt), Ctr l X Γ yX12_doAll cX12_doAll 4 none (7 + 2 * d2) [.ref h0, .int p1, .int p2] H0 (QV X Γ (fun H1 => (Kp X Γ [1, 6, 7, 8, 9, 10, 11, 14, 17, 19, 22, 24, 26, 28] H0 H1 ∧ UH H1 ca)))) (H0 : Heap) (hC0 : Conf X Γ H0) (h0 : Nat) (g0 : Γ h0 = some 11) (p1 : Int32) {a1 : Int} (e1 : p1.toInt = a1) (ca : Nat) (gca : Γ ca = some 64) (uc : ∀ a, Γ a = some 64 → a = ca) (oa : Nat) (goa : Γ oa = some 68) (uo : ∀ a, Γ a = some 68 → a = oa) (hu0 : UH H0 ca) (hsw0 : SW H0 ca 0) (r0 : 0 ≤ a1) (r1 : a1 < (sI H0 ca (243 : Int).toNat).toInt) (r2 : a1 + (d : Int) = 30) : Ctr l X Γ yX12_doOne cX12_doOne 5 none (6 + 2 * d) [.ref h0, .int p1] H0 (QV X Γ (fun H1 => (Kp X Γ [1, 6, 7, 8, 9, 10, 11, 14, 17, 19, 22, 24, 26, 28] H0 H1 ∧ UH H1 ca))) := by
  refine q_enterV (own := "SnowFortsModel") (by decide) rfl (Nat.le_of_ble_eq_true rfl) ?_
  intro p e s m args below meth c ls Qz E hl ret hS0
  have hx := E.1; have hb := E.2.1
  have hKp0 : Kp X Γ [1, 6, 7, 8, 9, 10, 11, 14, 17, 19, 22, 24, 26, 28] H0 H0 := Kp.rf
  have hl : lv_has ls 5 [(0, .ref h0), (1, .int p1)] := hl
  have hn0 := c243 hC0 gca
  refine lv_aload_n hx hb dX12_doOne_0 rfl (lv_at hl 0 rfl) ?_
  refine q_getI E hC0 g0 fa_RX12_447 dX12_doOne_1 (fun v21 ev21 _ _ => ?_)
  refine lv_sipush (v := 300) hx hb dX12_doOne_4 rfl ?_
  refine q_icmp_ne hx hb (a := v21.toInt) (b := 300) rfl (by decide) (tgt := 21) dX12_doOne_7 rfl (fun c22 => ?_) (fun c22 => ?_)
  · refine lv_aload_n hx hb dX12_doOne_21 rfl (lv_at hl 0 rfl) ?_
    refine lv_dup hx hb dX12_doOne_22 rfl ?_
    refine q_getI E hC0 g0 fa_RX12_447 dX12_doOne_23 (fun v23 ev23 _ _ => ?_)
    have qv23 := ev21.symm.trans ev23; subst qv23
    refine lv_iconst (v := 1) hx hb dX12_doOne_26 rfl ?_
    refine lv_iadd hx hb dX12_doOne_27 (lv_topi (fun v24 ev24 => ?_))
    refine q_put E hC0 hS0 g0 fp_RX12_447 tv_F rfl rfl dX12_doOne_28 (fun H25 locs25 hC25 hS25 U25 => ?_)
    have hKp25 := Kp.upO E g0 fp_RX12_447 rfl U25 hKp0
    have e26 := up_I U25
    have hU25 := UH.ne hu0 U25 (Or.inl (nek g0 gca (by decide)))
    refine lv_sipush (v := 244) hx hb dX12_doOne_31 rfl ?_
    refine lv_bipush (v := 9) hx hb dX12_doOne_34 rfl ?_
    refine lv_iload_n hx hb dX12_doOne_36 rfl (lv_at hl 1 rfl) ?_
    refine lv_imul hx hb dX12_doOne_37 (lv_topi (fun v27 ev27 => ?_))
    have ev27i : v27.toInt = (9 * a1) := i_mul ev27 (by decide) e1 (by omega) (by omega)
    refine lv_iadd hx hb dX12_doOne_38 (lv_topi (fun v28 ev28 => ?_))
    have ev28i : v28.toInt = (244 + (9 * a1)) := i_add ev28 (by decide) ev27i (by omega) (by omega)
    refine lv_istore_n hx hb dX12_doOne_39 rfl hl (by decide) rfl (fun ls hl => ?_)
    replace hl : lv_has ls 5 [(2, .int v28), (0, .ref h0), (1, .int p1)] := hl
    obtain ⟨v29, ev29⟩ : ∃ z, sI H25 ca ((244 + (9 * a1)) : Int).toNat = z := ⟨_, rfl⟩
    have m30 : (sI H25 ca ((244 + (9 * a1)) : Int).toNat).toInt = v29.toInt := congrArg Int32.toInt ev29
    have hst := SW.get hsw0 (s := a1) (w := (244 + (9 * a1))) (by omega) (by omega) (by omega)
    unfold stp at hst
    have hk0 := okS.kind hst
    have hke := okS.e hst
    have hq0 := congrArg Int32.toInt (kp_d (j := (((244 + (9 * a1)))).toNat) hKp25 gca rfl (dpcR (a := 0) (r := ((244 + (9 * a1)))) (by omega) (by omega) (by omega) (by omega) (by omega)))
    refine lv_aload_n hx hb dX12_doOne_40 rfl (lv_at hl 1 rfl) ?_
    refine q_getC E hC25 g0 fa_RX12_35 uc dX12_doOne_41 ?_
    refine lv_iload_n hx hb dX12_doOne_44 rfl (lv_at hl 0 rfl) ?_
    refine q_cald E hC25 (lo := -2147483648) (hi := 2147483647) gca (a := (244 + (9 * a1))) ev28i (by omega) (by omega) (cr_c244 (by omega) (by omega)) dX12_doOne_45 (fun v31 ev31 _ _ => ?_)
    have qv31 := ev29.symm.trans ev31; subst qv31
    refine lv_istore_n hx hb dX12_doOne_46 rfl hl (by decide) rfl (fun ls hl => ?_)
    replace hl : lv_has ls 5 [(3, .int v29), (2, .int v28), (0, .ref h0), (1, .int p1)] := hl
    refine lv_iload_n hx hb dX12_doOne_47 rfl (lv_at hl 0 rfl) ?_
    refine lv_bipush (v := 7) hx hb dX12_doOne_48 rfl ?_
    refine q_icmp_ge hx hb (a := v29.toInt) (b := 7) rfl (by decide) (tgt := 78) dX12_doOne_50 rfl (fun c32 => ?_) (fun c32 => ?_)
    · refine lv_iload_n hx hb dX12_doOne_78 rfl (lv_at hl 0 rfl) ?_
      refine lv_bipush (v := 7) hx hb dX12_doOne_79 rfl ?_
      refine q_icmp_ne hx hb (a := v29.toInt) (b := 7) rfl (by decide) (tgt := 111) dX12_doOne_81 rfl (fun c33 => ?_) (fun c33 => ?_)
      · refine lv_iload_n hx hb dX12_doOne_111 rfl (lv_at hl 0 rfl) ?_
        refine lv_bipush (v := 8) hx hb dX12_doOne_112 rfl ?_
        refine q_icmp_ne hx hb (a := v29.toInt) (b := 8) rfl (by decide) (tgt := 165) dX12_doOne_114 rfl (fun c34 => ?_) (fun c34 => ?_)
        · refine lv_iload_n hx hb dX12_doOne_165 rfl (lv_at hl 0 rfl) ?_
          refine lv_bipush (v := 8) hx hb dX12_doOne_166 rfl ?_
          refine q_icmp_le hx hb (a := v29.toInt) (b := 8) rfl (by decide) (tgt := 176) dX12_doOne_168 rfl (fun c35 => absurd c35 (by omega)) (fun c35 => ?_)
          refine lv_aload_n hx hb dX12_doOne_171 rfl (lv_at hl 2 rfl) ?_
          refine lv_iconst (v := 1) hx hb dX12_doOne_172 rfl ?_
          refine q_put E hC25 hS25 g0 fp_RX12_450 (tv_I (show (1 : Int32).toInt = 1 from by decide) (by omega) (by omega)) (z_of (z01 (show (1 : Int32).toInt = 1 from by decide) (by omega) (by omega))) (fit_B (z01 (show (1 : Int32).toInt = 1 from by decide) (by omega) (by omega))) dX12_doOne_173 (fun H36 locs36 hC36 hS36 U36 => ?_)
          have hKp36 := Kp.upO E g0 fp_RX12_450 rfl U36 hKp25
          have e37 := up_I U36
          have hU36 := UH.ne hU25 U36 (Or.inl (nek g0 gca (by decide)))
          exact ret H36 locs36 _ _ dX12_doOne_176 ⟨hKp36, hU36⟩ hC36 hS36
        · refine lv_iconst (v := 0) hx hb dX12_doOne_117 rfl ?_
          refine lv_istore hx hb dX12_doOne_118 hl (by decide) rfl (fun ls hl => ?_)
          replace hl : lv_has ls 5 [(4, .int 0), (3, .int v29), (2, .int v28), (0, .ref h0), (1, .int p1)] := hl
          have L120 : ∀ (n39 : Nat) (H39 : Heap) (locs39 : List Loc) (v38 : Int32) (z38 : Int) (ls : Array Slot), ((sI H0 ca ((244 + (9 * a1)) + 1).toNat).toInt - z38).toNat < n39 → v38.toInt = z38 → 0 ≤ z38 → Conf X Γ H39 → va_S (AΓ Γ) H0 H39 locs39 → UH H39 ca → Kp X Γ [1, 6, 7, 8, 9, 10, 11, 14, 17, 19, 22, 24, 26, 28] H0 H39 → lv_has ls 5 [(4, .int v38), (3, .int v29), (2, .int v28), (0, .ref h0), (1, .int p1)] → W p l e (rmL (6 + 2 * d)) s m args below meth c H39 locs39 0 0 Qz (F0 m 120 ls []) := by
            intro n39
            induction n39 with
            | zero => intro H39 locs39 v38 z38 ls hm39 ev38 iv39_0 hC39 hS39 hU39 hKp39 hl; exact absurd hm39 (Nat.not_lt_zero _)
            | succ n39 ih39 =>
              intro H39 locs39 v38 z38 ls hm39 ev38 iv39_0 hC39 hS39 hU39 hKp39 hl
              refine lv_iload hx hb dX12_doOne_120 (lv_at hl 0 rfl) ?_
              have hqk := congrArg Int32.toInt (kp_d (j := ((((244 + (9 * a1))) + 1)).toNat) hKp39 gca rfl (dpcR (a := 0) (r := (((244 + (9 * a1))) + 1)) (by omega) (by omega) (by omega) (by omega) (by omega)))
              refine lv_aload_n hx hb dX12_doOne_122 rfl (lv_at hl 3 rfl) ?_
              refine q_getC E hC39 g0 fa_RX12_35 uc dX12_doOne_123 ?_
              refine lv_iload_n hx hb dX12_doOne_126 rfl (lv_at hl 2 rfl) ?_
              refine lv_iconst (v := 1) hx hb dX12_doOne_127 rfl ?_
              refine lv_iadd hx hb dX12_doOne_128 (lv_topi (fun v40 ev40 => ?_))
              have ev40i : v40.toInt = ((244 + (9 * a1)) + 1) := i_add ev40 ev28i (by decide) (by omega) (by omega)
              refine q_cald E hC39 (lo := -2147483648) (hi := 2147483647) gca (a := ((244 + (9 * a1)) + 1)) ev40i (by omega) (by omega) (cr_c244 (by omega) (by omega)) dX12_doOne_129 (fun v41 ev41 _ _ => ?_)
              have m42 : (sI H39 ca (((244 + (9 * a1)) + 1) : Int).toNat).toInt = v41.toInt := congrArg Int32.toInt ev41
              have c43 := i_rng v41; rw [show v41.toInt = v41.toInt from rfl] at c43
              refine q_icmp_ge hx hb (a := z38) (b := v41.toInt) ev38 rfl (tgt := 162) dX12_doOne_130 rfl (fun c44 => ?_) (fun c44 => ?_)
              · refine lv_goto (tgt := 176) hx hb dX12_doOne_162 rfl ?_
                exact ret H39 locs39 _ _ dX12_doOne_176 ⟨hKp39, hU39⟩ hC39 hS39
              · have hqk := congrArg Int32.toInt (kp_d (j := ((((244 + (9 * a1))) + 1)).toNat) hKp39 gca rfl (dpcR (a := 0) (r := (((244 + (9 * a1))) + 1)) (by omega) (by omega) (by omega) (by omega) (by omega)))
                refine lv_aload_n hx hb dX12_doOne_133 rfl (lv_at hl 3 rfl) ?_
                refine q_getI E hC39 g0 fa_RX12_450 dX12_doOne_134 (fun v45 ev45 lv45 uv45 => ?_)
                refine q_if_ne hx hb (a := v45.toInt) rfl (tgt := 162) dX12_doOne_137 rfl (fun c46 => ?_) (fun c46 => ?_)
                · refine lv_goto (tgt := 176) hx hb dX12_doOne_162 rfl ?_
                  exact ret H39 locs39 _ _ dX12_doOne_176 ⟨hKp39, hU39⟩ hC39 hS39
                · have hq8 := congrArg Int32.toInt (kp_d (j := ((((244 + (9 * a1))) + 8)).toNat) hKp39 gca rfl (dpcR (a := 0) (r := (((244 + (9 * a1))) + 8)) (by omega) (by omega) (by omega) (by omega) (by omega)))
                  have hq1 := congrArg Int32.toInt (kp_d (j := (243 : Int).toNat) hKp39 gca rfl (by unfold dpc; omega))
                  refine lv_aload_n hx hb dX12_doOne_140 rfl (lv_at hl 3 rfl) ?_
                  refine lv_iload_n hx hb dX12_doOne_141 rfl (lv_at hl 4 rfl) ?_
                  refine lv_iconst (v := 1) hx hb dX12_doOne_142 rfl ?_
                  refine lv_iadd hx hb dX12_doOne_143 (lv_topi (fun v47 ev47 => ?_))
                  have ev47i : v47.toInt = (a1 + 1) := i_add ev47 e1 (by decide) (by omega) (by omega)
                  refine lv_aload_n hx hb dX12_doOne_144 rfl (lv_at hl 3 rfl) ?_
                  refine q_getC E hC39 g0 fa_RX12_35 uc dX12_doOne_145 ?_
                  refine lv_iload_n hx hb dX12_doOne_148 rfl (lv_at hl 2 rfl) ?_
                  refine lv_bipush (v := 8) hx hb dX12_doOne_149 rfl ?_
                  refine lv_iadd hx hb dX12_doOne_151 (lv_topi (fun v48 ev48 => ?_))
                  have ev48i : v48.toInt = ((244 + (9 * a1)) + 8) := i_add ev48 ev28i (by decide) (by omega) (by omega)
                  refine q_cald E hC39 (lo := -2147483648) (hi := 2147483647) gca (a := ((244 + (9 * a1)) + 8)) ev48i (by omega) (by omega) (cr_c244 (by omega) (by omega)) dX12_doOne_152 (fun v49 ev49 _ _ => ?_)
                  have m50 : (sI H39 ca (((244 + (9 * a1)) + 8) : Int).toNat).toInt = v49.toInt := congrArg Int32.toInt ev49
                  refine q_goV (q_runV (As := [.int v47, .int v49]) (rest := []) E hC39 hS39 (IH (d - 1) (by omega) H39 hC39 h0 g0 v47 (a1 := (a1 + 1)) ev47i v49 (a2 := v49.toInt) rfl ca gca uc oa goa uo hU39 (SW.kp hsw0 hKp39 gca rfl hn0.2) (by omega) (by omega) (by omega)) cw_X12_doAll cl_RX12_465 g0 ⟨rfl, rfl⟩ rfl hl.1 rfl (Nat.zero_le _) ⟨by omega, by omega⟩ dX12_doOne_153) hS39 (fun H51 locs51 hr51 hC51 hS51 => ?_)
                  obtain ⟨hr51p, hU51⟩ := hr51
                  have hKp51 := hKp39.tr (hr51p.mono rfl)
                  obtain ⟨v52, ev52⟩ : ∃ z, z = v38 + Int32.ofInt 1 := ⟨_, rfl⟩
                  have ev52i : v52.toInt = (z38 + 1) := i_add ev52 ev38 (by decide) (by omega) (by omega)
                  refine lv_iinc hx hb dX12_doOne_156 hl (k := 0) rfl ev52.symm (by decide) rfl (fun ls hl => ?_)
                  replace hl : lv_has ls 5 [(4, .int v52), (3, .int v29), (2, .int v28), (0, .ref h0), (1, .int p1)] := hl
                  refine lv_goto (tgt := 120) hx hb dX12_doOne_159 rfl ?_
                  exact ih39 H51 locs51 v52 ((z38 + 1)) ls (by omega) ev52i (by omega) hC51 hS51 hU51 hKp51 hl
          exact L120 _ H25 locs25 0 0 ls (Nat.lt_succ_self _) (by decide) (by omega) hC25 hS25 hU25 hKp25 hl
      · refine lv_aload_n hx hb dX12_doOne_84 rfl (lv_at hl 2 rfl) ?_
        refine lv_iload_n hx hb dX12_doOne_85 rfl (lv_at hl 1 rfl) ?_
        have hq1 := congrArg Int32.toInt (kp_d (j := (243 : Int).toNat) hKp25 gca rfl (by unfold dpc; omega))
        have hq0 := congrArg Int32.toInt (kp_d (j := (((244 + (9 * a1)))).toNat) hKp25 gca rfl (dpcR (a := 0) (r := ((244 + (9 * a1)))) (by omega) (by omega) (by omega) (by omega) (by omega)))
        refine q_goI (q_runV (As := [.int v28]) (rest := []) E hC25 hS25 (m_X12_isSo l X Γ H25 hC25 h0 g0 v28 (a1 := (244 + (9 * a1))) ev28i ca gca uc oa goa uo (SW.kp hsw0 hKp25 gca rfl hn0.2) (a1) (by omega) (by omega) (by omega) (by omega)) cw_X12_isSo cl_RX12_462 g0 ⟨rfl, rfl⟩ rfl hl.1 rfl (Nat.zero_le _) ⟨by omega, by omega⟩ dX12_doOne_86) hS25 (fun v53 H53 locs53 hr53 hC53 hS53 => ?_)
        obtain ⟨hp53, hr53⟩ := hr53
        have hU53 := UH.kp hU25 hp53 gca rfl rfl
        have hKp53 := hKp25.tr (hp53.mono rfl)
        rcases hr53 with rfl | rfl
        · refine q_if_eq hx hb (a := 0) (by decide) (tgt := 111) dX12_doOne_89 rfl (fun c54 => ?_) (fun c54 => absurd c54 (by omega))
          refine lv_iload_n hx hb dX12_doOne_111 rfl (lv_at hl 0 rfl) ?_
          refine lv_bipush (v := 8) hx hb dX12_doOne_112 rfl ?_
          refine q_icmp_ne hx hb (a := v29.toInt) (b := 8) rfl (by decide) (tgt := 165) dX12_doOne_114 rfl (fun c55 => ?_) (fun c55 => absurd c55 (by omega))
          refine lv_iload_n hx hb dX12_doOne_165 rfl (lv_at hl 0 rfl) ?_
          refine lv_bipush (v := 8) hx hb dX12_doOne_166 rfl ?_
          refine q_icmp_le hx hb (a := v29.toInt) (b := 8) rfl (by decide) (tgt := 176) dX12_doOne_168 rfl (fun c56 => ?_) (fun c56 => absurd c56 (by omega))
          exact ret H53 locs53 _ _ dX12_doOne_176 ⟨hKp53, hU53⟩ hC53 hS53
        · refine q_if_eq hx hb (a := 1) (by decide) (tgt := 111) dX12_doOne_89 rfl (fun c57 => absurd c57 (by omega)) (fun c57 => ?_)
          have hq8 := congrArg Int32.toInt (kp_d (j := ((((244 + (9 * a1))) + 8)).toNat) hKp53 gca rfl (dpcR (a := 0) (r := (((244 + (9 * a1))) + 8)) (by omega) (by omega) (by omega) (by omega) (by omega)))
          have hq1 := congrArg Int32.toInt (kp_d (j := (243 : Int).toNat) hKp53 gca rfl (by unfold dpc; omega))
          refine lv_aload_n hx hb dX12_doOne_92 rfl (lv_at hl 2 rfl) ?_
          refine lv_iload_n hx hb dX12_doOne_93 rfl (lv_at hl 3 rfl) ?_
          refine lv_iconst (v := 1) hx hb dX12_doOne_94 rfl ?_
          refine lv_iadd hx hb dX12_doOne_95 (lv_topi (fun v58 ev58 => ?_))
          have ev58i : v58.toInt = (a1 + 1) := i_add ev58 e1 (by decide) (by omega) (by omega)
          refine lv_aload_n hx hb dX12_doOne_96 rfl (lv_at hl 2 rfl) ?_
          refine q_getC E hC53 g0 fa_RX12_35 uc dX12_doOne_97 ?_
          refine lv_iload_n hx hb dX12_doOne_100 rfl (lv_at hl 1 rfl) ?_
          refine lv_bipush (v := 8) hx hb dX12_doOne_101 rfl ?_
          refine lv_iadd hx hb dX12_doOne_103 (lv_topi (fun v59 ev59 => ?_))
          have ev59i : v59.toInt = ((244 + (9 * a1)) + 8) := i_add ev59 ev28i (by decide) (by omega) (by omega)
          refine q_cald E hC53 (lo := -2147483648) (hi := 2147483647) gca (a := ((244 + (9 * a1)) + 8)) ev59i (by omega) (by omega) (cr_c244 (by omega) (by omega)) dX12_doOne_104 (fun v60 ev60 _ _ => ?_)
          have m61 : (sI H53 ca (((244 + (9 * a1)) + 8) : Int).toNat).toInt = v60.toInt := congrArg Int32.toInt ev60
          refine q_goV (q_runV (As := [.int v58, .int v60]) (rest := []) E hC53 hS53 (IH (d - 1) (by omega) H53 hC53 h0 g0 v58 (a1 := (a1 + 1)) ev58i v60 (a2 := v60.toInt) rfl ca gca uc oa goa uo hU53 (SW.kp hsw0 hKp53 gca rfl hn0.2) (by omega) (by omega) (by omega)) cw_X12_doAll cl_RX12_465 g0 ⟨rfl, rfl⟩ rfl hl.1 rfl (Nat.zero_le _) ⟨by omega, by omega⟩ dX12_doOne_105) hS53 (fun H62 locs62 hr62 hC62 hS62 => ?_)
          obtain ⟨hr62p, hU62⟩ := hr62
          have hKp62 := hKp53.tr (hr62p.mono rfl)
          refine lv_goto (tgt := 176) hx hb dX12_doOne_108 rfl ?_
          exact ret H62 locs62 _ _ dX12_doOne_176 ⟨hKp62, hU62⟩ hC62 hS62
    · refine lv_aload_n hx hb dX12_doOne_53 rfl (lv_at hl 2 rfl) ?_
      refine lv_dup hx hb dX12_doOne_54 rfl ?_
      refine q_getI E hC25 g0 fa_RX12_456 dX12_doOne_55 (fun v63 ev63 _ _ => ?_)
      refine lv_aload_n hx hb dX12_doOne_58 rfl (lv_at hl 2 rfl) ?_
      refine lv_iload_n hx hb dX12_doOne_59 rfl (lv_at hl 1 rfl) ?_
      have hq1 := congrArg Int32.toInt (kp_d (j := (243 : Int).toNat) hKp25 gca rfl (by unfold dpc; omega))
      have hq0 := congrArg Int32.toInt (kp_d (j := (((244 + (9 * a1)))).toNat) hKp25 gca rfl (dpcR (a := 0) (r := ((244 + (9 * a1)))) (by omega) (by omega) (by omega) (by omega) (by omega)))
      refine q_goI (q_runV (As := [.int v28]) (rest := [.int v63, .ref h0]) E hC25 hS25 (m_X12_does l X Γ H25 hC25 h0 g0 v28 (a1 := (244 + (9 * a1))) ev28i ca gca uc hU25 (SW.kp hsw0 hKp25 gca rfl hn0.2) (a1) (by omega) (by omega) (by omega)) cw_X12_does cl_RX12_459 g0 ⟨rfl, rfl⟩ rfl hl.1 rfl (show _ ≤ _ from by simp [Value.category]) ⟨by omega, by omega⟩ dX12_doOne_60) hS25 (fun v64 H64 locs64 hr64 hC64 hS64 => ?_)
      obtain ⟨hp64, hr64⟩ := hr64
      obtain ⟨hp64p, hU64⟩ := hp64
      have hKp64 := hKp25.tr (hp64p.mono rfl)
      rcases hr64 with rfl | rfl
      · refine q_if_eq hx hb (a := 0) (by decide) (tgt := 70) dX12_doOne_63 rfl (fun c65 => ?_) (fun c65 => absurd c65 (by omega))
        refine lv_iconst (v := 1) hx hb dX12_doOne_70 rfl ?_
        refine lv_iadd hx hb dX12_doOne_71 (lv_topi (fun v66 ev66 => ?_))
        refine q_put E hC64 hS64 g0 fp_RX12_456 tv_F rfl rfl dX12_doOne_72 (fun H67 locs67 hC67 hS67 U67 => ?_)
        have hKp67 := Kp.upO E g0 fp_RX12_456 rfl U67 hKp64
        have e68 := up_I U67
        have hU67 := UH.ne hU64 U67 (Or.inl (nek g0 gca (by decide)))
        refine lv_goto (tgt := 176) hx hb dX12_doOne_75 rfl ?_
        exact ret H67 locs67 _ _ dX12_doOne_176 ⟨hKp67, hU67⟩ hC67 hS67
      · refine q_if_eq hx hb (a := 1) (by decide) (tgt := 70) dX12_doOne_63 rfl (fun c69 => absurd c69 (by omega)) (fun c69 => ?_)
        refine lv_iconst (v := 0) hx hb dX12_doOne_66 rfl ?_
        refine lv_goto (tgt := 71) hx hb dX12_doOne_67 rfl ?_
        refine lv_iadd hx hb dX12_doOne_71 (lv_topi (fun v70 ev70 => ?_))
        have c71 := i_rng v63; rw [show v63.toInt = v63.toInt from rfl] at c71
        have ev70i : v70.toInt = (v63.toInt + 0) := i_add ev70 rfl (by decide) (by omega) (by omega)
        refine q_put E hC64 hS64 g0 fp_RX12_456 tv_F rfl rfl dX12_doOne_72 (fun H72 locs72 hC72 hS72 U72 => ?_)
        have hKp72 := Kp.upO E g0 fp_RX12_456 rfl U72 hKp64
        have e73 := up_I U72
        have hU72 := UH.ne hU64 U72 (Or.inl (nek g0 gca (by decide)))
        refine lv_goto (tgt := 176) hx hb dX12_doOne_75 rfl ?_
        exact ret H72 locs72 _ _ dX12_doOne_176 ⟨hKp72, hU72⟩ hC72 hS72
  · refine lv_aload_n hx hb dX12_doOne_10 rfl (lv_at hl 0 rfl) ?_
    refine lv_iconst (v := 1) hx hb dX12_doOne_11 rfl ?_
    refine q_put E hC0 hS0 g0 fp_RX12_450 (tv_I (show (1 : Int32).toInt = 1 from by decide) (by omega) (by omega)) (z_of (z01 (show (1 : Int32).toInt = 1 from by decide) (by omega) (by omega))) (fit_B (z01 (show (1 : Int32).toInt = 1 from by decide) (by omega) (by omega))) dX12_doOne_12 (fun H74 locs74 hC74 hS74 U74 => ?_)
    have hKp74 := Kp.upO E g0 fp_RX12_450 rfl U74 hKp0
    have e75 := up_I U74
    have hU74 := UH.ne hu0 U74 (Or.inl (nek g0 gca (by decide)))
    refine lv_aload_n hx hb dX12_doOne_15 rfl (lv_at hl 0 rfl) ?_
    refine lv_iconst (v := 1) hx hb dX12_doOne_16 rfl ?_
    refine q_put E hC74 hS74 g0 fp_RX12_453 tv_F rfl rfl dX12_doOne_17 (fun H76 locs76 hC76 hS76 U76 => ?_)
    have hKp76 := Kp.upO E g0 fp_RX12_453 rfl U76 hKp74
    have e77 := up_I U76
    have hU76 := UH.ne hU74 U76 (Or.inl (nek g0 gca (by decide)))
    exact ret H76 locs76 _ _ dX12_doOne_20 ⟨hKp76, hU76⟩ hC76 hS76
set_option maxRecDepth 100000 in
set_option maxHeartbeats 4000000 in
theorem m_X12_doAll (l : Launch) (X : xW) (Γ : Nat → Option Nat) : ∀ (d : Nat) (H0 : Heap) (hC0 : Conf X Γ H0) (h0 : Nat) (g0 : Γ h0 = some 11) (p1 : Int32) {a1 : Int} (e1 : p1.toInt = a1) (p2 : Int32) {a2 : Int} (e2 : p2.toInt = a2) (ca : Nat) (gca : Γ ca = some 64) (uc : ∀ a, Γ a = some 64 → a = ca) (oa : Nat) (goa : Γ oa = some 68) (uo : ∀ a, Γ a = some 68 → a = oa) (hu0 : UH H0 ca) (hsw0 : SW H0 ca 0) (r0 : 0 ≤ a1) (r1 : a1 + (d : Int) = 30) (r2 : a2 ≤ (sI H0 ca (243 : Int).toNat).toInt), Ctr l X Γ yX12_doAll cX12_doAll 4 none (7 + 2 * d) [.ref h0, .int p1, .int p2] H0 (QV X Γ (fun H1 => (Kp X Γ [1, 6, 7, 8, 9, 10, 11, 14, 17, 19, 22, 24, 26, 28] H0 H1 ∧ UH H1 ca))) := by
  intro d
  induction d using Nat.strongRecOn with
  | _ d IH =>
    intro H0 hC0 h0 g0 p1 a1 e1 p2 a2 e2 ca gca uc oa goa uo hu0 hsw0 r0 r1 r2
    refine q_enterV (own := "SnowFortsModel") (by decide) rfl (Nat.le_of_ble_eq_true rfl) ?_
    intro p e s m args below meth c ls Qz E hl ret hS0
    have hx := E.1; have hb := E.2.1
    have hKp0 : Kp X Γ [1, 6, 7, 8, 9, 10, 11, 14, 17, 19, 22, 24, 26, 28] H0 H0 := Kp.rf
    have hl : lv_has ls 4 [(0, .ref h0), (1, .int p1), (2, .int p2)] := hl
    have hn0 := c243 hC0 gca
    refine lv_iload_n hx hb dX12_doAll_0 rfl (lv_at hl 1 rfl) ?_
    refine lv_istore_n hx hb dX12_doAll_1 rfl hl (by decide) rfl (fun ls hl => ?_)
    replace hl : lv_has ls 4 [(3, .int p1), (0, .ref h0), (1, .int p1), (2, .int p2)] := hl
    have L2 : ∀ (n22 : Nat) (H22 : Heap) (locs22 : List Loc) (v21 : Int32) (z21 : Int) (ls : Array Slot), (a2 - z21).toNat < n22 → v21.toInt = z21 → a1 ≤ z21 → z21 ≤ 30 → Conf X Γ H22 → va_S (AΓ Γ) H0 H22 locs22 → UH H22 ca → Kp X Γ [1, 6, 7, 8, 9, 10, 11, 14, 17, 19, 22, 24, 26, 28] H0 H22 → lv_has ls 4 [(3, .int v21), (0, .ref h0), (1, .int p1), (2, .int p2)] → W p l e (rmL (7 + 2 * d)) s m args below meth c H22 locs22 0 0 Qz (F0 m 2 ls []) := by
      intro n22
      induction n22 with
      | zero => intro H22 locs22 v21 z21 ls hm22 ev21 iv22_0 iv22_1 hC22 hS22 hU22 hKp22 hl; exact absurd hm22 (Nat.not_lt_zero _)
      | succ n22 ih22 =>
        intro H22 locs22 v21 z21 ls hm22 ev21 iv22_0 iv22_1 hC22 hS22 hU22 hKp22 hl
        refine lv_iload_n hx hb dX12_doAll_2 rfl (lv_at hl 0 rfl) ?_
        refine lv_iload_n hx hb dX12_doAll_3 rfl (lv_at hl 3 rfl) ?_
        refine q_icmp_ge hx hb (a := z21) (b := a2) ev21 e2 (tgt := 39) dX12_doAll_4 rfl (fun c23 => ?_) (fun c23 => ?_)
        · exact ret H22 locs22 _ _ dX12_doAll_39 ⟨hKp22, hU22⟩ hC22 hS22
        · refine lv_aload_n hx hb dX12_doAll_7 rfl (lv_at hl 1 rfl) ?_
          refine q_getI E hC22 g0 fa_RX12_450 dX12_doAll_8 (fun v24 ev24 lv24 uv24 => ?_)
          refine q_if_ne hx hb (a := v24.toInt) rfl (tgt := 39) dX12_doAll_11 rfl (fun c25 => ?_) (fun c25 => ?_)
          · exact ret H22 locs22 _ _ dX12_doAll_39 ⟨hKp22, hU22⟩ hC22 hS22
          · have hq1 := congrArg Int32.toInt (kp_d (j := (243 : Int).toNat) hKp22 gca rfl (by unfold dpc; omega))
            refine lv_aload_n hx hb dX12_doAll_14 rfl (lv_at hl 1 rfl) ?_
            refine lv_iload_n hx hb dX12_doAll_15 rfl (lv_at hl 0 rfl) ?_
            refine q_goV (q_runV (As := [.int v21]) (rest := []) E hC22 hS22 (m_X12_doOne l X Γ (30 - z21).toNat (fun d2 h2 => IH d2 (by omega)) H22 hC22 h0 g0 v21 (a1 := z21) ev21 ca gca uc oa goa uo hU22 (SW.kp hsw0 hKp22 gca rfl hn0.2) (by omega) (by omega) (by omega)) cw_X12_doOne cl_RX12_468 g0 ⟨rfl, rfl⟩ rfl hl.1 rfl (Nat.zero_le _) ⟨by omega, by omega⟩ dX12_doAll_16) hS22 (fun H26 locs26 hr26 hC26 hS26 => ?_)
            obtain ⟨hr26p, hU26⟩ := hr26
            have hKp26 := hKp22.tr (hr26p.mono rfl)
            have hq1 := congrArg Int32.toInt (kp_d (j := (243 : Int).toNat) hKp26 gca rfl (by unfold dpc; omega))
            have hst := SW.get (SW.kp hsw0 hKp26 gca rfl hn0.2) (s := z21) (w := (244 + (9 * z21)) ) (by omega) (by omega) rfl
            unfold stp at hst
            have hke := okS.e hst
            refine lv_aload_n hx hb dX12_doAll_19 rfl (lv_at hl 1 rfl) ?_
            refine q_getC E hC26 g0 fa_RX12_35 uc dX12_doAll_20 ?_
            refine lv_sipush (v := 244) hx hb dX12_doAll_23 rfl ?_
            refine lv_bipush (v := 9) hx hb dX12_doAll_26 rfl ?_
            refine lv_iload_n hx hb dX12_doAll_28 rfl (lv_at hl 0 rfl) ?_
            refine lv_imul hx hb dX12_doAll_29 (lv_topi (fun v27 ev27 => ?_))
            have ev27i : v27.toInt = (9 * z21) := i_mul ev27 (by decide) ev21 (by omega) (by omega)
            refine lv_iadd hx hb dX12_doAll_30 (lv_topi (fun v28 ev28 => ?_))
            have ev28i : v28.toInt = (244 + (9 * z21)) := i_add ev28 (by decide) ev27i (by omega) (by omega)
            refine lv_bipush (v := 8) hx hb dX12_doAll_31 rfl ?_
            refine lv_iadd hx hb dX12_doAll_33 (lv_topi (fun v29 ev29 => ?_))
            have ev29i : v29.toInt = ((244 + (9 * z21)) + 8) := i_add ev29 ev28i (by decide) (by omega) (by omega)
            refine q_cald E hC26 (lo := -2147483648) (hi := 2147483647) gca (a := ((244 + (9 * z21)) + 8)) ev29i (by omega) (by omega) (cr_c244 (by omega) (by omega)) dX12_doAll_34 (fun v30 ev30 _ _ => ?_)
            have m31 : (sI H26 ca (((244 + (9 * z21)) + 8) : Int).toNat).toInt = v30.toInt := congrArg Int32.toInt ev30
            refine lv_istore_n hx hb dX12_doAll_35 rfl hl (by decide) rfl (fun ls hl => ?_)
            replace hl : lv_has ls 4 [(3, .int v30), (0, .ref h0), (1, .int p1), (2, .int p2)] := hl
            refine lv_goto (tgt := 2) hx hb dX12_doAll_36 rfl ?_
            exact ih22 H26 locs26 v30 (v30.toInt) ls (by omega) rfl (by omega) (by omega) hC26 hS26 hU26 hKp26 hl
    exact L2 _ H0 [] p1 a1 ls (Nat.lt_succ_self _) e1 (by omega) (by omega) hC0 hS0 hu0 hKp0 hl
set_option maxRecDepth 100000 in
set_option maxHeartbeats 4000000 in
theorem m_X12_runs (l : Launch) (X : xW) (Γ : Nat → Option Nat) (H0 : Heap) (hC0 : Conf X Γ H0) (h0 : Nat) (g0 : Γ h0 = some 11) (p1 : Int32) {a1 : Int} (e1 : p1.toInt = a1) (ca : Nat) (gca : Γ ca = some 64) (uc : ∀ a, Γ a = some 64 → a = ca) (oa : Nat) (goa : Γ oa = some 68) (uo : ∀ a, Γ a = some 68 → a = oa) (hu0 : UH H0 ca) (hsw0 : SW H0 ca 0) (r0 : 0 ≤ a1) (r1 : a1 ≤ 65535) : Ctr l X Γ yX12_runs cX12_runs 2 none 68 [.ref h0, .int p1] H0 (QV X Γ (fun H1 => (Kp X Γ [1, 6, 7, 8, 9, 10, 11, 14, 17, 19, 22, 24, 26, 28] H0 H1 ∧ UH H1 ca))) := by
  refine q_enterV (own := "SnowFortsModel") (by decide) rfl (Nat.le_of_ble_eq_true rfl) ?_
  intro p e s m args below meth c ls Qz E hl ret hS0
  have hx := E.1; have hb := E.2.1
  have hKp0 : Kp X Γ [1, 6, 7, 8, 9, 10, 11, 14, 17, 19, 22, 24, 26, 28] H0 H0 := Kp.rf
  have hl : lv_has ls 2 [(0, .ref h0), (1, .int p1)] := hl
  have hn0 := c243 hC0 gca
  refine lv_aload_n hx hb dX12_runs_0 rfl (lv_at hl 0 rfl) ?_
  refine lv_iload_n hx hb dX12_runs_1 rfl (lv_at hl 1 rfl) ?_
  refine q_put E hC0 hS0 g0 fp_RX12_437 (tv_I e1 (by omega) (by omega)) rfl rfl dX12_runs_2 (fun H21 locs21 hC21 hS21 U21 => ?_)
  have hKp21 := Kp.upO E g0 fp_RX12_437 rfl U21 hKp0
  have e22 := up_I U21
  have hU21 := UH.ne hu0 U21 (Or.inl (nek g0 gca (by decide)))
  refine lv_aload_n hx hb dX12_runs_5 rfl (lv_at hl 0 rfl) ?_
  refine lv_iconst (v := 0) hx hb dX12_runs_6 rfl ?_
  refine q_put E hC21 hS21 g0 fp_RX12_447 tv_F rfl rfl dX12_runs_7 (fun H23 locs23 hC23 hS23 U23 => ?_)
  have hKp23 := Kp.upO E g0 fp_RX12_447 rfl U23 hKp21
  have e24 := up_I U23
  have hU23 := UH.ne hU21 U23 (Or.inl (nek g0 gca (by decide)))
  refine lv_aload_n hx hb dX12_runs_10 rfl (lv_at hl 0 rfl) ?_
  refine lv_iconst (v := 0) hx hb dX12_runs_11 rfl ?_
  refine q_put E hC23 hS23 g0 fp_RX12_456 tv_F rfl rfl dX12_runs_12 (fun H25 locs25 hC25 hS25 U25 => ?_)
  have hKp25 := Kp.upO E g0 fp_RX12_456 rfl U25 hKp23
  have e26 := up_I U25
  have hU25 := UH.ne hU23 U25 (Or.inl (nek g0 gca (by decide)))
  refine lv_aload_n hx hb dX12_runs_15 rfl (lv_at hl 0 rfl) ?_
  refine lv_iconst (v := 0) hx hb dX12_runs_16 rfl ?_
  refine q_put E hC25 hS25 g0 fp_RX12_444 tv_F rfl rfl dX12_runs_17 (fun H27 locs27 hC27 hS27 U27 => ?_)
  have hKp27 := Kp.upO E g0 fp_RX12_444 rfl U27 hKp25
  have e28 := up_I U27
  have hU27 := UH.ne hU25 U27 (Or.inl (nek g0 gca (by decide)))
  refine lv_aload_n hx hb dX12_runs_20 rfl (lv_at hl 0 rfl) ?_
  refine lv_iconst (v := 0) hx hb dX12_runs_21 rfl ?_
  refine q_put E hC27 hS27 g0 fp_RX12_453 tv_F rfl rfl dX12_runs_22 (fun H29 locs29 hC29 hS29 U29 => ?_)
  have hKp29 := Kp.upO E g0 fp_RX12_453 rfl U29 hKp27
  have e30 := up_I U29
  have hU29 := UH.ne hU27 U29 (Or.inl (nek g0 gca (by decide)))
  refine lv_aload_n hx hb dX12_runs_25 rfl (lv_at hl 0 rfl) ?_
  refine lv_iconst (v := 0) hx hb dX12_runs_26 rfl ?_
  refine q_put E hC29 hS29 g0 fp_RX12_450 (tv_I (show (0 : Int32).toInt = 0 from by decide) (by omega) (by omega)) (z_of (z01 (show (0 : Int32).toInt = 0 from by decide) (by omega) (by omega))) (fit_B (z01 (show (0 : Int32).toInt = 0 from by decide) (by omega) (by omega))) dX12_runs_27 (fun H31 locs31 hC31 hS31 U31 => ?_)
  have hKp31 := Kp.upO E g0 fp_RX12_450 rfl U31 hKp29
  have e32 := up_I U31
  have hU31 := UH.ne hU29 U31 (Or.inl (nek g0 gca (by decide)))
  have hq1 := congrArg Int32.toInt (kp_d (j := (243 : Int).toNat) hKp31 gca rfl (by unfold dpc; omega))
  refine lv_aload_n hx hb dX12_runs_30 rfl (lv_at hl 0 rfl) ?_
  refine lv_iconst (v := 0) hx hb dX12_runs_31 rfl ?_
  refine lv_aload_n hx hb dX12_runs_32 rfl (lv_at hl 0 rfl) ?_
  refine q_getC E hC31 g0 fa_RX12_35 uc dX12_runs_33 ?_
  refine lv_sipush (v := 243) hx hb dX12_runs_36 rfl ?_
  refine q_cald E hC31 (lo := 0) (hi := 30) gca (a := 243) (show (243 : Int32).toInt = 243 from by decide) (by omega) (by omega) (cr_c243 (by omega) (by omega)) dX12_runs_39 (fun v33 ev33 lv33 uv33 => ?_)
  have m34 : (sI H31 ca (243 : Int).toNat).toInt = v33.toInt := congrArg Int32.toInt ev33
  refine q_goV (q_runV (As := [.int 0, .int v33]) (rest := []) E hC31 hS31 (m_X12_doAll l X Γ 30 H31 hC31 h0 g0 0 (a1 := 0) (by decide) v33 (a2 := v33.toInt) rfl ca gca uc oa goa uo hU31 (SW.kp hsw0 hKp31 gca rfl hn0.2) (by omega) (by omega) (by omega)) cw_X12_doAll cl_RX12_465 g0 ⟨rfl, rfl⟩ rfl hl.1 rfl (Nat.zero_le _) (by decide) dX12_runs_40) hS31 (fun H35 locs35 hr35 hC35 hS35 => ?_)
  obtain ⟨hr35p, hU35⟩ := hr35
  have hKp35 := hKp31.tr (hr35p.mono rfl)
  exact ret H35 locs35 _ _ dX12_runs_43 ⟨hKp35, hU35⟩ hC35 hS35
set_option maxRecDepth 100000 in
set_option maxHeartbeats 4000000 in
theorem m_X12_run (l : Launch) (X : xW) (Γ : Nat → Option Nat) (H0 : Heap) (hC0 : Conf X Γ H0) (h0 : Nat) (g0 : Γ h0 = some 11) (p1 : Int32) {a1 : Int} (e1 : p1.toInt = a1) (ca : Nat) (gca : Γ ca = some 64) (uc : ∀ a, Γ a = some 64 → a = ca) (oa : Nat) (goa : Γ oa = some 68) (uo : ∀ a, Γ a = some 68 → a = oa) (hu0 : UH H0 ca) (hsw0 : SW H0 ca 0) : Ctr l X Γ yX12_run cX12_run 3 (some .int) 69 [.ref h0, .int p1] H0 (QI X Γ (fun v H1 => (Kp X Γ [1, 6, 7, 8, 9, 10, 11, 14, 17, 19, 22, 24, 26, 28] H0 H1 ∧ UH H1 ca) ∧ (True))) := by
  refine q_enterI (own := "SnowFortsModel") (by decide) rfl (Nat.le_of_ble_eq_true rfl) ?_
  intro p e s m args below meth c ls Qz E hl ret hS0
  have hx := E.1; have hb := E.2.1
  have hKp0 : Kp X Γ [1, 6, 7, 8, 9, 10, 11, 14, 17, 19, 22, 24, 26, 28] H0 H0 := Kp.rf
  have hl : lv_has ls 3 [(0, .ref h0), (1, .int p1)] := hl
  have hn0 := c243 hC0 gca
  refine lv_aload_n hx hb dX12_run_0 rfl (lv_at hl 0 rfl) ?_
  refine lv_iconst (v := 0) hx hb dX12_run_1 rfl ?_
  refine q_put E hC0 hS0 g0 fp_RX12_69 tv_F rfl rfl dX12_run_2 (fun H21 locs21 hC21 hS21 U21 => ?_)
  have hKp21 := Kp.upO E g0 fp_RX12_69 rfl U21 hKp0
  have e22 := up_I U21
  have hU21 := UH.ne hu0 U21 (Or.inl (nek g0 gca (by decide)))
  refine lv_aload_n hx hb dX12_run_5 rfl (lv_at hl 0 rfl) ?_
  refine lv_iconst (v := 0) hx hb dX12_run_6 rfl ?_
  refine q_put E hC21 hS21 g0 fp_RX12_72 tv_F rfl rfl dX12_run_7 (fun H23 locs23 hC23 hS23 U23 => ?_)
  have hKp23 := Kp.upO E g0 fp_RX12_72 rfl U23 hKp21
  have e24 := up_I U23
  have hU23 := UH.ne hU21 U23 (Or.inl (nek g0 gca (by decide)))
  refine lv_iload_n hx hb dX12_run_10 rfl (lv_at hl 1 rfl) ?_
  refine lv_i2l (v := p1.toInt64) hx hb dX12_run_11 rfl (lv_topl (fun v25 ev25 => ?_))
  have ev25i : v25.toInt = a1 := l_ofi ev25.symm e1
  refine lv_lconst (v := 0) hx hb dX12_run_12 rfl ?_
  refine lv_ldc2 (v := 9999) hx hb E.2.2.2.1 (E.2.2.2.2.1 _ w_1954) dX12_run_13 ?_
  refine q_goIp (q_runS (As := [.long v25, .long 0, .long 9999]) (rest := []) E hS23 (m_X12_isIn l X Γ H23 hC23 v25 (a0 := a1) ev25i 0 (a1 := 0) (show (0 : Int64).toInt = 0 from by decide) 9999 (a2 := 9999) (show (9999 : Int64).toInt = 9999 from by decide)) cw_X12_isIn cl_RX12_104 rfl hl.1 rfl (Nat.zero_le _) (by decide) dX12_run_16) hS23 (fun v26 locs26 hr26 hS26 => ?_)
  rcases hr26 with ⟨rfl, f26a0, f26a1⟩ | ⟨rfl, f26b⟩
  · refine q_if_ne hx hb (a := 1) (by decide) (tgt := 28) dX12_run_19 rfl (fun c27 => ?_) (fun c27 => absurd c27 (by omega))
    refine lv_aload_n hx hb dX12_run_28 rfl (lv_at hl 0 rfl) ?_
    refine q_getC E hC23 g0 fa_RX12_35 uc dX12_run_29 ?_
    refine lv_sipush (v := 242) hx hb dX12_run_32 rfl ?_
    refine q_cald E hC23 (lo := -2147483648) (hi := 2147483647) gca (a := 242) (show (242 : Int32).toInt = 242 from by decide) (by omega) (by omega) (cr_c134 (by omega) (by omega)) dX12_run_35 (fun v28 ev28 _ _ => ?_)
    have m29 : (sI H23 ca (242 : Int).toNat).toInt = v28.toInt := congrArg Int32.toInt ev28
    refine q_if_ne hx hb (a := v28.toInt) rfl (tgt := 46) dX12_run_36 rfl (fun c30 => ?_) (fun c30 => ?_)
    · refine lv_aload_n hx hb dX12_run_46 rfl (lv_at hl 0 rfl) ?_
      refine q_getC E hC23 g0 fa_RX12_35 uc dX12_run_47 ?_
      refine lv_iconst (v := 4) hx hb dX12_run_50 rfl ?_
      refine q_cald E hC23 (lo := -2147483648) (hi := 2147483647) gca (a := 4) (show (4 : Int32).toInt = 4 from by decide) (by omega) (by omega) (cr_c3 (by omega) (by omega)) dX12_run_51 (fun v31 ev31 _ _ => ?_)
      have m32 : (sI H23 ca (4 : Int).toNat).toInt = v31.toInt := congrArg Int32.toInt ev31
      refine lv_istore_n hx hb dX12_run_52 rfl hl (by decide) rfl (fun ls hl => ?_)
      replace hl : lv_has ls 3 [(2, .int v31), (0, .ref h0), (1, .int p1)] := hl
      refine lv_aload_n hx hb dX12_run_53 rfl (lv_at hl 1 rfl) ?_
      refine lv_iload_n hx hb dX12_run_54 rfl (lv_at hl 2 rfl) ?_
      refine q_goV (q_runV (As := [.int p1]) (rest := []) E hC23 hS26 (m_X12_runs l X Γ H23 hC23 h0 g0 p1 (a1 := a1) e1 ca gca uc oa goa uo hU23 (SW.kp hsw0 hKp23 gca rfl hn0.2) (by omega) (by omega)) cw_X12_runs cl_RX12_473 g0 ⟨rfl, rfl⟩ rfl hl.1 rfl (Nat.zero_le _) (by decide) dX12_run_55) hS26 (fun H33 locs33 hr33 hC33 hS33 => ?_)
      obtain ⟨hr33p, hU33⟩ := hr33
      have hKp33 := hKp23.tr (hr33p.mono rfl)
      refine lv_aload_n hx hb dX12_run_58 rfl (lv_at hl 1 rfl) ?_
      refine q_getR E hC33 g0 fa_RX12_66 dX12_run_59 (fun q34 eq34 gq34 => ?_)
      refine lv_iconst (v := 0) hx hb dX12_run_62 rfl ?_
      refine lv_aload_n hx hb dX12_run_63 rfl (lv_at hl 1 rfl) ?_
      refine q_getI E hC33 g0 fa_RX12_456 dX12_run_64 (fun v35 ev35 _ _ => ?_)
      refine q_iast E hC33 hS33 gq34 (by decide) rfl rfl (i_in (a := 0) (show (0 : Int32).toInt = 0 from by decide) (by omega) (by omega)) tv_F dX12_run_67 (fun H36 locs36 hC36 hS36 U36 => ?_)
      have hKp36 := Kp.upA gq34 rfl (by decide) rfl U36 hKp33
      have hU36 := UH.ne hU33 U36 (Or.inl (nek gq34 gca (by decide)))
      refine lv_aload_n hx hb dX12_run_68 rfl (lv_at hl 1 rfl) ?_
      refine q_getR E hC36 g0 fa_RX12_66 dX12_run_69 (fun q37 eq37 gq37 => ?_)
      refine lv_iconst (v := 1) hx hb dX12_run_72 rfl ?_
      refine lv_aload_n hx hb dX12_run_73 rfl (lv_at hl 1 rfl) ?_
      refine q_getI E hC36 g0 fa_RX12_444 dX12_run_74 (fun v38 ev38 _ _ => ?_)
      refine q_iast E hC36 hS36 gq37 (by decide) rfl rfl (i_in (a := 1) (show (1 : Int32).toInt = 1 from by decide) (by omega) (by omega)) tv_F dX12_run_77 (fun H39 locs39 hC39 hS39 U39 => ?_)
      have hKp39 := Kp.upA gq37 rfl (by decide) rfl U39 hKp36
      have hU39 := UH.ne hU36 U39 (Or.inl (nek gq37 gca (by decide)))
      refine lv_aload_n hx hb dX12_run_78 rfl (lv_at hl 1 rfl) ?_
      refine q_getR E hC39 g0 fa_RX12_66 dX12_run_79 (fun q40 eq40 gq40 => ?_)
      refine lv_iconst (v := 2) hx hb dX12_run_82 rfl ?_
      refine lv_aload_n hx hb dX12_run_83 rfl (lv_at hl 1 rfl) ?_
      refine q_getC E hC39 g0 fa_RX12_35 uc dX12_run_84 ?_
      refine lv_iconst (v := 4) hx hb dX12_run_87 rfl ?_
      refine q_cald E hC39 (lo := -2147483648) (hi := 2147483647) gca (a := 4) (show (4 : Int32).toInt = 4 from by decide) (by omega) (by omega) (cr_c3 (by omega) (by omega)) dX12_run_88 (fun v41 ev41 _ _ => ?_)
      have m42 : (sI H39 ca (4 : Int).toNat).toInt = v41.toInt := congrArg Int32.toInt ev41
      refine lv_iload_n hx hb dX12_run_89 rfl (lv_at hl 0 rfl) ?_
      refine lv_isub hx hb dX12_run_90 (lv_topi (fun v43 ev43 => ?_))
      refine q_iast E hC39 hS39 gq40 (by decide) rfl rfl (i_in (a := 2) (show (2 : Int32).toInt = 2 from by decide) (by omega) (by omega)) tv_F dX12_run_91 (fun H44 locs44 hC44 hS44 U44 => ?_)
      have hKp44 := Kp.upA gq40 rfl (by decide) rfl U44 hKp39
      have hU44 := UH.ne hU39 U44 (Or.inl (nek gq40 gca (by decide)))
      refine lv_aload_n hx hb dX12_run_92 rfl (lv_at hl 1 rfl) ?_
      refine q_getR E hC44 g0 fa_RX12_66 dX12_run_93 (fun q45 eq45 gq45 => ?_)
      refine lv_iconst (v := 3) hx hb dX12_run_96 rfl ?_
      refine lv_aload_n hx hb dX12_run_97 rfl (lv_at hl 1 rfl) ?_
      refine q_getI E hC44 g0 fa_RX12_453 dX12_run_98 (fun v46 ev46 _ _ => ?_)
      refine q_iast E hC44 hS44 gq45 (by decide) rfl rfl (i_in (a := 3) (show (3 : Int32).toInt = 3 from by decide) (by omega) (by omega)) tv_F dX12_run_101 (fun H47 locs47 hC47 hS47 U47 => ?_)
      have hKp47 := Kp.upA gq45 rfl (by decide) rfl U47 hKp44
      have hU47 := UH.ne hU44 U47 (Or.inl (nek gq45 gca (by decide)))
      refine lv_aload_n hx hb dX12_run_102 rfl (lv_at hl 1 rfl) ?_
      refine lv_iconst (v := 1) hx hb dX12_run_103 rfl ?_
      refine q_put E hC47 hS47 g0 fp_RX12_476 (tv_I (show (1 : Int32).toInt = 1 from by decide) (by omega) (by omega)) (z_of (z01 (show (1 : Int32).toInt = 1 from by decide) (by omega) (by omega))) (fit_B (z01 (show (1 : Int32).toInt = 1 from by decide) (by omega) (by omega))) dX12_run_104 (fun H48 locs48 hC48 hS48 U48 => ?_)
      have hKp48 := Kp.upO E g0 fp_RX12_476 rfl U48 hKp47
      have e49 := up_I U48
      have hU48 := UH.ne hU47 U48 (Or.inl (nek g0 gca (by decide)))
      refine lv_aload_n hx hb dX12_run_107 rfl (lv_at hl 1 rfl) ?_
      refine q_getI E hC48 g0 fa_RX12_447 dX12_run_108 (fun v50 ev50 _ _ => ?_)
      exact ret v50 H48 locs48 _ _ dX12_run_111 ⟨⟨hKp48, hU48⟩, trivial⟩ hC48 hS48
    · refine lv_aload_n hx hb dX12_run_39 rfl (lv_at hl 0 rfl) ?_
      refine lv_bipush (v := 8) hx hb dX12_run_40 rfl ?_
      refine q_goI (q_runV (As := [.int 8]) (rest := []) E hC23 hS26 (m_X12_refuse l X Γ H23 hC23 h0 g0 8 (a1 := 8) (by decide) ca gca uc) cw_X12_refuse cl_RX12_298 g0 ⟨rfl, rfl⟩ rfl hl.1 rfl (Nat.zero_le _) (by decide) dX12_run_42) hS26 (fun v51 H51 locs51 hr51 hC51 hS51 => ?_)
      obtain ⟨hp51, hr51⟩ := hr51
      have hU51 := UH.kp hU23 hp51 gca rfl rfl
      have hKp51 := hKp23.tr (hp51.mono rfl)
      have f51_0 := hr51
      exact ret v51 H51 locs51 _ _ dX12_run_45 ⟨⟨hKp51, hU51⟩, trivial⟩ hC51 hS51
  · refine q_if_ne hx hb (a := 0) (by decide) (tgt := 28) dX12_run_19 rfl (fun c52 => absurd c52 (by omega)) (fun c52 => ?_)
    refine lv_aload_n hx hb dX12_run_22 rfl (lv_at hl 0 rfl) ?_
    refine lv_iconst (v := 5) hx hb dX12_run_23 rfl ?_
    refine q_goI (q_runV (As := [.int 5]) (rest := []) E hC23 hS26 (m_X12_refuse l X Γ H23 hC23 h0 g0 5 (a1 := 5) (by decide) ca gca uc) cw_X12_refuse cl_RX12_298 g0 ⟨rfl, rfl⟩ rfl hl.1 rfl (Nat.zero_le _) (by decide) dX12_run_24) hS26 (fun v53 H53 locs53 hr53 hC53 hS53 => ?_)
    obtain ⟨hp53, hr53⟩ := hr53
    have hU53 := UH.kp hU23 hp53 gca rfl rfl
    have hKp53 := hKp23.tr (hp53.mono rfl)
    have f53_0 := hr53
    exact ret v53 H53 locs53 _ _ dX12_run_27 ⟨⟨hKp53, hU53⟩, trivial⟩ hC53 hS53
set_option maxRecDepth 100000 in
set_option maxHeartbeats 4000000 in
theorem m_X12_ran (l : Launch) (X : xW) (Γ : Nat → Option Nat) (H0 : Heap) (hC0 : Conf X Γ H0) (h0 : Nat) (g0 : Γ h0 = some 11) (p1 : Int32) {a1 : Int} (e1 : p1.toInt = a1) (ca : Nat) (gca : Γ ca = some 64) (uc : ∀ a, Γ a = some 64 → a = ca) : Ctr l X Γ yX12_ran cX12_ran 2 (some .int) 1 [.ref h0, .int p1] H0 (QI X Γ (fun v H1 => Kp X Γ [1, 6, 7, 8, 9, 10, 11, 12, 14, 15, 16, 17, 19, 22, 24, 26, 28] H0 H1 ∧ (True))) := by
  refine q_enterI (own := "SnowFortsModel") (by decide) rfl (Nat.le_of_ble_eq_true rfl) ?_
  intro p e s m args below meth c ls Qz E hl ret hS0
  have hx := E.1; have hb := E.2.1
  have hKp0 : Kp X Γ [1, 6, 7, 8, 9, 10, 11, 12, 14, 15, 16, 17, 19, 22, 24, 26, 28] H0 H0 := Kp.rf
  have hl : lv_has ls 2 [(0, .ref h0), (1, .int p1)] := hl
  refine lv_aload_n hx hb dX12_ran_0 rfl (lv_at hl 0 rfl) ?_
  refine lv_iconst (v := 0) hx hb dX12_ran_1 rfl ?_
  refine q_put E hC0 hS0 g0 fp_RX12_69 tv_F rfl rfl dX12_ran_2 (fun H21 locs21 hC21 hS21 U21 => ?_)
  have hKp21 := Kp.upO E g0 fp_RX12_69 rfl U21 hKp0
  have e22 := up_I U21
  refine lv_aload_n hx hb dX12_ran_5 rfl (lv_at hl 0 rfl) ?_
  refine lv_iconst (v := 0) hx hb dX12_ran_6 rfl ?_
  refine q_put E hC21 hS21 g0 fp_RX12_72 tv_F rfl rfl dX12_ran_7 (fun H23 locs23 hC23 hS23 U23 => ?_)
  have hKp23 := Kp.upO E g0 fp_RX12_72 rfl U23 hKp21
  have e24 := up_I U23
  refine lv_iload_n hx hb dX12_ran_10 rfl (lv_at hl 1 rfl) ?_
  refine lv_i2l (v := p1.toInt64) hx hb dX12_ran_11 rfl (lv_topl (fun v25 ev25 => ?_))
  have ev25i : v25.toInt = a1 := l_ofi ev25.symm e1
  refine lv_lconst (v := 0) hx hb dX12_ran_12 rfl ?_
  refine lv_ldc2 (v := 3) hx hb E.2.2.2.1 (E.2.2.2.2.1 _ w_1716) dX12_ran_13 ?_
  refine q_goIp (q_runS (As := [.long v25, .long 0, .long 3]) (rest := []) E hS23 (m_X12_isIn l X Γ H23 hC23 v25 (a0 := a1) ev25i 0 (a1 := 0) (show (0 : Int64).toInt = 0 from by decide) 3 (a2 := 3) (show (3 : Int64).toInt = 3 from by decide)) cw_X12_isIn cl_RX12_104 rfl hl.1 rfl (Nat.zero_le _) (by decide) dX12_ran_16) hS23 (fun v26 locs26 hr26 hS26 => ?_)
  rcases hr26 with ⟨rfl, f26a0, f26a1⟩ | ⟨rfl, f26b⟩
  · refine q_if_ne hx hb (a := 1) (by decide) (tgt := 28) dX12_ran_19 rfl (fun c27 => ?_) (fun c27 => absurd c27 (by omega))
    refine lv_aload_n hx hb dX12_ran_28 rfl (lv_at hl 0 rfl) ?_
    refine q_getI E hC23 g0 fa_RX12_476 dX12_ran_29 (fun v28 ev28 lv28 uv28 => ?_)
    refine q_if_eq hx hb (a := v28.toInt) rfl (tgt := 44) dX12_ran_32 rfl (fun c29 => ?_) (fun c29 => ?_)
    · refine lv_aload_n hx hb dX12_ran_44 rfl (lv_at hl 0 rfl) ?_
      refine lv_bipush (v := 8) hx hb dX12_ran_45 rfl ?_
      refine q_goI (q_runV (As := [.int 8]) (rest := []) E hC23 hS26 (m_X12_refuse l X Γ H23 hC23 h0 g0 8 (a1 := 8) (by decide) ca gca uc) cw_X12_refuse cl_RX12_298 g0 ⟨rfl, rfl⟩ rfl hl.1 rfl (Nat.zero_le _) (by decide) dX12_ran_47) hS26 (fun v30 H30 locs30 hr30 hC30 hS30 => ?_)
      obtain ⟨hp30, hr30⟩ := hr30
      have hKp30 := hKp23.tr (hp30.mono rfl)
      have f30_0 := hr30
      exact ret v30 H30 locs30 _ _ dX12_ran_50 ⟨hKp30, trivial⟩ hC30 hS30
    · refine lv_aload_n hx hb dX12_ran_35 rfl (lv_at hl 0 rfl) ?_
      refine q_getR E hC23 g0 fa_RX12_66 dX12_ran_36 (fun q31 eq31 gq31 => ?_)
      refine lv_iload_n hx hb dX12_ran_39 rfl (lv_at hl 1 rfl) ?_
      refine q_iald E hC23 gq31 rfl rfl (fun _ h => h) (i_in (a := a1) e1 (by omega) (by omega)) dX12_ran_40 (fun v32 ev32 _ _ => ?_)
      refine lv_goto (tgt := 50) hx hb dX12_ran_41 rfl ?_
      exact ret v32 H23 locs26 _ _ dX12_ran_50 ⟨hKp23, trivial⟩ hC23 hS26
  · refine q_if_ne hx hb (a := 0) (by decide) (tgt := 28) dX12_ran_19 rfl (fun c33 => absurd c33 (by omega)) (fun c33 => ?_)
    refine lv_aload_n hx hb dX12_ran_22 rfl (lv_at hl 0 rfl) ?_
    refine lv_iconst (v := 5) hx hb dX12_ran_23 rfl ?_
    refine q_goI (q_runV (As := [.int 5]) (rest := []) E hC23 hS26 (m_X12_refuse l X Γ H23 hC23 h0 g0 5 (a1 := 5) (by decide) ca gca uc) cw_X12_refuse cl_RX12_298 g0 ⟨rfl, rfl⟩ rfl hl.1 rfl (Nat.zero_le _) (by decide) dX12_ran_24) hS26 (fun v34 H34 locs34 hr34 hC34 hS34 => ?_)
    obtain ⟨hp34, hr34⟩ := hr34
    have hKp34 := hKp23.tr (hp34.mono rfl)
    have f34_0 := hr34
    exact ret v34 H34 locs34 _ _ dX12_ran_27 ⟨hKp34, trivial⟩ hC34 hS34
