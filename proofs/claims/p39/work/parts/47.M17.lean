set_option maxRecDepth 100000 in
set_option maxHeartbeats 4000000 in
theorem m_X12_peaces (l : Launch) (X : xW) (Γ : Nat → Option Nat) (H0 : Heap) (hC0 : Conf X Γ H0) (h0 : Nat) (g0 : Γ h0 = some 11) (p1 : Int32) {a1 : Int} (e1 : p1.toInt = a1) (p2 : Int32) {a2 : Int} (e2 : p2.toInt = a2) (ca : Nat) (gca : Γ ca = some 64) (uc : ∀ a, Γ a = some 64 → a = ca) (oa : Nat) (goa : Γ oa = some 68) (uo : ∀ a, Γ a = some 68 → a = oa) (ka : Nat) (gka : Γ ka = some 65) (uk : ∀ a, Γ a = some 65 → a = ka) (hsw0 : SW H0 ca 0) (hu0 : UH H0 ca) : Ctr l X Γ yX12_peaces cX12_peaces 6 (some .boolean) 69 [.ref h0, .int p1, .int p2] H0 (QI X Γ (fun v H1 => Kp X Γ [1, 6, 7, 8, 9, 14, 17, 19, 22, 24, 26, 28] H0 H1 ∧ ((KD H0 H1 ca 0 0)))) := by
  refine q_enterZ (own := "SnowFortsModel") (by decide) rfl (Nat.le_of_ble_eq_true rfl) ?_
  intro p e s m args below meth c ls Qz E hl ret hS0
  have hx := E.1; have hb := E.2.1
  have hKp0 : Kp X Γ [1, 6, 7, 8, 9, 14, 17, 19, 22, 24, 26, 28] H0 H0 := Kp.rf
  have hl : lv_has ls 6 [(0, .ref h0), (1, .int p1), (2, .int p2)] := hl
  have kb : KB H0 H0 ca 2600 := KB.rf
  have kd : KD H0 H0 ca 0 0 := KD.rf
  have hn0 := c243 hC0 gca
  refine lv_aload_n hx hb dX12_peaces_0 rfl (lv_at hl 0 rfl) ?_
  refine lv_iconst (v := 0) hx hb dX12_peaces_1 rfl ?_
  refine q_put E hC0 hS0 g0 fp_RX12_69 tv_F rfl rfl dX12_peaces_2 (fun H21 locs21 hC21 hS21 U21 => ?_)
  have hKp21 := Kp.upO E g0 fp_RX12_69 rfl U21 hKp0
  have e22 := up_I U21
  replace kb : KB H0 H21 ca 2600 := KB.ne kb U21 (nek g0 gca (by decide))
  replace kd : KD H0 H21 ca 0 0 := KD.ne kd U21 (nek g0 gca (by decide))
  refine lv_aload_n hx hb dX12_peaces_5 rfl (lv_at hl 0 rfl) ?_
  refine lv_iconst (v := 0) hx hb dX12_peaces_6 rfl ?_
  refine q_put E hC21 hS21 g0 fp_RX12_72 tv_F rfl rfl dX12_peaces_7 (fun H23 locs23 hC23 hS23 U23 => ?_)
  have hKp23 := Kp.upO E g0 fp_RX12_72 rfl U23 hKp21
  have e24 := up_I U23
  replace kb : KB H0 H23 ca 2600 := KB.ne kb U23 (nek g0 gca (by decide))
  replace kd : KD H0 H23 ca 0 0 := KD.ne kd U23 (nek g0 gca (by decide))
  refine lv_iload_n hx hb dX12_peaces_10 rfl (lv_at hl 2 rfl) ?_
  refine lv_i2l (v := p2.toInt64) hx hb dX12_peaces_11 rfl (lv_topl (fun v25 ev25 => ?_))
  have ev25i : v25.toInt = a2 := l_ofi ev25.symm e2
  refine lv_lconst (v := 1) hx hb dX12_peaces_12 rfl ?_
  refine lv_ldc2 (v := 20) hx hb E.2.2.2.1 (E.2.2.2.2.1 _ w_1903) dX12_peaces_13 ?_
  refine q_goIp (q_runS (As := [.long v25, .long 1, .long 20]) (rest := []) E hS23 (m_X12_isIn l X Γ H23 hC23 v25 (a0 := a2) ev25i 1 (a1 := 1) (show (1 : Int64).toInt = 1 from by decide) 20 (a2 := 20) (show (20 : Int64).toInt = 20 from by decide)) cw_X12_isIn cl_RX12_104 rfl hl.1 rfl (Nat.zero_le _) (by decide) dX12_peaces_16) hS23 (fun v26 locs26 hr26 hS26 => ?_)
  rcases hr26 with ⟨rfl, f26a0, f26a1⟩ | ⟨rfl, f26b⟩
  · refine q_if_eq hx hb (a := 1) (by decide) (tgt := 37) dX12_peaces_19 rfl (fun c27 => absurd c27 (by omega)) (fun c27 => ?_)
    refine lv_iload_n hx hb dX12_peaces_22 rfl (lv_at hl 1 rfl) ?_
    refine lv_i2l (v := p1.toInt64) hx hb dX12_peaces_23 rfl (lv_topl (fun v28 ev28 => ?_))
    have ev28i : v28.toInt = a1 := l_ofi ev28.symm e1
    refine lv_lconst (v := 0) hx hb dX12_peaces_24 rfl ?_
    refine lv_sipush (v := 10000) hx hb dX12_peaces_25 rfl ?_
    refine lv_iload_n hx hb dX12_peaces_28 rfl (lv_at hl 2 rfl) ?_
    refine lv_isub hx hb dX12_peaces_29 (lv_topi (fun v29 ev29 => ?_))
    have ev29i : v29.toInt = (10000 - a2) := i_sub ev29 (by decide) e2 (by omega) (by omega)
    refine lv_i2l (v := v29.toInt64) hx hb dX12_peaces_30 rfl (lv_topl (fun v30 ev30 => ?_))
    have ev30i : v30.toInt = (10000 - a2) := l_ofi ev30.symm ev29i
    refine q_goIp (q_runS (As := [.long v28, .long 0, .long v30]) (rest := []) E hS26 (m_X12_isIn l X Γ H23 hC23 v28 (a0 := a1) ev28i 0 (a1 := 0) (show (0 : Int64).toInt = 0 from by decide) v30 (a2 := (10000 - a2)) ev30i) cw_X12_isIn cl_RX12_104 rfl hl.1 rfl (Nat.zero_le _) (by decide) dX12_peaces_31) hS26 (fun v31 locs31 hr31 hS31 => ?_)
    rcases hr31 with ⟨rfl, f31a0, f31a1⟩ | ⟨rfl, f31b⟩
    · refine q_if_ne hx hb (a := 1) (by decide) (tgt := 43) dX12_peaces_34 rfl (fun c32 => ?_) (fun c32 => absurd c32 (by omega))
      refine lv_aload_n hx hb dX12_peaces_43 rfl (lv_at hl 0 rfl) ?_
      refine q_getC E hC23 g0 fa_RX12_35 uc dX12_peaces_44 ?_
      refine lv_sipush (v := 242) hx hb dX12_peaces_47 rfl ?_
      refine q_cald E hC23 (lo := -2147483648) (hi := 2147483647) gca (a := 242) (show (242 : Int32).toInt = 242 from by decide) (by omega) (by omega) (cr_c134 (by omega) (by omega)) dX12_peaces_50 (fun v33 ev33 _ _ => ?_)
      have m34 : (sI H23 ca (242 : Int).toNat).toInt = v33.toInt := congrArg Int32.toInt ev33
      refine q_if_ne hx hb (a := v33.toInt) rfl (tgt := 61) dX12_peaces_51 rfl (fun c35 => ?_) (fun c35 => ?_)
      · refine lv_iconst (v := 0) hx hb dX12_peaces_61 rfl ?_
        refine lv_istore_n hx hb dX12_peaces_62 rfl hl (by decide) rfl (fun ls hl => ?_)
        replace hl : lv_has ls 6 [(3, .int 0), (0, .ref h0), (1, .int p1), (2, .int p2)] := hl
        have L63 : ∀ (n37 : Nat) (H37 : Heap) (locs37 : List Loc) (v36 : Int32) (z36 : Int) (ls : Array Slot), (242 - z36).toNat < n37 → v36.toInt = z36 → z36 ≤ 242 → 0 ≤ z36 → KQ H0 H37 ca ka z36 → Conf X Γ H37 → va_S (AΓ Γ) H0 H37 locs37 → Kp X Γ [1, 6, 7, 8, 9, 14, 17, 19, 22, 24, 26, 28] H0 H37 → (KB H0 H37 ca 2600) → (KD H0 H37 ca 0 0) → lv_has ls 6 [(3, .int v36), (0, .ref h0), (1, .int p1), (2, .int p2)] → W p l e (rmL 69) s m args below meth c H37 locs37 0 0 Qz (F0 m 63 ls []) := by
          intro n37
          induction n37 with
          | zero => intro H37 locs37 v36 z36 ls hm37 ev36 iv37_0 iv37_1 iv37_2 hC37 hS37 hKp37 kb kd hl; exact absurd hm37 (Nat.not_lt_zero _)
          | succ n37 ih37 =>
            intro H37 locs37 v36 z36 ls hm37 ev36 iv37_0 iv37_1 iv37_2 hC37 hS37 hKp37 kb kd hl
            have kq := iv37_2
            refine lv_iload_n hx hb dX12_peaces_63 rfl (lv_at hl 0 rfl) ?_
            refine lv_sipush (v := 242) hx hb dX12_peaces_64 rfl ?_
            refine q_icmp_ge hx hb (a := z36) (b := 242) ev36 (by decide) (tgt := 88) dX12_peaces_67 rfl (fun c38 => ?_) (fun c38 => ?_)
            · have kq : KQ H0 H37 ca ka 242 := KQ.mono kq (by omega)
              refine lv_iconst (v := 0) hx hb dX12_peaces_88 rfl ?_
              refine lv_istore_n hx hb dX12_peaces_89 rfl hl (by decide) rfl (fun ls hl => ?_)
              replace hl : lv_has ls 6 [(3, .int 0), (0, .ref h0), (1, .int p1), (2, .int p2)] := hl
              refine lv_iconst (v := 0) hx hb dX12_peaces_90 rfl ?_
              refine lv_istore hx hb dX12_peaces_91 hl (by decide) rfl (fun ls hl => ?_)
              replace hl : lv_has ls 6 [(4, .int 0), (3, .int 0), (0, .ref h0), (1, .int p1), (2, .int p2)] := hl
              have L93 : ∀ (n41 : Nat) (H41 : Heap) (locs41 : List Loc) (v39 : Int32) (z39 : Int) (v40 : Int32) (z40 : Int) (ls : Array Slot), (a2 - z39).toNat < n41 → v39.toInt = z39 → v40.toInt = z40 → 0 ≤ z39 → 0 ≤ z40 → z40 ≤ z39 → z39 ≤ a2 → KD H0 H41 ca 0 0 → Conf X Γ H41 → va_S (AΓ Γ) H0 H41 locs41 → Kp X Γ [1, 6, 7, 8, 9, 14, 17, 19, 22, 24, 26, 28] H0 H41 → (KQ H0 H41 ca ka 242) → lv_has ls 6 [(4, .int v39), (3, .int v40), (0, .ref h0), (1, .int p1), (2, .int p2)] → W p l e (rmL 69) s m args below meth c H41 locs41 0 0 Qz (F0 m 93 ls []) := by
                intro n41
                induction n41 with
                | zero => intro H41 locs41 v39 z39 v40 z40 ls hm41 ev39 ev40 iv41_0 iv41_1 iv41_2 iv41_3 iv41_4 hC41 hS41 hKp41 kq hl; exact absurd hm41 (Nat.not_lt_zero _)
                | succ n41 ih41 =>
                  intro H41 locs41 v39 z39 v40 z40 ls hm41 ev39 ev40 iv41_0 iv41_1 iv41_2 iv41_3 iv41_4 hC41 hS41 hKp41 kq hl
                  have kd0 := iv41_4
                  refine lv_iload hx hb dX12_peaces_93 (lv_at hl 0 rfl) ?_
                  refine lv_iload_n hx hb dX12_peaces_95 rfl (lv_at hl 4 rfl) ?_
                  refine q_icmp_ge hx hb (a := z39) (b := a2) ev39 e2 (tgt := 164) dX12_peaces_96 rfl (fun c42 => ?_) (fun c42 => ?_)
                  · have kdt : KD H0 H41 ca 0 0 := kd0
                    refine lv_aload_n hx hb dX12_peaces_164 rfl (lv_at hl 2 rfl) ?_
                    refine lv_iload_n hx hb dX12_peaces_165 rfl (lv_at hl 1 rfl) ?_
                    refine lv_i2l (v := v40.toInt64) hx hb dX12_peaces_166 rfl (lv_topl (fun v43 ev43 => ?_))
                    have ev43i : v43.toInt = z40 := l_ofi ev43.symm ev40
                    refine lv_iload_n hx hb dX12_peaces_167 rfl (lv_at hl 4 rfl) ?_
                    refine lv_i2l (v := p2.toInt64) hx hb dX12_peaces_168 rfl (lv_topl (fun v44 ev44 => ?_))
                    have ev44i : v44.toInt = a2 := l_ofi ev44.symm e2
                    refine q_goI (q_runV (As := [.long v43, .long v44]) (rest := []) E hC41 hS41 (m_X12_fraction l X Γ H41 hC41 h0 g0 v43 (a1 := z40) ev43i v44 (a2 := a2) ev44i ca gca uc (by omega)) cw_X12_fraction cl_RX12_433 g0 ⟨rfl, rfl⟩ rfl hl.1 rfl (Nat.zero_le _) (by decide) dX12_peaces_169) hS41 (fun v45 H45 locs45 hr45 hC45 hS45 => ?_)
                    obtain ⟨hp45, hr45⟩ := hr45
                    have hKp45 := hKp41.tr (hp45.mono rfl)
                    replace kq : KQ H0 H45 ca ka 242 := KQ.kp kq hp45 gka rfl
                    replace kdt : KD H0 H45 ca 0 0 := KD.kp kdt hp45 gca rfl rfl
                    rcases hr45 with ⟨rfl, -⟩ | ⟨rfl, f45b⟩
                    · have hpost := kdt
                      have c46 : (1 : Int32).toInt = 1 := (by decide)
                      exact ret 1 H45 locs45 _ _ dX12_peaces_172 (Or.inr rfl) ⟨hKp45, hpost⟩ hC45 hS45
                    · exact absurd f45b (by decide)
                  · have hsw1 : SW H41 ca 0 := SW.kd hsw0 kd0 (by omega) (by omega) rfl (Or.inr (by omega)) hn0.2
                    have hun : UH H41 ca := UH.kd hu0 kd0
                    refine lv_aload_n hx hb dX12_peaces_99 rfl (lv_at hl 2 rfl) ?_
                    refine lv_iload_n hx hb dX12_peaces_100 rfl (lv_at hl 3 rfl) ?_
                    refine lv_iload hx hb dX12_peaces_101 (lv_at hl 0 rfl) ?_
                    refine lv_iadd hx hb dX12_peaces_103 (lv_topi (fun v47 ev47 => ?_))
                    have ev47i : v47.toInt = (a1 + z39) := i_add ev47 e1 ev39 (by omega) (by omega)
                    refine q_goV (q_runV (As := [.int v47]) (rest := []) E hC41 hS41 (m_X12_runs l X Γ H41 hC41 h0 g0 v47 (a1 := (a1 + z39)) ev47i ca gca uc oa goa uo hun hsw1 (by omega) (by omega)) cw_X12_runs cl_RX12_473 g0 ⟨rfl, rfl⟩ rfl hl.1 rfl (Nat.zero_le _) (by decide) dX12_peaces_104) hS41 (fun H48 locs48 hr48 hC48 hS48 => ?_)
                    obtain ⟨hr48p, hU48⟩ := hr48
                    have hKp48 := hKp41.tr (hr48p.mono rfl)
                    replace kq : KQ H0 H48 ca ka 242 := KQ.kp kq hr48p gka rfl
                    have kc : KC H0 H48 ca := KC.mk kd0 hr48p gca rfl
                    refine lv_iload_n hx hb dX12_peaces_107 rfl (lv_at hl 1 rfl) ?_
                    refine lv_aload_n hx hb dX12_peaces_108 rfl (lv_at hl 2 rfl) ?_
                    refine q_goI (q_runV (As := []) (rest := [.int v40]) E hC48 hS48 (m_X12_ways l X Γ H48 hC48 h0 g0 ca gca uc oa goa uo) cw_X12_ways cl_RX12_383 g0 ⟨rfl, rfl⟩ rfl hl.1 rfl (show _ ≤ _ from by simp [Value.category]) (by decide) dX12_peaces_109) hS48 (fun v49 H49 locs49 hr49 hC49 hS49 => ?_)
                    obtain ⟨hp49, hr49⟩ := hr49
                    have hKp49 := hKp48.tr (hp49.mono rfl)
                    replace kq : KQ H0 H49 ca ka 242 := KQ.kp kq hp49 gka rfl
                    replace kc : KC H0 H49 ca := KC.kp kc hp49 gca rfl
                    obtain ⟨f49_0, f49_1, f49_2⟩ := hr49
                    refine lv_sipush (v := 1000) hx hb dX12_peaces_112 rfl ?_
                    refine lv_idiv hx hb dX12_peaces_115 (by decide) (lv_topi (fun v50 ev50 => ?_))
                    have ev50i : v50.toInt = (v49.toInt / 1000) := i_div ev50 rfl (by decide) (by omega) (by decide)
                    refine lv_iconst (v := 4) hx hb dX12_peaces_116 rfl ?_
                    refine q_icmp_gt hx hb (a := (v49.toInt / 1000)) (b := 4) ev50i (by decide) (tgt := 124) dX12_peaces_117 rfl (fun c51 => ?_) (fun c51 => ?_)
                    · refine lv_iconst (v := 0) hx hb dX12_peaces_124 rfl ?_
                      refine lv_iadd hx hb dX12_peaces_125 (lv_topi (fun v52 ev52 => ?_))
                      have ev52i : v52.toInt = (z40 + 0) := i_add ev52 ev40 (by decide) (by omega) (by omega)
                      refine lv_istore_n hx hb dX12_peaces_126 rfl hl (by decide) rfl (fun ls hl => ?_)
                      replace hl : lv_has ls 6 [(3, .int v52), (4, .int v39), (0, .ref h0), (1, .int p1), (2, .int p2)] := hl
                      refine lv_iconst (v := 0) hx hb dX12_peaces_127 rfl ?_
                      refine lv_istore hx hb dX12_peaces_128 hl (by decide) rfl (fun ls hl => ?_)
                      replace hl : lv_has ls 6 [(5, .int 0), (3, .int v52), (4, .int v39), (0, .ref h0), (1, .int p1), (2, .int p2)] := hl
                      have L130 : ∀ (n54 : Nat) (H54 : Heap) (locs54 : List Loc) (v53 : Int32) (z53 : Int) (ls : Array Slot), (242 - z53).toNat < n54 → v53.toInt = z53 → z53 ≤ 242 → 0 ≤ z53 → RSI H0 H54 ca z53 → Conf X Γ H54 → va_S (AΓ Γ) H0 H54 locs54 → Kp X Γ [1, 6, 7, 8, 9, 14, 17, 19, 22, 24, 26, 28] H0 H54 → (KQ H0 H54 ca ka 242) → lv_has ls 6 [(5, .int v53), (3, .int v52), (4, .int v39), (0, .ref h0), (1, .int p1), (2, .int p2)] → W p l e (rmL 69) s m args below meth c H54 locs54 0 0 Qz (F0 m 130 ls []) := by
                        intro n54
                        induction n54 with
                        | zero => intro H54 locs54 v53 z53 ls hm54 ev53 iv54_0 iv54_1 iv54_2 hC54 hS54 hKp54 kq hl; exact absurd hm54 (Nat.not_lt_zero _)
                        | succ n54 ih54 =>
                          intro H54 locs54 v53 z53 ls hm54 ev53 iv54_0 iv54_1 iv54_2 hC54 hS54 hKp54 kq hl
                          have rsi := iv54_2
                          refine lv_iload hx hb dX12_peaces_130 (lv_at hl 0 rfl) ?_
                          refine lv_sipush (v := 242) hx hb dX12_peaces_132 rfl ?_
                          refine q_icmp_ge hx hb (a := z53) (b := 242) ev53 (by decide) (tgt := 158) dX12_peaces_135 rfl (fun c55 => ?_) (fun c55 => ?_)
                          · have kd2 : KD H0 H54 ca 0 0 := RSI.fin rsi (by omega)
                            obtain ⟨v56, ev56⟩ : ∃ z, z = v39 + Int32.ofInt 1 := ⟨_, rfl⟩
                            have ev56i : v56.toInt = (z39 + 1) := i_add ev56 ev39 (by decide) (by omega) (by omega)
                            refine lv_iinc hx hb dX12_peaces_158 hl (k := 2) rfl ev56.symm (by decide) rfl (fun ls hl => ?_)
                            replace hl : lv_has ls 6 [(4, .int v56), (5, .int v53), (3, .int v52), (0, .ref h0), (1, .int p1), (2, .int p2)] := hl
                            refine lv_goto (tgt := 93) hx hb dX12_peaces_161 rfl ?_
                            exact ih41 H54 locs54 v56 ((z39 + 1)) v52 ((z40 + 0)) ls (by omega) ev56i ev52i (by omega) (by omega) (by omega) (by omega) (kd2) hC54 hS54 hKp54 kq (lv_sub hl [0, 2, 3, 4, 5] rfl)
                          · refine lv_aload_n hx hb dX12_peaces_138 rfl (lv_at hl 3 rfl) ?_
                            refine q_getC E hC54 g0 fa_RX12_35 uc dX12_peaces_139 ?_
                            refine lv_iload hx hb dX12_peaces_142 (lv_at hl 0 rfl) ?_
                            refine lv_aload_n hx hb dX12_peaces_144 rfl (lv_at hl 3 rfl) ?_
                            refine q_getU E hC54 g0 fa_RX12_38 uk dX12_peaces_145 ?_
                            refine lv_iload hx hb dX12_peaces_148 (lv_at hl 0 rfl) ?_
                            refine q_kald E hC54 gka (a := z53) ev53 (by omega) (by omega) dX12_peaces_150 (fun v57 ev57 tv57 => ?_)
                            have hxv := (kq z53 (by omega) (by omega)).symm.trans ev57
                            refine q_cast E hC54 hS54 gca (a := z53) ev53 (by omega) (by omega) (cB_T (by omega) (by omega) tv57) dX12_peaces_151 (fun H58 locs58 hC58 hS58 U58 => ?_)
                            have hKp58 := Kp.upD gca rfl rfl (fun _ => ⟨fun h => absurd h (by decide), fun h => absurd h (by decide), fun _ => by unfold dpn; omega⟩) U58 hKp54
                            replace kq : KQ H0 H58 ca ka 242 := KQ.ne kq U58 (nek gca gka (by decide))
                            have rsi : RSI H0 H58 ca (z53 + 1) := RSI.step rsi U58 hxv rfl (by omega)
                            have e59 := up_I U58
                            obtain ⟨v60, ev60⟩ : ∃ z, z = v53 + Int32.ofInt 1 := ⟨_, rfl⟩
                            have ev60i : v60.toInt = (z53 + 1) := i_add ev60 ev53 (by decide) (by omega) (by omega)
                            refine lv_iinc hx hb dX12_peaces_152 hl (k := 0) rfl ev60.symm (by decide) rfl (fun ls hl => ?_)
                            replace hl : lv_has ls 6 [(5, .int v60), (3, .int v52), (4, .int v39), (0, .ref h0), (1, .int p1), (2, .int p2)] := hl
                            refine lv_goto (tgt := 130) hx hb dX12_peaces_155 rfl ?_
                            exact ih54 H58 locs58 v60 ((z53 + 1)) ls (by omega) ev60i (by omega) (by omega) (rsi) hC58 hS58 hKp58 kq hl
                      exact L130 _ H49 locs49 0 0 ls (Nat.lt_succ_self _) (by decide) (by omega) (by omega) (RSI.nil kc) hC49 hS49 hKp49 kq hl
                    · refine lv_iconst (v := 1) hx hb dX12_peaces_120 rfl ?_
                      refine lv_goto (tgt := 125) hx hb dX12_peaces_121 rfl ?_
                      refine lv_iadd hx hb dX12_peaces_125 (lv_topi (fun v61 ev61 => ?_))
                      have ev61i : v61.toInt = (z40 + 1) := i_add ev61 ev40 (by decide) (by omega) (by omega)
                      refine lv_istore_n hx hb dX12_peaces_126 rfl hl (by decide) rfl (fun ls hl => ?_)
                      replace hl : lv_has ls 6 [(3, .int v61), (4, .int v39), (0, .ref h0), (1, .int p1), (2, .int p2)] := hl
                      refine lv_iconst (v := 0) hx hb dX12_peaces_127 rfl ?_
                      refine lv_istore hx hb dX12_peaces_128 hl (by decide) rfl (fun ls hl => ?_)
                      replace hl : lv_has ls 6 [(5, .int 0), (3, .int v61), (4, .int v39), (0, .ref h0), (1, .int p1), (2, .int p2)] := hl
                      have L130 : ∀ (n63 : Nat) (H63 : Heap) (locs63 : List Loc) (v62 : Int32) (z62 : Int) (ls : Array Slot), (242 - z62).toNat < n63 → v62.toInt = z62 → z62 ≤ 242 → 0 ≤ z62 → RSI H0 H63 ca z62 → Conf X Γ H63 → va_S (AΓ Γ) H0 H63 locs63 → Kp X Γ [1, 6, 7, 8, 9, 14, 17, 19, 22, 24, 26, 28] H0 H63 → (KQ H0 H63 ca ka 242) → lv_has ls 6 [(5, .int v62), (3, .int v61), (4, .int v39), (0, .ref h0), (1, .int p1), (2, .int p2)] → W p l e (rmL 69) s m args below meth c H63 locs63 0 0 Qz (F0 m 130 ls []) := by
                        intro n63
                        induction n63 with
                        | zero => intro H63 locs63 v62 z62 ls hm63 ev62 iv63_0 iv63_1 iv63_2 hC63 hS63 hKp63 kq hl; exact absurd hm63 (Nat.not_lt_zero _)
                        | succ n63 ih63 =>
                          intro H63 locs63 v62 z62 ls hm63 ev62 iv63_0 iv63_1 iv63_2 hC63 hS63 hKp63 kq hl
                          have rsi := iv63_2
                          refine lv_iload hx hb dX12_peaces_130 (lv_at hl 0 rfl) ?_
                          refine lv_sipush (v := 242) hx hb dX12_peaces_132 rfl ?_
                          refine q_icmp_ge hx hb (a := z62) (b := 242) ev62 (by decide) (tgt := 158) dX12_peaces_135 rfl (fun c64 => ?_) (fun c64 => ?_)
                          · have kd2 : KD H0 H63 ca 0 0 := RSI.fin rsi (by omega)
                            obtain ⟨v65, ev65⟩ : ∃ z, z = v39 + Int32.ofInt 1 := ⟨_, rfl⟩
                            have ev65i : v65.toInt = (z39 + 1) := i_add ev65 ev39 (by decide) (by omega) (by omega)
                            refine lv_iinc hx hb dX12_peaces_158 hl (k := 2) rfl ev65.symm (by decide) rfl (fun ls hl => ?_)
                            replace hl : lv_has ls 6 [(4, .int v65), (5, .int v62), (3, .int v61), (0, .ref h0), (1, .int p1), (2, .int p2)] := hl
                            refine lv_goto (tgt := 93) hx hb dX12_peaces_161 rfl ?_
                            exact ih41 H63 locs63 v65 ((z39 + 1)) v61 ((z40 + 1)) ls (by omega) ev65i ev61i (by omega) (by omega) (by omega) (by omega) (kd2) hC63 hS63 hKp63 kq (lv_sub hl [0, 2, 3, 4, 5] rfl)
                          · refine lv_aload_n hx hb dX12_peaces_138 rfl (lv_at hl 3 rfl) ?_
                            refine q_getC E hC63 g0 fa_RX12_35 uc dX12_peaces_139 ?_
                            refine lv_iload hx hb dX12_peaces_142 (lv_at hl 0 rfl) ?_
                            refine lv_aload_n hx hb dX12_peaces_144 rfl (lv_at hl 3 rfl) ?_
                            refine q_getU E hC63 g0 fa_RX12_38 uk dX12_peaces_145 ?_
                            refine lv_iload hx hb dX12_peaces_148 (lv_at hl 0 rfl) ?_
                            refine q_kald E hC63 gka (a := z62) ev62 (by omega) (by omega) dX12_peaces_150 (fun v66 ev66 tv66 => ?_)
                            have hxv := (kq z62 (by omega) (by omega)).symm.trans ev66
                            refine q_cast E hC63 hS63 gca (a := z62) ev62 (by omega) (by omega) (cB_T (by omega) (by omega) tv66) dX12_peaces_151 (fun H67 locs67 hC67 hS67 U67 => ?_)
                            have hKp67 := Kp.upD gca rfl rfl (fun _ => ⟨fun h => absurd h (by decide), fun h => absurd h (by decide), fun _ => by unfold dpn; omega⟩) U67 hKp63
                            replace kq : KQ H0 H67 ca ka 242 := KQ.ne kq U67 (nek gca gka (by decide))
                            have rsi : RSI H0 H67 ca (z62 + 1) := RSI.step rsi U67 hxv rfl (by omega)
                            have e68 := up_I U67
                            obtain ⟨v69, ev69⟩ : ∃ z, z = v62 + Int32.ofInt 1 := ⟨_, rfl⟩
                            have ev69i : v69.toInt = (z62 + 1) := i_add ev69 ev62 (by decide) (by omega) (by omega)
                            refine lv_iinc hx hb dX12_peaces_152 hl (k := 0) rfl ev69.symm (by decide) rfl (fun ls hl => ?_)
                            replace hl : lv_has ls 6 [(5, .int v69), (3, .int v61), (4, .int v39), (0, .ref h0), (1, .int p1), (2, .int p2)] := hl
                            refine lv_goto (tgt := 130) hx hb dX12_peaces_155 rfl ?_
                            exact ih63 H67 locs67 v69 ((z62 + 1)) ls (by omega) ev69i (by omega) (by omega) (rsi) hC67 hS67 hKp67 kq hl
                      exact L130 _ H49 locs49 0 0 ls (Nat.lt_succ_self _) (by decide) (by omega) (by omega) (RSI.nil kc) hC49 hS49 hKp49 kq hl
              exact L93 _ H37 locs37 0 0 0 0 ls (Nat.lt_succ_self _) (by decide) (by decide) (by omega) (by omega) (by omega) (by omega) (kd) hC37 hS37 hKp37 kq hl
            · refine lv_aload_n hx hb dX12_peaces_70 rfl (lv_at hl 1 rfl) ?_
              refine q_getU E hC37 g0 fa_RX12_38 uk dX12_peaces_71 ?_
              refine lv_iload_n hx hb dX12_peaces_74 rfl (lv_at hl 0 rfl) ?_
              refine lv_aload_n hx hb dX12_peaces_75 rfl (lv_at hl 1 rfl) ?_
              refine q_getC E hC37 g0 fa_RX12_35 uc dX12_peaces_76 ?_
              refine lv_iload_n hx hb dX12_peaces_79 rfl (lv_at hl 0 rfl) ?_
              refine q_craw E hC37 gca (a := z36) ev36 (by omega) (by omega) dX12_peaces_80 (fun v70 ev70 tv70 => ?_)
              have hxv := (KB.at kb (a := z36) (by omega) (by omega)).symm.trans ev70
              refine q_kast E hC37 hS37 gka (a := z36) ev36 (by omega) (by omega) (cT_B (by omega) (by omega) tv70) dX12_peaces_81 (fun H71 locs71 hC71 hS71 U71 => ?_)
              have hKp71 := Kp.upA gka rfl (by decide) rfl U71 hKp37
              replace kb : KB H0 H71 ca 2600 := KB.ne kb U71 (nek gka gca (by decide))
              replace kd : KD H0 H71 ca 0 0 := KD.ne kd U71 (nek gka gca (by decide))
              have kq : KQ H0 H71 ca ka (z36 + 1) := KQ.step kq U71 rfl hxv (by omega)
              obtain ⟨v72, ev72⟩ : ∃ z, z = v36 + Int32.ofInt 1 := ⟨_, rfl⟩
              have ev72i : v72.toInt = (z36 + 1) := i_add ev72 ev36 (by decide) (by omega) (by omega)
              refine lv_iinc hx hb dX12_peaces_82 hl (k := 0) rfl ev72.symm (by decide) rfl (fun ls hl => ?_)
              replace hl : lv_has ls 6 [(3, .int v72), (0, .ref h0), (1, .int p1), (2, .int p2)] := hl
              refine lv_goto (tgt := 63) hx hb dX12_peaces_85 rfl ?_
              exact ih37 H71 locs71 v72 ((z36 + 1)) ls (by omega) ev72i (by omega) (by omega) (kq) hC71 hS71 hKp71 kb kd hl
        exact L63 _ H23 locs31 0 0 ls (Nat.lt_succ_self _) (by decide) (by omega) (by omega) (KQ.nil) hC23 hS31 hKp23 kb kd hl
      · refine lv_aload_n hx hb dX12_peaces_54 rfl (lv_at hl 0 rfl) ?_
        refine lv_bipush (v := 8) hx hb dX12_peaces_55 rfl ?_
        refine q_goI (q_runV (As := [.int 8]) (rest := []) E hC23 hS31 (m_X12_no l X Γ H23 hC23 h0 g0 8 (a1 := 8) (by decide) ca gca uc) cw_X12_no cl_RX12_84 g0 ⟨rfl, rfl⟩ rfl hl.1 rfl (Nat.zero_le _) (by decide) dX12_peaces_57) hS31 (fun v73 H73 locs73 hr73 hC73 hS73 => ?_)
        obtain ⟨hp73, hr73⟩ := hr73
        have hKp73 := hKp23.tr (hp73.mono rfl)
        replace kb : KB H0 H73 ca 2600 := KB.kp kb hp73 gca rfl
        replace kd : KD H0 H73 ca 0 0 := KD.kp kd hp73 gca rfl rfl
        rcases hr73 with ⟨rfl, f73a⟩ | ⟨rfl, -⟩
        · exact absurd f73a (by decide)
        · have hpost := kd
          have c74 : (0 : Int32).toInt = 0 := (by decide)
          exact ret 0 H73 locs73 _ _ dX12_peaces_60 (Or.inl rfl) ⟨hKp73, hpost⟩ hC73 hS73
    · refine q_if_ne hx hb (a := 0) (by decide) (tgt := 43) dX12_peaces_34 rfl (fun c75 => absurd c75 (by omega)) (fun c75 => ?_)
      refine lv_aload_n hx hb dX12_peaces_37 rfl (lv_at hl 0 rfl) ?_
      refine lv_iconst (v := 5) hx hb dX12_peaces_38 rfl ?_
      refine q_goI (q_runV (As := [.int 5]) (rest := []) E hC23 hS31 (m_X12_no l X Γ H23 hC23 h0 g0 5 (a1 := 5) (by decide) ca gca uc) cw_X12_no cl_RX12_84 g0 ⟨rfl, rfl⟩ rfl hl.1 rfl (Nat.zero_le _) (by decide) dX12_peaces_39) hS31 (fun v76 H76 locs76 hr76 hC76 hS76 => ?_)
      obtain ⟨hp76, hr76⟩ := hr76
      have hKp76 := hKp23.tr (hp76.mono rfl)
      replace kb : KB H0 H76 ca 2600 := KB.kp kb hp76 gca rfl
      replace kd : KD H0 H76 ca 0 0 := KD.kp kd hp76 gca rfl rfl
      rcases hr76 with ⟨rfl, f76a⟩ | ⟨rfl, -⟩
      · exact absurd f76a (by decide)
      · have hpost := kd
        have c77 : (0 : Int32).toInt = 0 := (by decide)
        exact ret 0 H76 locs76 _ _ dX12_peaces_42 (Or.inl rfl) ⟨hKp76, hpost⟩ hC76 hS76
  · refine q_if_eq hx hb (a := 0) (by decide) (tgt := 37) dX12_peaces_19 rfl (fun c78 => ?_) (fun c78 => absurd c78 (by omega))
    refine lv_aload_n hx hb dX12_peaces_37 rfl (lv_at hl 0 rfl) ?_
    refine lv_iconst (v := 5) hx hb dX12_peaces_38 rfl ?_
    refine q_goI (q_runV (As := [.int 5]) (rest := []) E hC23 hS26 (m_X12_no l X Γ H23 hC23 h0 g0 5 (a1 := 5) (by decide) ca gca uc) cw_X12_no cl_RX12_84 g0 ⟨rfl, rfl⟩ rfl hl.1 rfl (Nat.zero_le _) (by decide) dX12_peaces_39) hS26 (fun v79 H79 locs79 hr79 hC79 hS79 => ?_)
    obtain ⟨hp79, hr79⟩ := hr79
    have hKp79 := hKp23.tr (hp79.mono rfl)
    replace kb : KB H0 H79 ca 2600 := KB.kp kb hp79 gca rfl
    replace kd : KD H0 H79 ca 0 0 := KD.kp kd hp79 gca rfl rfl
    rcases hr79 with ⟨rfl, f79a⟩ | ⟨rfl, -⟩
    · exact absurd f79a (by decide)
    · have hpost := kd
      have c80 : (0 : Int32).toInt = 0 := (by decide)
      exact ret 0 H79 locs79 _ _ dX12_peaces_42 (Or.inl rfl) ⟨hKp79, hpost⟩ hC79 hS79
set_option maxRecDepth 100000 in
set_option maxHeartbeats 4000000 in
theorem m_X12_copy (l : Launch) (X : xW) (Γ : Nat → Option Nat) (H0 : Heap) (hC0 : Conf X Γ H0) (h0 : Nat) (g0 : Γ h0 = some 11) (p1 : Int32) {a1 : Int} (e1 : p1.toInt = a1) (p2 : Int32) {a2 : Int} (e2 : p2.toInt = a2) (ca : Nat) (gca : Γ ca = some 64) (uc : ∀ a, Γ a = some 64 → a = ca) (r0 : 0 ≤ a1) (r1 : a1 ≤ 3) (r2 : 0 ≤ a2) (r3 : a2 ≤ 3) (r4 : a1 ≠ a2) : Ctr l X Γ yX12_copy cX12_copy 4 none 0 [.ref h0, .int p1, .int p2] H0 (QV X Γ (fun H1 => Kp X Γ [1, 6, 7, 8, 9, 11, 12, 14, 17, 19, 22, 24, 26, 28] H0 H1 ∧ ((CPX H0 H1 ca (520 * a1) (520 * a2) 520)))) := by
  refine q_enterV (own := "SnowFortsModel") (by decide) rfl (Nat.le_of_ble_eq_true rfl) ?_
  intro p e s m args below meth c ls Qz E hl ret hS0
  have hx := E.1; have hb := E.2.1
  have hKp0 : Kp X Γ [1, 6, 7, 8, 9, 11, 12, 14, 17, 19, 22, 24, 26, 28] H0 H0 := Kp.rf
  have hl : lv_has ls 4 [(0, .ref h0), (1, .int p1), (2, .int p2)] := hl
  refine lv_iconst (v := 0) hx hb dX12_copy_0 rfl ?_
  refine lv_istore_n hx hb dX12_copy_1 rfl hl (by decide) rfl (fun ls hl => ?_)
  replace hl : lv_has ls 4 [(3, .int 0), (0, .ref h0), (1, .int p1), (2, .int p2)] := hl
  have L2 : ∀ (n22 : Nat) (H22 : Heap) (locs22 : List Loc) (v21 : Int32) (z21 : Int) (ls : Array Slot), (520 - z21).toNat < n22 → v21.toInt = z21 → z21 ≤ 520 → 0 ≤ z21 → CPX H0 H22 ca (520 * a1) (520 * a2) z21 → Conf X Γ H22 → va_S (AΓ Γ) H0 H22 locs22 → Kp X Γ [1, 6, 7, 8, 9, 11, 12, 14, 17, 19, 22, 24, 26, 28] H0 H22 → lv_has ls 4 [(3, .int v21), (0, .ref h0), (1, .int p1), (2, .int p2)] → W p l e (rmL 0) s m args below meth c H22 locs22 0 0 Qz (F0 m 2 ls []) := by
    intro n22
    induction n22 with
    | zero => intro H22 locs22 v21 z21 ls hm22 ev21 iv22_0 iv22_1 iv22_2 hC22 hS22 hKp22 hl; exact absurd hm22 (Nat.not_lt_zero _)
    | succ n22 ih22 =>
      intro H22 locs22 v21 z21 ls hm22 ev21 iv22_0 iv22_1 iv22_2 hC22 hS22 hKp22 hl
      have cpx := iv22_2
      refine lv_iload_n hx hb dX12_copy_2 rfl (lv_at hl 0 rfl) ?_
      refine lv_sipush (v := 520) hx hb dX12_copy_3 rfl ?_
      refine q_icmp_ge hx hb (a := z21) (b := 520) ev21 (by decide) (tgt := 39) dX12_copy_6 rfl (fun c23 => ?_) (fun c23 => ?_)
      · exact ret H22 locs22 _ _ dX12_copy_39 ⟨hKp22, CPX.eq cpx rfl rfl (by omega)⟩ hC22 hS22
      · refine lv_aload_n hx hb dX12_copy_9 rfl (lv_at hl 1 rfl) ?_
        refine q_getC E hC22 g0 fa_RX12_35 uc dX12_copy_10 ?_
        refine lv_sipush (v := 520) hx hb dX12_copy_13 rfl ?_
        refine lv_iload_n hx hb dX12_copy_16 rfl (lv_at hl 3 rfl) ?_
        refine lv_imul hx hb dX12_copy_17 (lv_topi (fun v24 ev24 => ?_))
        have ev24i : v24.toInt = (520 * a2) := i_mul ev24 (by decide) e2 (by omega) (by omega)
        refine lv_iload_n hx hb dX12_copy_18 rfl (lv_at hl 0 rfl) ?_
        refine lv_iadd hx hb dX12_copy_19 (lv_topi (fun v25 ev25 => ?_))
        have ev25i : v25.toInt = ((520 * a2) + z21) := i_add ev25 ev24i ev21 (by omega) (by omega)
        refine lv_aload_n hx hb dX12_copy_20 rfl (lv_at hl 1 rfl) ?_
        refine q_getC E hC22 g0 fa_RX12_35 uc dX12_copy_21 ?_
        refine lv_sipush (v := 520) hx hb dX12_copy_24 rfl ?_
        refine lv_iload_n hx hb dX12_copy_27 rfl (lv_at hl 2 rfl) ?_
        refine lv_imul hx hb dX12_copy_28 (lv_topi (fun v26 ev26 => ?_))
        have ev26i : v26.toInt = (520 * a1) := i_mul ev26 (by decide) e1 (by omega) (by omega)
        refine lv_iload_n hx hb dX12_copy_29 rfl (lv_at hl 0 rfl) ?_
        refine lv_iadd hx hb dX12_copy_30 (lv_topi (fun v27 ev27 => ?_))
        have ev27i : v27.toInt = ((520 * a1) + z21) := i_add ev27 ev26i ev21 (by omega) (by omega)
        refine q_craw E hC22 gca (a := ((520 * a1) + z21)) ev27i (by omega) (by omega) dX12_copy_31 (fun v28 ev28 tv28 => ?_)
        refine q_cast E hC22 hS22 gca (a := ((520 * a2) + z21)) ev25i (by omega) (by omega) (cT_cp (f := a1) (t := a2) (k := z21) rfl rfl (by omega) (by omega) (by omega) (by omega) (by omega) (by omega) tv28) dX12_copy_32 (fun H29 locs29 hC29 hS29 U29 => ?_)
        have hKp29 := Kp.upD gca rfl rfl (fun _ => ⟨fun h => absurd h (by decide), fun h => absurd h (by decide), fun _ => by unfold dpn; omega⟩) U29 hKp22
        have cpx : CPX H0 H29 ca (520 * a1) (520 * a2) (z21 + 1) := CPX.step cpx (a := ((520 * a2) + z21)) U29 rfl ev28 (by omega) (by omega) (by omega) (by omega) (by omega) (by omega)
        have e30 := up_I U29
        obtain ⟨v31, ev31⟩ : ∃ z, z = v21 + Int32.ofInt 1 := ⟨_, rfl⟩
        have ev31i : v31.toInt = (z21 + 1) := i_add ev31 ev21 (by decide) (by omega) (by omega)
        refine lv_iinc hx hb dX12_copy_33 hl (k := 0) rfl ev31.symm (by decide) rfl (fun ls hl => ?_)
        replace hl : lv_has ls 4 [(3, .int v31), (0, .ref h0), (1, .int p1), (2, .int p2)] := hl
        refine lv_goto (tgt := 2) hx hb dX12_copy_36 rfl ?_
        exact ih22 H29 locs29 v31 ((z21 + 1)) ls (by omega) ev31i (by omega) (by omega) (cpx) hC29 hS29 hKp29 hl
  exact L2 _ H0 [] 0 0 ls (Nat.lt_succ_self _) (by decide) (by omega) (by omega) (CPX.nil) hC0 hS0 hKp0 hl
set_option maxRecDepth 100000 in
set_option maxHeartbeats 4000000 in
theorem m_X12_mark (l : Launch) (X : xW) (Γ : Nat → Option Nat) (H0 : Heap) (hC0 : Conf X Γ H0) (h0 : Nat) (g0 : Γ h0 = some 11) (ca : Nat) (gca : Γ ca = some 64) (uc : ∀ a, Γ a = some 64 → a = ca) : Ctr l X Γ yX12_mark cX12_mark 1 (some .int) 1 [.ref h0] H0 (QI X Γ (fun v H1 => Kp X Γ [1, 6, 7, 9, 11, 12, 14, 17, 19, 22, 24, 26, 28] H0 H1 ∧ (((KD H0 H1 ca 0 0 ∧ (sI H1 h0 (X.1.2 11 24)).toInt = (sI H0 h0 (X.1.2 11 24)).toInt) ∨ ((sI H1 h0 (X.1.2 11 24)).toInt = (sI H0 h0 (X.1.2 11 24)).toInt + 1 ∧ CPX H0 H1 ca 0 (520 * (sI H1 h0 (X.1.2 11 24)).toInt) 520)) ∧ ((3 ≤ (sI H0 h0 (X.1.2 11 24)).toInt ∧ v.toInt = -1 ∧ (sI H1 h0 (X.1.2 11 24)).toInt = (sI H0 h0 (X.1.2 11 24)).toInt) ∨ ((sI H0 h0 (X.1.2 11 24)).toInt ≤ 2 ∧ v.toInt = (sI H0 h0 (X.1.2 11 24)).toInt + 1 ∧ (sI H1 h0 (X.1.2 11 24)).toInt = (sI H0 h0 (X.1.2 11 24)).toInt + 1))))) := by
  refine q_enterI (own := "SnowFortsModel") (by decide) rfl (Nat.le_of_ble_eq_true rfl) ?_
  intro p e s m args below meth c ls Qz E hl ret hS0
  have hx := E.1; have hb := E.2.1
  have hKp0 : Kp X Γ [1, 6, 7, 9, 11, 12, 14, 17, 19, 22, 24, 26, 28] H0 H0 := Kp.rf
  have hl : lv_has ls 1 [(0, .ref h0)] := hl
  have hz1 := f_bd hC0 g0 (ci := 11) (k := 24) rfl rfl
  have kb : KB H0 H0 ca 2600 := KB.rf
  have kd : KD H0 H0 ca 0 0 := KD.rf
  refine lv_aload_n hx hb dX12_mark_0 rfl (lv_at hl 0 rfl) ?_
  refine lv_iconst (v := 0) hx hb dX12_mark_1 rfl ?_
  refine q_put E hC0 hS0 g0 fp_RX12_69 tv_F rfl rfl dX12_mark_2 (fun H21 locs21 hC21 hS21 U21 => ?_)
  have hKp21 := Kp.upO E g0 fp_RX12_69 rfl U21 hKp0
  have e22 := up_I U21
  replace kb : KB H0 H21 ca 2600 := KB.ne kb U21 (nek g0 gca (by decide))
  replace kd : KD H0 H21 ca 0 0 := KD.ne kd U21 (nek g0 gca (by decide))
  have m23 : (sI H21 h0 (X.1.2 11 24)).toInt = (sI H0 h0 (X.1.2 11 24)).toInt := congrArg Int32.toInt (up_nI U21 (ne_f E 11 24 1 rfl (by decide) (by decide) (by decide)))
  refine lv_aload_n hx hb dX12_mark_5 rfl (lv_at hl 0 rfl) ?_
  refine lv_iconst (v := 0) hx hb dX12_mark_6 rfl ?_
  refine q_put E hC21 hS21 g0 fp_RX12_72 tv_F rfl rfl dX12_mark_7 (fun H24 locs24 hC24 hS24 U24 => ?_)
  have hKp24 := Kp.upO E g0 fp_RX12_72 rfl U24 hKp21
  have e25 := up_I U24
  replace kb : KB H0 H24 ca 2600 := KB.ne kb U24 (nek g0 gca (by decide))
  replace kd : KD H0 H24 ca 0 0 := KD.ne kd U24 (nek g0 gca (by decide))
  have m26 : (sI H24 h0 (X.1.2 11 24)).toInt = (sI H21 h0 (X.1.2 11 24)).toInt := congrArg Int32.toInt (up_nI U24 (ne_f E 11 24 0 rfl (by decide) (by decide) (by decide)))
  refine lv_aload_n hx hb dX12_mark_10 rfl (lv_at hl 0 rfl) ?_
  refine q_getI E hC24 g0 fa_RX12_479 dX12_mark_11 (fun v27 ev27 lv27 uv27 => ?_)
  have m28 : (sI H24 h0 (X.1.2 11 24)).toInt = v27.toInt := (congrArg Int32.toInt ev27).trans rfl
  refine lv_iconst (v := 3) hx hb dX12_mark_14 rfl ?_
  refine q_icmp_ne hx hb (a := v27.toInt) (b := 3) rfl (by decide) (tgt := 25) dX12_mark_15 rfl (fun c29 => ?_) (fun c29 => ?_)
  · refine lv_aload_n hx hb dX12_mark_25 rfl (lv_at hl 0 rfl) ?_
    refine lv_dup hx hb dX12_mark_26 rfl ?_
    refine q_getI E hC24 g0 fa_RX12_479 dX12_mark_27 (fun v30 ev30 lv30 uv30 => ?_)
    have qv30 := ev27.symm.trans ev30; subst qv30
    refine lv_iconst (v := 1) hx hb dX12_mark_30 rfl ?_
    refine lv_iadd hx hb dX12_mark_31 (lv_topi (fun v31 ev31 => ?_))
    have ev31i : v31.toInt = (v27.toInt + 1) := i_add ev31 rfl (by decide) (by omega) (by omega)
    refine q_put E hC24 hS24 g0 fp_RX12_479 (tv_I ev31i (by omega) (by omega)) rfl rfl dX12_mark_32 (fun H32 locs32 hC32 hS32 U32 => ?_)
    have hKp32 := Kp.upO E g0 fp_RX12_479 rfl U32 hKp24
    have e33 := up_I U32
    have m34 : (sI H32 h0 (X.1.2 11 24)).toInt = (v27.toInt + 1) := (congrArg Int32.toInt e33).trans ev31i
    replace kb : KB H0 H32 ca 2600 := KB.ne kb U32 (nek g0 gca (by decide))
    replace kd : KD H0 H32 ca 0 0 := KD.ne kd U32 (nek g0 gca (by decide))
    refine lv_aload_n hx hb dX12_mark_35 rfl (lv_at hl 0 rfl) ?_
    refine lv_iconst (v := 0) hx hb dX12_mark_36 rfl ?_
    refine lv_aload_n hx hb dX12_mark_37 rfl (lv_at hl 0 rfl) ?_
    refine q_getI E hC32 g0 fa_RX12_479 dX12_mark_38 (fun v35 ev35 lv35 uv35 => ?_)
    have qv35 := e33.symm.trans ev35; subst qv35
    refine q_goV (q_runV (As := [.int 0, .int v31]) (rest := []) E hC32 hS32 (m_X12_copy l X Γ H32 hC32 h0 g0 0 (a1 := 0) (by decide) v31 (a2 := (v27.toInt + 1)) ev31i ca gca uc (by omega) (by omega) (by omega) (by omega) (by omega)) cw_X12_copy cl_RX12_482 g0 ⟨rfl, rfl⟩ rfl hl.1 rfl (Nat.zero_le _) (by decide) dX12_mark_41) hS32 (fun H36 locs36 hr36 hC36 hS36 => ?_)
    obtain ⟨hp36, hr36⟩ := hr36
    have hKp36 := hKp32.tr (hp36.mono rfl)
    have m37 : (sI H36 h0 (X.1.2 11 24)).toInt = (sI H32 h0 (X.1.2 11 24)).toInt := congrArg Int32.toInt (kp_I hp36 g0 (k := 24) rfl (by decide) rfl)
    have f36_0 := hr36
    have cpx := CPX.of kb f36_0 (by omega) (by omega)
    refine lv_aload_n hx hb dX12_mark_44 rfl (lv_at hl 0 rfl) ?_
    have e39 := (kp_I hp36 g0 (k := 24) rfl (by decide) rfl).trans e33
    refine q_getI E hC36 g0 fa_RX12_479 dX12_mark_45 (fun v38 ev38 lv38 uv38 => ?_)
    have qv38 := e39.symm.trans ev38; subst qv38
    have m40 : (sI H36 h0 (X.1.2 11 24)).toInt = (v27.toInt + 1) := (congrArg Int32.toInt ev38).trans ev31i
    have hpost : (KD H0 H36 ca 0 0 ∧ (sI H36 h0 (X.1.2 11 24)).toInt = (sI H0 h0 (X.1.2 11 24)).toInt) ∨ ((sI H36 h0 (X.1.2 11 24)).toInt = (sI H0 h0 (X.1.2 11 24)).toInt + 1 ∧ CPX H0 H36 ca 0 (520 * (sI H36 h0 (X.1.2 11 24)).toInt) 520) := Or.inr ⟨by omega, CPX.eq cpx (by omega) (by omega) rfl⟩
    have c41 : v31.toInt = (v27.toInt + 1) := ev31i
    exact ret v31 H36 locs36 _ _ dX12_mark_48 ⟨hKp36, ⟨hpost, by omega⟩⟩ hC36 hS36
  · refine lv_aload_n hx hb dX12_mark_18 rfl (lv_at hl 0 rfl) ?_
    refine lv_bipush (v := 7) hx hb dX12_mark_19 rfl ?_
    refine q_goI (q_runV (As := [.int 7]) (rest := []) E hC24 hS24 (m_X12_refuse l X Γ H24 hC24 h0 g0 7 (a1 := 7) (by decide) ca gca uc) cw_X12_refuse cl_RX12_298 g0 ⟨rfl, rfl⟩ rfl hl.1 rfl (Nat.zero_le _) (by decide) dX12_mark_21) hS24 (fun v42 H42 locs42 hr42 hC42 hS42 => ?_)
    obtain ⟨hp42, hr42⟩ := hr42
    have hKp42 := hKp24.tr (hp42.mono rfl)
    replace kb : KB H0 H42 ca 2600 := KB.kp kb hp42 gca rfl
    replace kd : KD H0 H42 ca 0 0 := KD.kp kd hp42 gca rfl rfl
    have m43 : (sI H42 h0 (X.1.2 11 24)).toInt = (sI H24 h0 (X.1.2 11 24)).toInt := congrArg Int32.toInt (kp_I hp42 g0 (k := 24) rfl (by decide) rfl)
    have f42_0 := hr42
    have e44 := (kp_I hp42 g0 (k := 24) rfl (by decide) rfl).trans ev27
    have m45 : (sI H42 h0 (X.1.2 11 24)).toInt = v27.toInt := (congrArg Int32.toInt e44).trans rfl
    have hpost : (KD H0 H42 ca 0 0 ∧ (sI H42 h0 (X.1.2 11 24)).toInt = (sI H0 h0 (X.1.2 11 24)).toInt) ∨ ((sI H42 h0 (X.1.2 11 24)).toInt = (sI H0 h0 (X.1.2 11 24)).toInt + 1 ∧ CPX H0 H42 ca 0 (520 * (sI H42 h0 (X.1.2 11 24)).toInt) 520) := Or.inl ⟨kd, by omega⟩
    have c46 : v42.toInt = v42.toInt := rfl
    exact ret v42 H42 locs42 _ _ dX12_mark_24 ⟨hKp42, ⟨hpost, by omega⟩⟩ hC42 hS42
set_option maxRecDepth 100000 in
set_option maxHeartbeats 4000000 in
theorem m_X12_back (l : Launch) (X : xW) (Γ : Nat → Option Nat) (H0 : Heap) (hC0 : Conf X Γ H0) (h0 : Nat) (g0 : Γ h0 = some 11) (ca : Nat) (gca : Γ ca = some 64) (uc : ∀ a, Γ a = some 64 → a = ca) : Ctr l X Γ yX12_back cX12_back 1 (some .int) 1 [.ref h0] H0 (QI X Γ (fun v H1 => Kp X Γ [1, 6, 7, 9, 11, 12, 14, 17, 19, 22, 24, 26, 28] H0 H1 ∧ (((KD H0 H1 ca 0 0 ∧ (sI H1 h0 (X.1.2 11 24)).toInt = (sI H0 h0 (X.1.2 11 24)).toInt) ∨ ((sI H1 h0 (X.1.2 11 24)).toInt = (sI H0 h0 (X.1.2 11 24)).toInt - 1 ∧ CPX H0 H1 ca (520 * (sI H0 h0 (X.1.2 11 24)).toInt) 0 520)) ∧ (((sI H0 h0 (X.1.2 11 24)).toInt ≤ 0 ∧ v.toInt = -1 ∧ (sI H1 h0 (X.1.2 11 24)).toInt = (sI H0 h0 (X.1.2 11 24)).toInt) ∨ (1 ≤ (sI H0 h0 (X.1.2 11 24)).toInt ∧ v.toInt = (sI H0 h0 (X.1.2 11 24)).toInt - 1 ∧ (sI H1 h0 (X.1.2 11 24)).toInt = (sI H0 h0 (X.1.2 11 24)).toInt - 1))))) := by
  refine q_enterI (own := "SnowFortsModel") (by decide) rfl (Nat.le_of_ble_eq_true rfl) ?_
  intro p e s m args below meth c ls Qz E hl ret hS0
  have hx := E.1; have hb := E.2.1
  have hKp0 : Kp X Γ [1, 6, 7, 9, 11, 12, 14, 17, 19, 22, 24, 26, 28] H0 H0 := Kp.rf
  have hl : lv_has ls 1 [(0, .ref h0)] := hl
  have hz1 := f_bd hC0 g0 (ci := 11) (k := 24) rfl rfl
  have kb : KB H0 H0 ca 2600 := KB.rf
  have kd : KD H0 H0 ca 0 0 := KD.rf
  refine lv_aload_n hx hb dX12_back_0 rfl (lv_at hl 0 rfl) ?_
  refine lv_iconst (v := 0) hx hb dX12_back_1 rfl ?_
  refine q_put E hC0 hS0 g0 fp_RX12_69 tv_F rfl rfl dX12_back_2 (fun H21 locs21 hC21 hS21 U21 => ?_)
  have hKp21 := Kp.upO E g0 fp_RX12_69 rfl U21 hKp0
  have e22 := up_I U21
  replace kb : KB H0 H21 ca 2600 := KB.ne kb U21 (nek g0 gca (by decide))
  replace kd : KD H0 H21 ca 0 0 := KD.ne kd U21 (nek g0 gca (by decide))
  have m23 : (sI H21 h0 (X.1.2 11 24)).toInt = (sI H0 h0 (X.1.2 11 24)).toInt := congrArg Int32.toInt (up_nI U21 (ne_f E 11 24 1 rfl (by decide) (by decide) (by decide)))
  refine lv_aload_n hx hb dX12_back_5 rfl (lv_at hl 0 rfl) ?_
  refine lv_iconst (v := 0) hx hb dX12_back_6 rfl ?_
  refine q_put E hC21 hS21 g0 fp_RX12_72 tv_F rfl rfl dX12_back_7 (fun H24 locs24 hC24 hS24 U24 => ?_)
  have hKp24 := Kp.upO E g0 fp_RX12_72 rfl U24 hKp21
  have e25 := up_I U24
  replace kb : KB H0 H24 ca 2600 := KB.ne kb U24 (nek g0 gca (by decide))
  replace kd : KD H0 H24 ca 0 0 := KD.ne kd U24 (nek g0 gca (by decide))
  have m26 : (sI H24 h0 (X.1.2 11 24)).toInt = (sI H21 h0 (X.1.2 11 24)).toInt := congrArg Int32.toInt (up_nI U24 (ne_f E 11 24 0 rfl (by decide) (by decide) (by decide)))
  refine lv_aload_n hx hb dX12_back_10 rfl (lv_at hl 0 rfl) ?_
  refine q_getI E hC24 g0 fa_RX12_479 dX12_back_11 (fun v27 ev27 lv27 uv27 => ?_)
  have m28 : (sI H24 h0 (X.1.2 11 24)).toInt = v27.toInt := (congrArg Int32.toInt ev27).trans rfl
  refine q_if_ne hx hb (a := v27.toInt) rfl (tgt := 24) dX12_back_14 rfl (fun c29 => ?_) (fun c29 => ?_)
  · refine lv_aload_n hx hb dX12_back_24 rfl (lv_at hl 0 rfl) ?_
    refine lv_aload_n hx hb dX12_back_25 rfl (lv_at hl 0 rfl) ?_
    refine q_getI E hC24 g0 fa_RX12_479 dX12_back_26 (fun v30 ev30 lv30 uv30 => ?_)
    have qv30 := ev27.symm.trans ev30; subst qv30
    refine lv_iconst (v := 0) hx hb dX12_back_29 rfl ?_
    refine q_goV (q_runV (As := [.int v27, .int 0]) (rest := []) E hC24 hS24 (m_X12_copy l X Γ H24 hC24 h0 g0 v27 (a1 := v27.toInt) rfl 0 (a2 := 0) (by decide) ca gca uc (by omega) (by omega) (by omega) (by omega) (by omega)) cw_X12_copy cl_RX12_482 g0 ⟨rfl, rfl⟩ rfl hl.1 rfl (Nat.zero_le _) (by decide) dX12_back_30) hS24 (fun H31 locs31 hr31 hC31 hS31 => ?_)
    obtain ⟨hp31, hr31⟩ := hr31
    have hKp31 := hKp24.tr (hp31.mono rfl)
    have m32 : (sI H31 h0 (X.1.2 11 24)).toInt = (sI H24 h0 (X.1.2 11 24)).toInt := congrArg Int32.toInt (kp_I hp31 g0 (k := 24) rfl (by decide) rfl)
    have f31_0 := hr31
    have cpx : CPX H0 H31 ca (520 * (sI H0 h0 (X.1.2 11 24)).toInt) 0 520 := CPX.eq (CPX.of kb f31_0 (by omega) (by omega)) (by omega) (by omega) rfl
    refine lv_aload_n hx hb dX12_back_33 rfl (lv_at hl 0 rfl) ?_
    refine lv_dup hx hb dX12_back_34 rfl ?_
    have e34 := (kp_I hp31 g0 (k := 24) rfl (by decide) rfl).trans ev27
    refine q_getI E hC31 g0 fa_RX12_479 dX12_back_35 (fun v33 ev33 lv33 uv33 => ?_)
    have qv33 := e34.symm.trans ev33; subst qv33
    have m35 : (sI H31 h0 (X.1.2 11 24)).toInt = v27.toInt := (congrArg Int32.toInt ev33).trans rfl
    refine lv_iconst (v := 1) hx hb dX12_back_38 rfl ?_
    refine lv_isub hx hb dX12_back_39 (lv_topi (fun v36 ev36 => ?_))
    have ev36i : v36.toInt = (v27.toInt - 1) := i_sub ev36 rfl (by decide) (by omega) (by omega)
    refine q_put E hC31 hS31 g0 fp_RX12_479 (tv_I ev36i (by omega) (by omega)) rfl rfl dX12_back_40 (fun H37 locs37 hC37 hS37 U37 => ?_)
    have hKp37 := Kp.upO E g0 fp_RX12_479 rfl U37 hKp31
    have e38 := up_I U37
    have m39 : (sI H37 h0 (X.1.2 11 24)).toInt = (v27.toInt - 1) := (congrArg Int32.toInt e38).trans ev36i
    replace cpx : CPX H0 H37 ca (520 * (sI H0 h0 (X.1.2 11 24)).toInt) 0 520 := CPX.ne cpx U37 (nek g0 gca (by decide))
    refine lv_aload_n hx hb dX12_back_43 rfl (lv_at hl 0 rfl) ?_
    refine q_getI E hC37 g0 fa_RX12_479 dX12_back_44 (fun v40 ev40 lv40 uv40 => ?_)
    have qv40 := e38.symm.trans ev40; subst qv40
    have hpost : (KD H0 H37 ca 0 0 ∧ (sI H37 h0 (X.1.2 11 24)).toInt = (sI H0 h0 (X.1.2 11 24)).toInt) ∨ ((sI H37 h0 (X.1.2 11 24)).toInt = (sI H0 h0 (X.1.2 11 24)).toInt - 1 ∧ CPX H0 H37 ca (520 * (sI H0 h0 (X.1.2 11 24)).toInt) 0 520) := Or.inr ⟨by omega, cpx⟩
    have c41 : v36.toInt = (v27.toInt - 1) := ev36i
    exact ret v36 H37 locs37 _ _ dX12_back_47 ⟨hKp37, ⟨hpost, by omega⟩⟩ hC37 hS37
  · refine lv_aload_n hx hb dX12_back_17 rfl (lv_at hl 0 rfl) ?_
    refine lv_bipush (v := 8) hx hb dX12_back_18 rfl ?_
    refine q_goI (q_runV (As := [.int 8]) (rest := []) E hC24 hS24 (m_X12_refuse l X Γ H24 hC24 h0 g0 8 (a1 := 8) (by decide) ca gca uc) cw_X12_refuse cl_RX12_298 g0 ⟨rfl, rfl⟩ rfl hl.1 rfl (Nat.zero_le _) (by decide) dX12_back_20) hS24 (fun v42 H42 locs42 hr42 hC42 hS42 => ?_)
    obtain ⟨hp42, hr42⟩ := hr42
    have hKp42 := hKp24.tr (hp42.mono rfl)
    replace kb : KB H0 H42 ca 2600 := KB.kp kb hp42 gca rfl
    replace kd : KD H0 H42 ca 0 0 := KD.kp kd hp42 gca rfl rfl
    have m43 : (sI H42 h0 (X.1.2 11 24)).toInt = (sI H24 h0 (X.1.2 11 24)).toInt := congrArg Int32.toInt (kp_I hp42 g0 (k := 24) rfl (by decide) rfl)
    have f42_0 := hr42
    have e44 := (kp_I hp42 g0 (k := 24) rfl (by decide) rfl).trans ev27
    have m45 : (sI H42 h0 (X.1.2 11 24)).toInt = v27.toInt := (congrArg Int32.toInt e44).trans rfl
    have hpost : (KD H0 H42 ca 0 0 ∧ (sI H42 h0 (X.1.2 11 24)).toInt = (sI H0 h0 (X.1.2 11 24)).toInt) ∨ ((sI H42 h0 (X.1.2 11 24)).toInt = (sI H0 h0 (X.1.2 11 24)).toInt - 1 ∧ CPX H0 H42 ca (520 * (sI H0 h0 (X.1.2 11 24)).toInt) 0 520) := Or.inl ⟨kd, by omega⟩
    have c46 : v42.toInt = v42.toInt := rfl
    exact ret v42 H42 locs42 _ _ dX12_back_23 ⟨hKp42, ⟨hpost, by omega⟩⟩ hC42 hS42
