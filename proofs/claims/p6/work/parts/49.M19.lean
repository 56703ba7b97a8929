set_option maxRecDepth 100000 in
set_option maxHeartbeats 4000000 in
theorem m_X12_ran (l : Launch) (X : xW) (Γ : Nat → Option Nat) (H0 : Heap) (hC0 : Conf X Γ H0) (h0 : Nat) (g0 : Γ h0 = some 11) (p1 : Int32) {a1 : Int} (e1 : p1.toInt = a1) (ca : Nat) (gca : Γ ca = some 64) (uc : ∀ a, Γ a = some 64 → a = ca) : Ctr l X Γ yX12_ran cX12_ran 2 (some .int) 1 [.ref h0, .int p1] H0 (QI X Γ (fun v H1 => Kp X Γ [1, 6, 7, 8, 9, 10, 11, 12, 14, 15, 16, 17, 19, 22, 24] H0 H1 ∧ (True))) := by
  refine q_enterI (own := "SnowFortsModel") (by decide) rfl (Nat.le_of_ble_eq_true rfl) ?_
  intro p e s m args below meth c ls Qz E hl ret hS0
  have hx := E.1; have hb := E.2.1
  have hKp0 : Kp X Γ [1, 6, 7, 8, 9, 10, 11, 12, 14, 15, 16, 17, 19, 22, 24] H0 H0 := Kp.rf
  have hl : lv_has ls 2 [(0, .ref h0), (1, .int p1)] := hl
  refine lv_aload_n hx hb dX12_ran_0 rfl (lv_at hl 0 rfl) ?_
  refine lv_iconst (v := 0) hx hb dX12_ran_1 rfl ?_
  refine q_put E hC0 hS0 g0 fp_RX12_69 tv_F rfl rfl dX12_ran_2 (fun H21 locs21 hC21 hS21 U21 => ?_)
  have hKp21 := Kp.upO E g0 fp_RX12_69 rfl U21 hKp0
  have e22 := up_I U21
  refine lv_aload_n hx hb dX12_ran_5 rfl (lv_at hl 0 rfl) ?_
  refine lv_iconst (v := 0) hx hb dX12_ran_6 rfl ?_
  refine q_put E hC21 hS21 g0 fp_RX12_72 tv_F rfl rfl dX12_ran_7 (fun H23 locs23 hC23 hS23 U23 => ?_)
  have hKp23 := Kp.upO E g0 fp_RX12_72 rfl U23 hKp21
  have e24 := up_I U23
  refine lv_iload_n hx hb dX12_ran_10 rfl (lv_at hl 1 rfl) ?_
  refine lv_i2l (v := p1.toInt64) hx hb dX12_ran_11 rfl (lv_topl (fun v25 ev25 => ?_))
  have ev25i : v25.toInt = a1 := l_ofi ev25.symm e1
  refine lv_lconst (v := 0) hx hb dX12_ran_12 rfl ?_
  refine lv_ldc2 (v := 3) hx hb E.2.2.2.1 (E.2.2.2.2.1 _ w_1716) dX12_ran_13 ?_
  refine q_goIp (q_runS (As := [.long v25, .long 0, .long 3]) (rest := []) E hS23 (m_X12_isIn l X Γ H23 hC23 v25 (a0 := a1) ev25i 0 (a1 := 0) (show (0 : Int64).toInt = 0 from by decide) 3 (a2 := 3) (show (3 : Int64).toInt = 3 from by decide)) cw_X12_isIn cl_RX12_104 rfl hl.1 rfl (Nat.zero_le _) (by decide) dX12_ran_16) hS23 (fun v26 locs26 hr26 hS26 => ?_)
  rcases hr26 with ⟨rfl, f26a0, f26a1⟩ | ⟨rfl, f26b⟩
  · refine q_if_ne hx hb (a := 1) (by decide) (tgt := 28) dX12_ran_19 rfl (fun c27 => ?_) (fun c27 => absurd c27 (by omega))
    refine lv_aload_n hx hb dX12_ran_28 rfl (lv_at hl 0 rfl) ?_
    refine q_getI E hC23 g0 fa_RX12_476 dX12_ran_29 (fun v28 ev28 lv28 uv28 => ?_)
    refine q_if_eq hx hb (a := v28.toInt) rfl (tgt := 44) dX12_ran_32 rfl (fun c29 => ?_) (fun c29 => ?_)
    · refine lv_aload_n hx hb dX12_ran_44 rfl (lv_at hl 0 rfl) ?_
      refine lv_bipush (v := 8) hx hb dX12_ran_45 rfl ?_
      refine q_goI (q_runV (As := [.int 8]) (rest := []) E hC23 hS26 (m_X12_refuse l X Γ H23 hC23 h0 g0 8 (a1 := 8) (by decide) ca gca uc) cw_X12_refuse cl_RX12_298 g0 ⟨rfl, rfl⟩ rfl hl.1 rfl (Nat.zero_le _) (by decide) dX12_ran_47) hS26 (fun v30 H30 locs30 hr30 hC30 hS30 => ?_)
      obtain ⟨hp30, hr30⟩ := hr30
      have hKp30 := hKp23.tr (hp30.mono rfl)
      have f30_0 := hr30
      exact ret v30 H30 locs30 _ _ dX12_ran_50 ⟨hKp30, trivial⟩ hC30 hS30
    · refine lv_aload_n hx hb dX12_ran_35 rfl (lv_at hl 0 rfl) ?_
      refine q_getR E hC23 g0 fa_RX12_66 dX12_ran_36 (fun q31 eq31 gq31 => ?_)
      refine lv_iload_n hx hb dX12_ran_39 rfl (lv_at hl 1 rfl) ?_
      refine q_iald E hC23 gq31 rfl rfl (fun _ h => h) (i_in (a := a1) e1 (by omega) (by omega)) dX12_ran_40 (fun v32 ev32 _ _ => ?_)
      refine lv_goto (tgt := 50) hx hb dX12_ran_41 rfl ?_
      exact ret v32 H23 locs26 _ _ dX12_ran_50 ⟨hKp23, trivial⟩ hC23 hS26
  · refine q_if_ne hx hb (a := 0) (by decide) (tgt := 28) dX12_ran_19 rfl (fun c33 => absurd c33 (by omega)) (fun c33 => ?_)
    refine lv_aload_n hx hb dX12_ran_22 rfl (lv_at hl 0 rfl) ?_
    refine lv_iconst (v := 5) hx hb dX12_ran_23 rfl ?_
    refine q_goI (q_runV (As := [.int 5]) (rest := []) E hC23 hS26 (m_X12_refuse l X Γ H23 hC23 h0 g0 5 (a1 := 5) (by decide) ca gca uc) cw_X12_refuse cl_RX12_298 g0 ⟨rfl, rfl⟩ rfl hl.1 rfl (Nat.zero_le _) (by decide) dX12_ran_24) hS26 (fun v34 H34 locs34 hr34 hC34 hS34 => ?_)
    obtain ⟨hp34, hr34⟩ := hr34
    have hKp34 := hKp23.tr (hp34.mono rfl)
    have f34_0 := hr34
    exact ret v34 H34 locs34 _ _ dX12_ran_27 ⟨hKp34, trivial⟩ hC34 hS34
set_option maxRecDepth 100000 in
set_option maxHeartbeats 4000000 in
theorem m_X12_peaces (l : Launch) (X : xW) (Γ : Nat → Option Nat) (H0 : Heap) (hC0 : Conf X Γ H0) (h0 : Nat) (g0 : Γ h0 = some 11) (p1 : Int32) {a1 : Int} (e1 : p1.toInt = a1) (p2 : Int32) {a2 : Int} (e2 : p2.toInt = a2) (ca : Nat) (gca : Γ ca = some 64) (uc : ∀ a, Γ a = some 64 → a = ca) (oa : Nat) (goa : Γ oa = some 68) (uo : ∀ a, Γ a = some 68 → a = oa) (ka : Nat) (gka : Γ ka = some 65) (uk : ∀ a, Γ a = some 65 → a = ka) (hsw0 : SW H0 ca 0) (hu0 : UH H0 ca) : Ctr l X Γ yX12_peaces cX12_peaces 6 (some .boolean) 69 [.ref h0, .int p1, .int p2] H0 (QI X Γ (fun v H1 => Kp X Γ [1, 6, 7, 8, 9, 14, 17, 19, 22, 24] H0 H1 ∧ ((KD H0 H1 ca 0 0)))) := by
  refine q_enterZ (own := "SnowFortsModel") (by decide) rfl (Nat.le_of_ble_eq_true rfl) ?_
  intro p e s m args below meth c ls Qz E hl ret hS0
  have hx := E.1; have hb := E.2.1
  have hKp0 : Kp X Γ [1, 6, 7, 8, 9, 14, 17, 19, 22, 24] H0 H0 := Kp.rf
  have hl : lv_has ls 6 [(0, .ref h0), (1, .int p1), (2, .int p2)] := hl
  have kb : KB H0 H0 ca 2600 := KB.rf
  have kd : KD H0 H0 ca 0 0 := KD.rf
  have hn0 := c243 hC0 gca
  refine lv_aload_n hx hb dX12_peaces_0 rfl (lv_at hl 0 rfl) ?_
  refine lv_iconst (v := 0) hx hb dX12_peaces_1 rfl ?_
  refine q_put E hC0 hS0 g0 fp_RX12_69 tv_F rfl rfl dX12_peaces_2 (fun H21 locs21 hC21 hS21 U21 => ?_)
  have hKp21 := Kp.upO E g0 fp_RX12_69 rfl U21 hKp0
  have e22 := up_I U21
  have kb : KB H0 H21 ca 2600 := KB.ne kb U21 (nek g0 gca (by decide))
  have kd : KD H0 H21 ca 0 0 := KD.ne kd U21 (nek g0 gca (by decide))
  refine lv_aload_n hx hb dX12_peaces_5 rfl (lv_at hl 0 rfl) ?_
  refine lv_iconst (v := 0) hx hb dX12_peaces_6 rfl ?_
  refine q_put E hC21 hS21 g0 fp_RX12_72 tv_F rfl rfl dX12_peaces_7 (fun H23 locs23 hC23 hS23 U23 => ?_)
  have hKp23 := Kp.upO E g0 fp_RX12_72 rfl U23 hKp21
  have e24 := up_I U23
  have kb : KB H0 H23 ca 2600 := KB.ne kb U23 (nek g0 gca (by decide))
  have kd : KD H0 H23 ca 0 0 := KD.ne kd U23 (nek g0 gca (by decide))
  refine lv_iload_n hx hb dX12_peaces_10 rfl (lv_at hl 2 rfl) ?_
  refine lv_i2l (v := p2.toInt64) hx hb dX12_peaces_11 rfl (lv_topl (fun v25 ev25 => ?_))
  have ev25i : v25.toInt = a2 := l_ofi ev25.symm e2
  refine lv_lconst (v := 1) hx hb dX12_peaces_12 rfl ?_
  refine lv_ldc2 (v := 20) hx hb E.2.2.2.1 (E.2.2.2.2.1 _ w_1903) dX12_peaces_13 ?_
  refine q_goIp (q_runS (As := [.long v25, .long 1, .long 20]) (rest := []) E hS23 (m_X12_isIn l X Γ H23 hC23 v25 (a0 := a2) ev25i 1 (a1 := 1) (show (1 : Int64).toInt = 1 from by decide) 20 (a2 := 20) (show (20 : Int64).toInt = 20 from by decide)) cw_X12_isIn cl_RX12_104 rfl hl.1 rfl (Nat.zero_le _) (by decide) dX12_peaces_16) hS23 (fun v26 locs26 hr26 hS26 => ?_)
  rcases hr26 with ⟨rfl, f26a0, f26a1⟩ | ⟨rfl, f26b⟩
  · refine q_if_eq hx hb (a := 1) (by decide) (tgt := 37) dX12_peaces_19 rfl (fun c27 => absurd c27 (by omega)) (fun c27 => ?_)
    refine lv_iload_n hx hb dX12_peaces_22 rfl (lv_at hl 1 rfl) ?_
    refine lv_i2l (v := p1.toInt64) hx hb dX12_peaces_23 rfl (lv_topl (fun v28 ev28 => ?_))
    have ev28i : v28.toInt = a1 := l_ofi ev28.symm e1
    refine lv_lconst (v := 0) hx hb dX12_peaces_24 rfl ?_
    refine lv_sipush (v := 10000) hx hb dX12_peaces_25 rfl ?_
    refine lv_iload_n hx hb dX12_peaces_28 rfl (lv_at hl 2 rfl) ?_
    refine lv_isub hx hb dX12_peaces_29 (lv_topi (fun v29 ev29 => ?_))
    have ev29i : v29.toInt = (10000 - a2) := i_sub ev29 (by decide) e2 (by omega) (by omega)
    refine lv_i2l (v := v29.toInt64) hx hb dX12_peaces_30 rfl (lv_topl (fun v30 ev30 => ?_))
    have ev30i : v30.toInt = (10000 - a2) := l_ofi ev30.symm ev29i
    refine q_goIp (q_runS (As := [.long v28, .long 0, .long v30]) (rest := []) E hS26 (m_X12_isIn l X Γ H23 hC23 v28 (a0 := a1) ev28i 0 (a1 := 0) (show (0 : Int64).toInt = 0 from by decide) v30 (a2 := (10000 - a2)) ev30i) cw_X12_isIn cl_RX12_104 rfl hl.1 rfl (Nat.zero_le _) (by decide) dX12_peaces_31) hS26 (fun v31 locs31 hr31 hS31 => ?_)
    rcases hr31 with ⟨rfl, f31a0, f31a1⟩ | ⟨rfl, f31b⟩
    · refine q_if_ne hx hb (a := 1) (by decide) (tgt := 43) dX12_peaces_34 rfl (fun c32 => ?_) (fun c32 => absurd c32 (by omega))
      refine lv_aload_n hx hb dX12_peaces_43 rfl (lv_at hl 0 rfl) ?_
      refine q_getC E hC23 g0 fa_RX12_35 uc dX12_peaces_44 ?_
      refine lv_sipush (v := 242) hx hb dX12_peaces_47 rfl ?_
      refine q_cald E hC23 (lo := -2147483648) (hi := 2147483647) gca (a := 242) (show (242 : Int32).toInt = 242 from by decide) (by omega) (by omega) (cr_c134 (by omega) (by omega)) dX12_peaces_50 (fun v33 ev33 _ _ => ?_)
      have m34 : (sI H23 ca (242 : Int).toNat).toInt = v33.toInt := congrArg Int32.toInt ev33
      refine q_if_ne hx hb (a := v33.toInt) rfl (tgt := 61) dX12_peaces_51 rfl (fun c35 => ?_) (fun c35 => ?_)
      · refine lv_iconst (v := 0) hx hb dX12_peaces_61 rfl ?_
        refine lv_istore_n hx hb dX12_peaces_62 rfl hl (by decide) rfl (fun ls hl => ?_)
        have hl : lv_has ls 6 [(3, .int 0), (0, .ref h0), (1, .int p1), (2, .int p2)] := hl
        have L63 : ∀ (n37 : Nat) (H37 : Heap) (locs37 : List Loc) (v36 : Int32) (z36 : Int) (ls : Array Slot), (242 - z36).toNat < n37 → v36.toInt = z36 → z36 ≤ 242 → 0 ≤ z36 → KQ H0 H37 ca ka z36 → Conf X Γ H37 → va_S (AΓ Γ) H0 H37 locs37 → Kp X Γ [1, 6, 7, 8, 9, 14, 17, 19, 22, 24] H0 H37 → (KB H0 H37 ca 2600) → (KD H0 H37 ca 0 0) → lv_has ls 6 [(3, .int v36), (0, .ref h0), (1, .int p1), (2, .int p2)] → W p l e (rmL 69) s m args below meth c H37 locs37 0 0 Qz (F0 m 63 ls []) := by
          intro n37
          induction n37 with
          | zero => intro H37 locs37 v36 z36 ls hm37 ev36 iv37_0 iv37_1 iv37_2 hC37 hS37 hKp37 kb kd hl; exact absurd hm37 (Nat.not_lt_zero _)
          | succ n37 ih37 =>
            intro H37 locs37 v36 z36 ls hm37 ev36 iv37_0 iv37_1 iv37_2 hC37 hS37 hKp37 kb kd hl
            have kq := iv37_2
            refine lv_iload_n hx hb dX12_peaces_63 rfl (lv_at hl 0 rfl) ?_
            refine lv_sipush (v := 242) hx hb dX12_peaces_64 rfl ?_
            refine q_icmp_ge hx hb (a := z36) (b := 242) ev36 (by decide) (tgt := 88) dX12_peaces_67 rfl (fun c38 => ?_) (fun c38 => ?_)
            · have kq : KQ H0 H37 ca ka 242 := KQ.mono kq (by omega)
              refine lv_iconst (v := 0) hx hb dX12_peaces_88 rfl ?_
              refine lv_istore_n hx hb dX12_peaces_89 rfl hl (by decide) rfl (fun ls hl => ?_)
              have hl : lv_has ls 6 [(3, .int 0), (0, .ref h0), (1, .int p1), (2, .int p2)] := hl
              refine lv_iconst (v := 0) hx hb dX12_peaces_90 rfl ?_
              refine lv_istore hx hb dX12_peaces_91 hl (by decide) rfl (fun ls hl => ?_)
              have hl : lv_has ls 6 [(4, .int 0), (3, .int 0), (0, .ref h0), (1, .int p1), (2, .int p2)] := hl
              have L93 : ∀ (n41 : Nat) (H41 : Heap) (locs41 : List Loc) (v39 : Int32) (z39 : Int) (v40 : Int32) (z40 : Int) (ls : Array Slot), (a2 - z39).toNat < n41 → v39.toInt = z39 → v40.toInt = z40 → 0 ≤ z39 → 0 ≤ z40 → z40 ≤ z39 → z39 ≤ a2 → KD H0 H41 ca 0 0 → Conf X Γ H41 → va_S (AΓ Γ) H0 H41 locs41 → Kp X Γ [1, 6, 7, 8, 9, 14, 17, 19, 22, 24] H0 H41 → (KQ H0 H41 ca ka 242) → lv_has ls 6 [(4, .int v39), (3, .int v40), (0, .ref h0), (1, .int p1), (2, .int p2)] → W p l e (rmL 69) s m args below meth c H41 locs41 0 0 Qz (F0 m 93 ls []) := by
                intro n41
                induction n41 with
                | zero => intro H41 locs41 v39 z39 v40 z40 ls hm41 ev39 ev40 iv41_0 iv41_1 iv41_2 iv41_3 iv41_4 hC41 hS41 hKp41 kq hl; exact absurd hm41 (Nat.not_lt_zero _)
                | succ n41 ih41 =>
                  intro H41 locs41 v39 z39 v40 z40 ls hm41 ev39 ev40 iv41_0 iv41_1 iv41_2 iv41_3 iv41_4 hC41 hS41 hKp41 kq hl
                  have kd0 := iv41_4
                  refine lv_iload hx hb dX12_peaces_93 (lv_at hl 0 rfl) ?_
                  refine lv_iload_n hx hb dX12_peaces_95 rfl (lv_at hl 4 rfl) ?_
                  refine q_icmp_ge hx hb (a := z39) (b := a2) ev39 e2 (tgt := 164) dX12_peaces_96 rfl (fun c42 => ?_) (fun c42 => ?_)
                  · have kdt : KD H0 H41 ca 0 0 := kd0
                    refine lv_aload_n hx hb dX12_peaces_164 rfl (lv_at hl 2 rfl) ?_
                    refine lv_iload_n hx hb dX12_peaces_165 rfl (lv_at hl 1 rfl) ?_
                    refine lv_i2l (v := v40.toInt64) hx hb dX12_peaces_166 rfl (lv_topl (fun v43 ev43 => ?_))
                    have ev43i : v43.toInt = z40 := l_ofi ev43.symm ev40
                    refine lv_iload_n hx hb dX12_peaces_167 rfl (lv_at hl 4 rfl) ?_
                    refine lv_i2l (v := p2.toInt64) hx hb dX12_peaces_168 rfl (lv_topl (fun v44 ev44 => ?_))
                    have ev44i : v44.toInt = a2 := l_ofi ev44.symm e2
                    refine q_goI (q_runV (As := [.long v43, .long v44]) (rest := []) E hC41 hS41 (m_X12_fraction l X Γ H41 hC41 h0 g0 v43 (a1 := z40) ev43i v44 (a2 := a2) ev44i ca gca uc (by omega)) cw_X12_fraction cl_RX12_433 g0 ⟨rfl, rfl⟩ rfl hl.1 rfl (Nat.zero_le _) (by decide) dX12_peaces_169) hS41 (fun v45 H45 locs45 hr45 hC45 hS45 => ?_)
                    obtain ⟨hp45, hr45⟩ := hr45
                    have hKp45 := hKp41.tr (hp45.mono rfl)
                    have kq : KQ H0 H45 ca ka 242 := KQ.kp kq hp45 gka rfl
                    have kdt : KD H0 H45 ca 0 0 := KD.kp kdt hp45 gca rfl rfl
                    rcases hr45 with rfl | rfl
                    · have hpost := kdt
                      have c46 : (0 : Int32).toInt = 0 := (by decide)
                      exact ret 0 H45 locs45 _ _ dX12_peaces_172 (Or.inl rfl) ⟨hKp45, hpost⟩ hC45 hS45
                    · have hpost := kdt
                      have c47 : (1 : Int32).toInt = 1 := (by decide)
                      exact ret 1 H45 locs45 _ _ dX12_peaces_172 (Or.inr rfl) ⟨hKp45, hpost⟩ hC45 hS45
                  · have hsw1 : SW H41 ca 0 := SW.kd hsw0 kd0 (by omega) (by omega) rfl (Or.inr (by omega)) hn0.2
                    have hun : UH H41 ca := UH.kd hu0 kd0
                    refine lv_aload_n hx hb dX12_peaces_99 rfl (lv_at hl 2 rfl) ?_
                    refine lv_iload_n hx hb dX12_peaces_100 rfl (lv_at hl 3 rfl) ?_
                    refine lv_iload hx hb dX12_peaces_101 (lv_at hl 0 rfl) ?_
                    refine lv_iadd hx hb dX12_peaces_103 (lv_topi (fun v48 ev48 => ?_))
                    have ev48i : v48.toInt = (a1 + z39) := i_add ev48 e1 ev39 (by omega) (by omega)
                    refine q_goV (q_runV (As := [.int v48]) (rest := []) E hC41 hS41 (m_X12_runs l X Γ H41 hC41 h0 g0 v48 (a1 := (a1 + z39)) ev48i ca gca uc oa goa uo hun hsw1 (by omega) (by omega)) cw_X12_runs cl_RX12_473 g0 ⟨rfl, rfl⟩ rfl hl.1 rfl (Nat.zero_le _) (by decide) dX12_peaces_104) hS41 (fun H49 locs49 hr49 hC49 hS49 => ?_)
                    obtain ⟨hr49p, hU49⟩ := hr49
                    have hKp49 := hKp41.tr (hr49p.mono rfl)
                    have kq : KQ H0 H49 ca ka 242 := KQ.kp kq hr49p gka rfl
                    have kc : KC H0 H49 ca := KC.mk kd0 hr49p gca rfl
                    refine lv_iload_n hx hb dX12_peaces_107 rfl (lv_at hl 1 rfl) ?_
                    refine lv_aload_n hx hb dX12_peaces_108 rfl (lv_at hl 2 rfl) ?_
                    refine q_goI (q_runV (As := []) (rest := [.int v40]) E hC49 hS49 (m_X12_ways l X Γ H49 hC49 h0 g0 ca gca uc oa goa uo) cw_X12_ways cl_RX12_383 g0 ⟨rfl, rfl⟩ rfl hl.1 rfl (show _ ≤ _ from by simp [Value.category]) (by decide) dX12_peaces_109) hS49 (fun v50 H50 locs50 hr50 hC50 hS50 => ?_)
                    obtain ⟨hp50, hr50⟩ := hr50
                    have hKp50 := hKp49.tr (hp50.mono rfl)
                    have kq : KQ H0 H50 ca ka 242 := KQ.kp kq hp50 gka rfl
                    have kc : KC H0 H50 ca := KC.kp kc hp50 gca rfl
                    obtain ⟨f50_0, f50_1, f50_2⟩ := hr50
                    refine lv_sipush (v := 1000) hx hb dX12_peaces_112 rfl ?_
                    refine lv_idiv hx hb dX12_peaces_115 (by decide) (lv_topi (fun v51 ev51 => ?_))
                    have ev51i : v51.toInt = (v50.toInt / 1000) := i_div ev51 rfl (by decide) (by omega) (by decide)
                    refine lv_iconst (v := 4) hx hb dX12_peaces_116 rfl ?_
                    refine q_icmp_gt hx hb (a := (v50.toInt / 1000)) (b := 4) ev51i (by decide) (tgt := 124) dX12_peaces_117 rfl (fun c52 => ?_) (fun c52 => ?_)
                    · refine lv_iconst (v := 0) hx hb dX12_peaces_124 rfl ?_
                      refine lv_iadd hx hb dX12_peaces_125 (lv_topi (fun v53 ev53 => ?_))
                      have ev53i : v53.toInt = (z40 + 0) := i_add ev53 ev40 (by decide) (by omega) (by omega)
                      refine lv_istore_n hx hb dX12_peaces_126 rfl hl (by decide) rfl (fun ls hl => ?_)
                      have hl : lv_has ls 6 [(3, .int v53), (4, .int v39), (0, .ref h0), (1, .int p1), (2, .int p2)] := hl
                      refine lv_iconst (v := 0) hx hb dX12_peaces_127 rfl ?_
                      refine lv_istore hx hb dX12_peaces_128 hl (by decide) rfl (fun ls hl => ?_)
                      have hl : lv_has ls 6 [(5, .int 0), (3, .int v53), (4, .int v39), (0, .ref h0), (1, .int p1), (2, .int p2)] := hl
                      have L130 : ∀ (n55 : Nat) (H55 : Heap) (locs55 : List Loc) (v54 : Int32) (z54 : Int) (ls : Array Slot), (242 - z54).toNat < n55 → v54.toInt = z54 → z54 ≤ 242 → 0 ≤ z54 → RSI H0 H55 ca z54 → Conf X Γ H55 → va_S (AΓ Γ) H0 H55 locs55 → Kp X Γ [1, 6, 7, 8, 9, 14, 17, 19, 22, 24] H0 H55 → (KQ H0 H55 ca ka 242) → lv_has ls 6 [(5, .int v54), (3, .int v53), (4, .int v39), (0, .ref h0), (1, .int p1), (2, .int p2)] → W p l e (rmL 69) s m args below meth c H55 locs55 0 0 Qz (F0 m 130 ls []) := by
                        intro n55
                        induction n55 with
                        | zero => intro H55 locs55 v54 z54 ls hm55 ev54 iv55_0 iv55_1 iv55_2 hC55 hS55 hKp55 kq hl; exact absurd hm55 (Nat.not_lt_zero _)
                        | succ n55 ih55 =>
                          intro H55 locs55 v54 z54 ls hm55 ev54 iv55_0 iv55_1 iv55_2 hC55 hS55 hKp55 kq hl
                          have rsi := iv55_2
                          refine lv_iload hx hb dX12_peaces_130 (lv_at hl 0 rfl) ?_
                          refine lv_sipush (v := 242) hx hb dX12_peaces_132 rfl ?_
                          refine q_icmp_ge hx hb (a := z54) (b := 242) ev54 (by decide) (tgt := 158) dX12_peaces_135 rfl (fun c56 => ?_) (fun c56 => ?_)
                          · have kd2 : KD H0 H55 ca 0 0 := RSI.fin rsi (by omega)
                            obtain ⟨v57, ev57⟩ : ∃ z, z = v39 + Int32.ofInt 1 := ⟨_, rfl⟩
                            have ev57i : v57.toInt = (z39 + 1) := i_add ev57 ev39 (by decide) (by omega) (by omega)
                            refine lv_iinc hx hb dX12_peaces_158 hl (k := 2) rfl ev57.symm (by decide) rfl (fun ls hl => ?_)
                            have hl : lv_has ls 6 [(4, .int v57), (5, .int v54), (3, .int v53), (0, .ref h0), (1, .int p1), (2, .int p2)] := hl
                            refine lv_goto (tgt := 93) hx hb dX12_peaces_161 rfl ?_
                            exact ih41 H55 locs55 v57 ((z39 + 1)) v53 ((z40 + 0)) ls (by omega) ev57i ev53i (by omega) (by omega) (by omega) (by omega) (kd2) hC55 hS55 hKp55 kq (lv_sub hl [0, 2, 3, 4, 5] rfl)
                          · refine lv_aload_n hx hb dX12_peaces_138 rfl (lv_at hl 3 rfl) ?_
                            refine q_getC E hC55 g0 fa_RX12_35 uc dX12_peaces_139 ?_
                            refine lv_iload hx hb dX12_peaces_142 (lv_at hl 0 rfl) ?_
                            refine lv_aload_n hx hb dX12_peaces_144 rfl (lv_at hl 3 rfl) ?_
                            refine q_getU E hC55 g0 fa_RX12_38 uk dX12_peaces_145 ?_
                            refine lv_iload hx hb dX12_peaces_148 (lv_at hl 0 rfl) ?_
                            refine q_kald E hC55 gka (a := z54) ev54 (by omega) (by omega) dX12_peaces_150 (fun v58 ev58 tv58 => ?_)
                            have hxv := (kq z54 (by omega) (by omega)).symm.trans ev58
                            refine q_cast E hC55 hS55 gca (a := z54) ev54 (by omega) (by omega) (cB_T (by omega) (by omega) tv58) dX12_peaces_151 (fun H59 locs59 hC59 hS59 U59 => ?_)
                            have hKp59 := Kp.upD gca rfl rfl (fun _ => ⟨fun h => absurd h (by decide), fun h => absurd h (by decide), fun _ => by unfold dpn; omega⟩) U59 hKp55
                            have kq : KQ H0 H59 ca ka 242 := KQ.ne kq U59 (nek gca gka (by decide))
                            have rsi : RSI H0 H59 ca (z54 + 1) := RSI.step rsi U59 hxv rfl (by omega)
                            have e60 := up_I U59
                            obtain ⟨v61, ev61⟩ : ∃ z, z = v54 + Int32.ofInt 1 := ⟨_, rfl⟩
                            have ev61i : v61.toInt = (z54 + 1) := i_add ev61 ev54 (by decide) (by omega) (by omega)
                            refine lv_iinc hx hb dX12_peaces_152 hl (k := 0) rfl ev61.symm (by decide) rfl (fun ls hl => ?_)
                            have hl : lv_has ls 6 [(5, .int v61), (3, .int v53), (4, .int v39), (0, .ref h0), (1, .int p1), (2, .int p2)] := hl
                            refine lv_goto (tgt := 130) hx hb dX12_peaces_155 rfl ?_
                            exact ih55 H59 locs59 v61 ((z54 + 1)) ls (by omega) ev61i (by omega) (by omega) (rsi) hC59 hS59 hKp59 kq hl
                      exact L130 _ H50 locs50 0 0 ls (Nat.lt_succ_self _) (by decide) (by omega) (by omega) (RSI.nil kc) hC50 hS50 hKp50 kq hl
                    · refine lv_iconst (v := 1) hx hb dX12_peaces_120 rfl ?_
                      refine lv_goto (tgt := 125) hx hb dX12_peaces_121 rfl ?_
                      refine lv_iadd hx hb dX12_peaces_125 (lv_topi (fun v62 ev62 => ?_))
                      have ev62i : v62.toInt = (z40 + 1) := i_add ev62 ev40 (by decide) (by omega) (by omega)
                      refine lv_istore_n hx hb dX12_peaces_126 rfl hl (by decide) rfl (fun ls hl => ?_)
                      have hl : lv_has ls 6 [(3, .int v62), (4, .int v39), (0, .ref h0), (1, .int p1), (2, .int p2)] := hl
                      refine lv_iconst (v := 0) hx hb dX12_peaces_127 rfl ?_
                      refine lv_istore hx hb dX12_peaces_128 hl (by decide) rfl (fun ls hl => ?_)
                      have hl : lv_has ls 6 [(5, .int 0), (3, .int v62), (4, .int v39), (0, .ref h0), (1, .int p1), (2, .int p2)] := hl
                      have L130 : ∀ (n64 : Nat) (H64 : Heap) (locs64 : List Loc) (v63 : Int32) (z63 : Int) (ls : Array Slot), (242 - z63).toNat < n64 → v63.toInt = z63 → z63 ≤ 242 → 0 ≤ z63 → RSI H0 H64 ca z63 → Conf X Γ H64 → va_S (AΓ Γ) H0 H64 locs64 → Kp X Γ [1, 6, 7, 8, 9, 14, 17, 19, 22, 24] H0 H64 → (KQ H0 H64 ca ka 242) → lv_has ls 6 [(5, .int v63), (3, .int v62), (4, .int v39), (0, .ref h0), (1, .int p1), (2, .int p2)] → W p l e (rmL 69) s m args below meth c H64 locs64 0 0 Qz (F0 m 130 ls []) := by
                        intro n64
                        induction n64 with
                        | zero => intro H64 locs64 v63 z63 ls hm64 ev63 iv64_0 iv64_1 iv64_2 hC64 hS64 hKp64 kq hl; exact absurd hm64 (Nat.not_lt_zero _)
                        | succ n64 ih64 =>
                          intro H64 locs64 v63 z63 ls hm64 ev63 iv64_0 iv64_1 iv64_2 hC64 hS64 hKp64 kq hl
                          have rsi := iv64_2
                          refine lv_iload hx hb dX12_peaces_130 (lv_at hl 0 rfl) ?_
                          refine lv_sipush (v := 242) hx hb dX12_peaces_132 rfl ?_
                          refine q_icmp_ge hx hb (a := z63) (b := 242) ev63 (by decide) (tgt := 158) dX12_peaces_135 rfl (fun c65 => ?_) (fun c65 => ?_)
                          · have kd2 : KD H0 H64 ca 0 0 := RSI.fin rsi (by omega)
                            obtain ⟨v66, ev66⟩ : ∃ z, z = v39 + Int32.ofInt 1 := ⟨_, rfl⟩
                            have ev66i : v66.toInt = (z39 + 1) := i_add ev66 ev39 (by decide) (by omega) (by omega)
                            refine lv_iinc hx hb dX12_peaces_158 hl (k := 2) rfl ev66.symm (by decide) rfl (fun ls hl => ?_)
                            have hl : lv_has ls 6 [(4, .int v66), (5, .int v63), (3, .int v62), (0, .ref h0), (1, .int p1), (2, .int p2)] := hl
                            refine lv_goto (tgt := 93) hx hb dX12_peaces_161 rfl ?_
                            exact ih41 H64 locs64 v66 ((z39 + 1)) v62 ((z40 + 1)) ls (by omega) ev66i ev62i (by omega) (by omega) (by omega) (by omega) (kd2) hC64 hS64 hKp64 kq (lv_sub hl [0, 2, 3, 4, 5] rfl)
                          · refine lv_aload_n hx hb dX12_peaces_138 rfl (lv_at hl 3 rfl) ?_
                            refine q_getC E hC64 g0 fa_RX12_35 uc dX12_peaces_139 ?_
                            refine lv_iload hx hb dX12_peaces_142 (lv_at hl 0 rfl) ?_
                            refine lv_aload_n hx hb dX12_peaces_144 rfl (lv_at hl 3 rfl) ?_
                            refine q_getU E hC64 g0 fa_RX12_38 uk dX12_peaces_145 ?_
                            refine lv_iload hx hb dX12_peaces_148 (lv_at hl 0 rfl) ?_
                            refine q_kald E hC64 gka (a := z63) ev63 (by omega) (by omega) dX12_peaces_150 (fun v67 ev67 tv67 => ?_)
                            have hxv := (kq z63 (by omega) (by omega)).symm.trans ev67
                            refine q_cast E hC64 hS64 gca (a := z63) ev63 (by omega) (by omega) (cB_T (by omega) (by omega) tv67) dX12_peaces_151 (fun H68 locs68 hC68 hS68 U68 => ?_)
                            have hKp68 := Kp.upD gca rfl rfl (fun _ => ⟨fun h => absurd h (by decide), fun h => absurd h (by decide), fun _ => by unfold dpn; omega⟩) U68 hKp64
                            have kq : KQ H0 H68 ca ka 242 := KQ.ne kq U68 (nek gca gka (by decide))
                            have rsi : RSI H0 H68 ca (z63 + 1) := RSI.step rsi U68 hxv rfl (by omega)
                            have e69 := up_I U68
                            obtain ⟨v70, ev70⟩ : ∃ z, z = v63 + Int32.ofInt 1 := ⟨_, rfl⟩
                            have ev70i : v70.toInt = (z63 + 1) := i_add ev70 ev63 (by decide) (by omega) (by omega)
                            refine lv_iinc hx hb dX12_peaces_152 hl (k := 0) rfl ev70.symm (by decide) rfl (fun ls hl => ?_)
                            have hl : lv_has ls 6 [(5, .int v70), (3, .int v62), (4, .int v39), (0, .ref h0), (1, .int p1), (2, .int p2)] := hl
                            refine lv_goto (tgt := 130) hx hb dX12_peaces_155 rfl ?_
                            exact ih64 H68 locs68 v70 ((z63 + 1)) ls (by omega) ev70i (by omega) (by omega) (rsi) hC68 hS68 hKp68 kq hl
                      exact L130 _ H50 locs50 0 0 ls (Nat.lt_succ_self _) (by decide) (by omega) (by omega) (RSI.nil kc) hC50 hS50 hKp50 kq hl
              exact L93 _ H37 locs37 0 0 0 0 ls (Nat.lt_succ_self _) (by decide) (by decide) (by omega) (by omega) (by omega) (by omega) (kd) hC37 hS37 hKp37 kq hl
            · refine lv_aload_n hx hb dX12_peaces_70 rfl (lv_at hl 1 rfl) ?_
              refine q_getU E hC37 g0 fa_RX12_38 uk dX12_peaces_71 ?_
              refine lv_iload_n hx hb dX12_peaces_74 rfl (lv_at hl 0 rfl) ?_
              refine lv_aload_n hx hb dX12_peaces_75 rfl (lv_at hl 1 rfl) ?_
              refine q_getC E hC37 g0 fa_RX12_35 uc dX12_peaces_76 ?_
              refine lv_iload_n hx hb dX12_peaces_79 rfl (lv_at hl 0 rfl) ?_
              refine q_craw E hC37 gca (a := z36) ev36 (by omega) (by omega) dX12_peaces_80 (fun v71 ev71 tv71 => ?_)
              have hxv := (KB.at kb (a := z36) (by omega) (by omega)).symm.trans ev71
              refine q_kast E hC37 hS37 gka (a := z36) ev36 (by omega) (by omega) (cT_B (by omega) (by omega) tv71) dX12_peaces_81 (fun H72 locs72 hC72 hS72 U72 => ?_)
              have hKp72 := Kp.upA gka rfl (by decide) rfl U72 hKp37
              have kb : KB H0 H72 ca 2600 := KB.ne kb U72 (nek gka gca (by decide))
              have kd : KD H0 H72 ca 0 0 := KD.ne kd U72 (nek gka gca (by decide))
              have kq : KQ H0 H72 ca ka (z36 + 1) := KQ.step kq U72 rfl hxv (by omega)
              obtain ⟨v73, ev73⟩ : ∃ z, z = v36 + Int32.ofInt 1 := ⟨_, rfl⟩
              have ev73i : v73.toInt = (z36 + 1) := i_add ev73 ev36 (by decide) (by omega) (by omega)
              refine lv_iinc hx hb dX12_peaces_82 hl (k := 0) rfl ev73.symm (by decide) rfl (fun ls hl => ?_)
              have hl : lv_has ls 6 [(3, .int v73), (0, .ref h0), (1, .int p1), (2, .int p2)] := hl
              refine lv_goto (tgt := 63) hx hb dX12_peaces_85 rfl ?_
              exact ih37 H72 locs72 v73 ((z36 + 1)) ls (by omega) ev73i (by omega) (by omega) (kq) hC72 hS72 hKp72 kb kd hl
        exact L63 _ H23 locs31 0 0 ls (Nat.lt_succ_self _) (by decide) (by omega) (by omega) (KQ.nil) hC23 hS31 hKp23 kb kd hl
      · refine lv_aload_n hx hb dX12_peaces_54 rfl (lv_at hl 0 rfl) ?_
        refine lv_bipush (v := 8) hx hb dX12_peaces_55 rfl ?_
        refine q_goI (q_runV (As := [.int 8]) (rest := []) E hC23 hS31 (m_X12_no l X Γ H23 hC23 h0 g0 8 (a1 := 8) (by decide) ca gca uc) cw_X12_no cl_RX12_84 g0 ⟨rfl, rfl⟩ rfl hl.1 rfl (Nat.zero_le _) (by decide) dX12_peaces_57) hS31 (fun v74 H74 locs74 hr74 hC74 hS74 => ?_)
        obtain ⟨hp74, hr74⟩ := hr74
        have hKp74 := hKp23.tr (hp74.mono rfl)
        have kb : KB H0 H74 ca 2600 := KB.kp kb hp74 gca rfl
        have kd : KD H0 H74 ca 0 0 := KD.kp kd hp74 gca rfl rfl
        rcases hr74 with ⟨rfl, f74a⟩ | ⟨rfl, -⟩
        · exact absurd f74a (by decide)
        · have hpost := kd
          have c75 : (0 : Int32).toInt = 0 := (by decide)
          exact ret 0 H74 locs74 _ _ dX12_peaces_60 (Or.inl rfl) ⟨hKp74, hpost⟩ hC74 hS74
    · refine q_if_ne hx hb (a := 0) (by decide) (tgt := 43) dX12_peaces_34 rfl (fun c76 => absurd c76 (by omega)) (fun c76 => ?_)
      refine lv_aload_n hx hb dX12_peaces_37 rfl (lv_at hl 0 rfl) ?_
      refine lv_iconst (v := 5) hx hb dX12_peaces_38 rfl ?_
      refine q_goI (q_runV (As := [.int 5]) (rest := []) E hC23 hS31 (m_X12_no l X Γ H23 hC23 h0 g0 5 (a1 := 5) (by decide) ca gca uc) cw_X12_no cl_RX12_84 g0 ⟨rfl, rfl⟩ rfl hl.1 rfl (Nat.zero_le _) (by decide) dX12_peaces_39) hS31 (fun v77 H77 locs77 hr77 hC77 hS77 => ?_)
      obtain ⟨hp77, hr77⟩ := hr77
      have hKp77 := hKp23.tr (hp77.mono rfl)
      have kb : KB H0 H77 ca 2600 := KB.kp kb hp77 gca rfl
      have kd : KD H0 H77 ca 0 0 := KD.kp kd hp77 gca rfl rfl
      rcases hr77 with ⟨rfl, f77a⟩ | ⟨rfl, -⟩
      · exact absurd f77a (by decide)
      · have hpost := kd
        have c78 : (0 : Int32).toInt = 0 := (by decide)
        exact ret 0 H77 locs77 _ _ dX12_peaces_42 (Or.inl rfl) ⟨hKp77, hpost⟩ hC77 hS77
  · refine q_if_eq hx hb (a := 0) (by decide) (tgt := 37) dX12_peaces_19 rfl (fun c79 => ?_) (fun c79 => absurd c79 (by omega))
    refine lv_aload_n hx hb dX12_peaces_37 rfl (lv_at hl 0 rfl) ?_
    refine lv_iconst (v := 5) hx hb dX12_peaces_38 rfl ?_
    refine q_goI (q_runV (As := [.int 5]) (rest := []) E hC23 hS26 (m_X12_no l X Γ H23 hC23 h0 g0 5 (a1 := 5) (by decide) ca gca uc) cw_X12_no cl_RX12_84 g0 ⟨rfl, rfl⟩ rfl hl.1 rfl (Nat.zero_le _) (by decide) dX12_peaces_39) hS26 (fun v80 H80 locs80 hr80 hC80 hS80 => ?_)
    obtain ⟨hp80, hr80⟩ := hr80
    have hKp80 := hKp23.tr (hp80.mono rfl)
    have kb : KB H0 H80 ca 2600 := KB.kp kb hp80 gca rfl
    have kd : KD H0 H80 ca 0 0 := KD.kp kd hp80 gca rfl rfl
    rcases hr80 with ⟨rfl, f80a⟩ | ⟨rfl, -⟩
    · exact absurd f80a (by decide)
    · have hpost := kd
      have c81 : (0 : Int32).toInt = 0 := (by decide)
      exact ret 0 H80 locs80 _ _ dX12_peaces_42 (Or.inl rfl) ⟨hKp80, hpost⟩ hC80 hS80
set_option maxRecDepth 100000 in
set_option maxHeartbeats 4000000 in
theorem m_X12_copy (l : Launch) (X : xW) (Γ : Nat → Option Nat) (H0 : Heap) (hC0 : Conf X Γ H0) (h0 : Nat) (g0 : Γ h0 = some 11) (p1 : Int32) {a1 : Int} (e1 : p1.toInt = a1) (p2 : Int32) {a2 : Int} (e2 : p2.toInt = a2) (ca : Nat) (gca : Γ ca = some 64) (uc : ∀ a, Γ a = some 64 → a = ca) (r0 : 0 ≤ a1) (r1 : a1 ≤ 3) (r2 : 0 ≤ a2) (r3 : a2 ≤ 3) (r4 : a1 ≠ a2) : Ctr l X Γ yX12_copy cX12_copy 4 none 0 [.ref h0, .int p1, .int p2] H0 (QV X Γ (fun H1 => Kp X Γ [1, 6, 7, 8, 9, 11, 12, 14, 17, 19, 22, 24] H0 H1 ∧ ((CPX H0 H1 ca (520 * a1) (520 * a2) 520)))) := by
  refine q_enterV (own := "SnowFortsModel") (by decide) rfl (Nat.le_of_ble_eq_true rfl) ?_
  intro p e s m args below meth c ls Qz E hl ret hS0
  have hx := E.1; have hb := E.2.1
  have hKp0 : Kp X Γ [1, 6, 7, 8, 9, 11, 12, 14, 17, 19, 22, 24] H0 H0 := Kp.rf
  have hl : lv_has ls 4 [(0, .ref h0), (1, .int p1), (2, .int p2)] := hl
  refine lv_iconst (v := 0) hx hb dX12_copy_0 rfl ?_
  refine lv_istore_n hx hb dX12_copy_1 rfl hl (by decide) rfl (fun ls hl => ?_)
  have hl : lv_has ls 4 [(3, .int 0), (0, .ref h0), (1, .int p1), (2, .int p2)] := hl
  have L2 : ∀ (n22 : Nat) (H22 : Heap) (locs22 : List Loc) (v21 : Int32) (z21 : Int) (ls : Array Slot), (520 - z21).toNat < n22 → v21.toInt = z21 → z21 ≤ 520 → 0 ≤ z21 → CPX H0 H22 ca (520 * a1) (520 * a2) z21 → Conf X Γ H22 → va_S (AΓ Γ) H0 H22 locs22 → Kp X Γ [1, 6, 7, 8, 9, 11, 12, 14, 17, 19, 22, 24] H0 H22 → lv_has ls 4 [(3, .int v21), (0, .ref h0), (1, .int p1), (2, .int p2)] → W p l e (rmL 0) s m args below meth c H22 locs22 0 0 Qz (F0 m 2 ls []) := by
    intro n22
    induction n22 with
    | zero => intro H22 locs22 v21 z21 ls hm22 ev21 iv22_0 iv22_1 iv22_2 hC22 hS22 hKp22 hl; exact absurd hm22 (Nat.not_lt_zero _)
    | succ n22 ih22 =>
      intro H22 locs22 v21 z21 ls hm22 ev21 iv22_0 iv22_1 iv22_2 hC22 hS22 hKp22 hl
      have cpx := iv22_2
      refine lv_iload_n hx hb dX12_copy_2 rfl (lv_at hl 0 rfl) ?_
      refine lv_sipush (v := 520) hx hb dX12_copy_3 rfl ?_
      refine q_icmp_ge hx hb (a := z21) (b := 520) ev21 (by decide) (tgt := 39) dX12_copy_6 rfl (fun c23 => ?_) (fun c23 => ?_)
      · exact ret H22 locs22 _ _ dX12_copy_39 ⟨hKp22, CPX.eq cpx rfl rfl (by omega)⟩ hC22 hS22
      · refine lv_aload_n hx hb dX12_copy_9 rfl (lv_at hl 1 rfl) ?_
        refine q_getC E hC22 g0 fa_RX12_35 uc dX12_copy_10 ?_
        refine lv_sipush (v := 520) hx hb dX12_copy_13 rfl ?_
        refine lv_iload_n hx hb dX12_copy_16 rfl (lv_at hl 3 rfl) ?_
        refine lv_imul hx hb dX12_copy_17 (lv_topi (fun v24 ev24 => ?_))
        have ev24i : v24.toInt = (520 * a2) := i_mul ev24 (by decide) e2 (by omega) (by omega)
        refine lv_iload_n hx hb dX12_copy_18 rfl (lv_at hl 0 rfl) ?_
        refine lv_iadd hx hb dX12_copy_19 (lv_topi (fun v25 ev25 => ?_))
        have ev25i : v25.toInt = ((520 * a2) + z21) := i_add ev25 ev24i ev21 (by omega) (by omega)
        refine lv_aload_n hx hb dX12_copy_20 rfl (lv_at hl 1 rfl) ?_
        refine q_getC E hC22 g0 fa_RX12_35 uc dX12_copy_21 ?_
        refine lv_sipush (v := 520) hx hb dX12_copy_24 rfl ?_
        refine lv_iload_n hx hb dX12_copy_27 rfl (lv_at hl 2 rfl) ?_
        refine lv_imul hx hb dX12_copy_28 (lv_topi (fun v26 ev26 => ?_))
        have ev26i : v26.toInt = (520 * a1) := i_mul ev26 (by decide) e1 (by omega) (by omega)
        refine lv_iload_n hx hb dX12_copy_29 rfl (lv_at hl 0 rfl) ?_
        refine lv_iadd hx hb dX12_copy_30 (lv_topi (fun v27 ev27 => ?_))
        have ev27i : v27.toInt = ((520 * a1) + z21) := i_add ev27 ev26i ev21 (by omega) (by omega)
        refine q_craw E hC22 gca (a := ((520 * a1) + z21)) ev27i (by omega) (by omega) dX12_copy_31 (fun v28 ev28 tv28 => ?_)
        refine q_cast E hC22 hS22 gca (a := ((520 * a2) + z21)) ev25i (by omega) (by omega) (cT_cp (f := a1) (t := a2) (k := z21) rfl rfl (by omega) (by omega) (by omega) (by omega) (by omega) (by omega) tv28) dX12_copy_32 (fun H29 locs29 hC29 hS29 U29 => ?_)
        have hKp29 := Kp.upD gca rfl rfl (fun _ => ⟨fun h => absurd h (by decide), fun h => absurd h (by decide), fun _ => by unfold dpn; omega⟩) U29 hKp22
        have cpx : CPX H0 H29 ca (520 * a1) (520 * a2) (z21 + 1) := CPX.step cpx (a := ((520 * a2) + z21)) U29 rfl ev28 (by omega) (by omega) (by omega) (by omega) (by omega) (by omega)
        have e30 := up_I U29
        obtain ⟨v31, ev31⟩ : ∃ z, z = v21 + Int32.ofInt 1 := ⟨_, rfl⟩
        have ev31i : v31.toInt = (z21 + 1) := i_add ev31 ev21 (by decide) (by omega) (by omega)
        refine lv_iinc hx hb dX12_copy_33 hl (k := 0) rfl ev31.symm (by decide) rfl (fun ls hl => ?_)
        have hl : lv_has ls 4 [(3, .int v31), (0, .ref h0), (1, .int p1), (2, .int p2)] := hl
        refine lv_goto (tgt := 2) hx hb dX12_copy_36 rfl ?_
        exact ih22 H29 locs29 v31 ((z21 + 1)) ls (by omega) ev31i (by omega) (by omega) (cpx) hC29 hS29 hKp29 hl
  exact L2 _ H0 [] 0 0 ls (Nat.lt_succ_self _) (by decide) (by omega) (by omega) (CPX.nil) hC0 hS0 hKp0 hl
set_option maxRecDepth 100000 in
set_option maxHeartbeats 4000000 in
theorem m_X12_mark (l : Launch) (X : xW) (Γ : Nat → Option Nat) (H0 : Heap) (hC0 : Conf X Γ H0) (h0 : Nat) (g0 : Γ h0 = some 11) (ca : Nat) (gca : Γ ca = some 64) (uc : ∀ a, Γ a = some 64 → a = ca) : Ctr l X Γ yX12_mark cX12_mark 1 (some .int) 1 [.ref h0] H0 (QI X Γ (fun v H1 => Kp X Γ [1, 6, 7, 9, 11, 12, 14, 17, 19, 22, 24] H0 H1 ∧ (((KD H0 H1 ca 0 0 ∧ (sI H1 h0 (X.1.2 11 24)).toInt = (sI H0 h0 (X.1.2 11 24)).toInt) ∨ ((sI H1 h0 (X.1.2 11 24)).toInt = (sI H0 h0 (X.1.2 11 24)).toInt + 1 ∧ CPX H0 H1 ca 0 (520 * (sI H1 h0 (X.1.2 11 24)).toInt) 520)) ∧ ((3 ≤ (sI H0 h0 (X.1.2 11 24)).toInt ∧ v.toInt = -1 ∧ (sI H1 h0 (X.1.2 11 24)).toInt = (sI H0 h0 (X.1.2 11 24)).toInt) ∨ ((sI H0 h0 (X.1.2 11 24)).toInt ≤ 2 ∧ v.toInt = (sI H0 h0 (X.1.2 11 24)).toInt + 1 ∧ (sI H1 h0 (X.1.2 11 24)).toInt = (sI H0 h0 (X.1.2 11 24)).toInt + 1))))) := by
  refine q_enterI (own := "SnowFortsModel") (by decide) rfl (Nat.le_of_ble_eq_true rfl) ?_
  intro p e s m args below meth c ls Qz E hl ret hS0
  have hx := E.1; have hb := E.2.1
  have hKp0 : Kp X Γ [1, 6, 7, 9, 11, 12, 14, 17, 19, 22, 24] H0 H0 := Kp.rf
  have hl : lv_has ls 1 [(0, .ref h0)] := hl
  have hz1 := f_bd hC0 g0 (ci := 11) (k := 24) rfl rfl
  have kb : KB H0 H0 ca 2600 := KB.rf
  have kd : KD H0 H0 ca 0 0 := KD.rf
  refine lv_aload_n hx hb dX12_mark_0 rfl (lv_at hl 0 rfl) ?_
  refine lv_iconst (v := 0) hx hb dX12_mark_1 rfl ?_
  refine q_put E hC0 hS0 g0 fp_RX12_69 tv_F rfl rfl dX12_mark_2 (fun H21 locs21 hC21 hS21 U21 => ?_)
  have hKp21 := Kp.upO E g0 fp_RX12_69 rfl U21 hKp0
  have e22 := up_I U21
  have kb : KB H0 H21 ca 2600 := KB.ne kb U21 (nek g0 gca (by decide))
  have kd : KD H0 H21 ca 0 0 := KD.ne kd U21 (nek g0 gca (by decide))
  have m23 : (sI H21 h0 (X.1.2 11 24)).toInt = (sI H0 h0 (X.1.2 11 24)).toInt := congrArg Int32.toInt (up_nI U21 (ne_f E 11 24 1 rfl (by decide) (by decide) (by decide)))
  refine lv_aload_n hx hb dX12_mark_5 rfl (lv_at hl 0 rfl) ?_
  refine lv_iconst (v := 0) hx hb dX12_mark_6 rfl ?_
  refine q_put E hC21 hS21 g0 fp_RX12_72 tv_F rfl rfl dX12_mark_7 (fun H24 locs24 hC24 hS24 U24 => ?_)
  have hKp24 := Kp.upO E g0 fp_RX12_72 rfl U24 hKp21
  have e25 := up_I U24
  have kb : KB H0 H24 ca 2600 := KB.ne kb U24 (nek g0 gca (by decide))
  have kd : KD H0 H24 ca 0 0 := KD.ne kd U24 (nek g0 gca (by decide))
  have m26 : (sI H24 h0 (X.1.2 11 24)).toInt = (sI H21 h0 (X.1.2 11 24)).toInt := congrArg Int32.toInt (up_nI U24 (ne_f E 11 24 0 rfl (by decide) (by decide) (by decide)))
  refine lv_aload_n hx hb dX12_mark_10 rfl (lv_at hl 0 rfl) ?_
  refine q_getI E hC24 g0 fa_RX12_479 dX12_mark_11 (fun v27 ev27 lv27 uv27 => ?_)
  have m28 : (sI H24 h0 (X.1.2 11 24)).toInt = v27.toInt := (congrArg Int32.toInt ev27).trans rfl
  refine lv_iconst (v := 3) hx hb dX12_mark_14 rfl ?_
  refine q_icmp_ne hx hb (a := v27.toInt) (b := 3) rfl (by decide) (tgt := 25) dX12_mark_15 rfl (fun c29 => ?_) (fun c29 => ?_)
  · refine lv_aload_n hx hb dX12_mark_25 rfl (lv_at hl 0 rfl) ?_
    refine lv_dup hx hb dX12_mark_26 rfl ?_
    refine q_getI E hC24 g0 fa_RX12_479 dX12_mark_27 (fun v30 ev30 lv30 uv30 => ?_)
    have qv30 := ev27.symm.trans ev30; subst qv30
    refine lv_iconst (v := 1) hx hb dX12_mark_30 rfl ?_
    refine lv_iadd hx hb dX12_mark_31 (lv_topi (fun v31 ev31 => ?_))
    have ev31i : v31.toInt = (v27.toInt + 1) := i_add ev31 rfl (by decide) (by omega) (by omega)
    refine q_put E hC24 hS24 g0 fp_RX12_479 (tv_I ev31i (by omega) (by omega)) rfl rfl dX12_mark_32 (fun H32 locs32 hC32 hS32 U32 => ?_)
    have hKp32 := Kp.upO E g0 fp_RX12_479 rfl U32 hKp24
    have e33 := up_I U32
    have m34 : (sI H32 h0 (X.1.2 11 24)).toInt = (v27.toInt + 1) := (congrArg Int32.toInt e33).trans ev31i
    have kb : KB H0 H32 ca 2600 := KB.ne kb U32 (nek g0 gca (by decide))
    have kd : KD H0 H32 ca 0 0 := KD.ne kd U32 (nek g0 gca (by decide))
    refine lv_aload_n hx hb dX12_mark_35 rfl (lv_at hl 0 rfl) ?_
    refine lv_iconst (v := 0) hx hb dX12_mark_36 rfl ?_
    refine lv_aload_n hx hb dX12_mark_37 rfl (lv_at hl 0 rfl) ?_
    refine q_getI E hC32 g0 fa_RX12_479 dX12_mark_38 (fun v35 ev35 lv35 uv35 => ?_)
    have qv35 := e33.symm.trans ev35; subst qv35
    refine q_goV (q_runV (As := [.int 0, .int v31]) (rest := []) E hC32 hS32 (m_X12_copy l X Γ H32 hC32 h0 g0 0 (a1 := 0) (by decide) v31 (a2 := (v27.toInt + 1)) ev31i ca gca uc (by omega) (by omega) (by omega) (by omega) (by omega)) cw_X12_copy cl_RX12_482 g0 ⟨rfl, rfl⟩ rfl hl.1 rfl (Nat.zero_le _) (by decide) dX12_mark_41) hS32 (fun H36 locs36 hr36 hC36 hS36 => ?_)
    obtain ⟨hp36, hr36⟩ := hr36
    have hKp36 := hKp32.tr (hp36.mono rfl)
    have m37 : (sI H36 h0 (X.1.2 11 24)).toInt = (sI H32 h0 (X.1.2 11 24)).toInt := congrArg Int32.toInt (kp_I hp36 g0 (k := 24) rfl (by decide) rfl)
    have f36_0 := hr36
    have cpx := CPX.of kb f36_0 (by omega) (by omega)
    refine lv_aload_n hx hb dX12_mark_44 rfl (lv_at hl 0 rfl) ?_
    have e39 := (kp_I hp36 g0 (k := 24) rfl (by decide) rfl).trans e33
    refine q_getI E hC36 g0 fa_RX12_479 dX12_mark_45 (fun v38 ev38 lv38 uv38 => ?_)
    have qv38 := e39.symm.trans ev38; subst qv38
    have m40 : (sI H36 h0 (X.1.2 11 24)).toInt = (v27.toInt + 1) := (congrArg Int32.toInt ev38).trans ev31i
    have hpost : (KD H0 H36 ca 0 0 ∧ (sI H36 h0 (X.1.2 11 24)).toInt = (sI H0 h0 (X.1.2 11 24)).toInt) ∨ ((sI H36 h0 (X.1.2 11 24)).toInt = (sI H0 h0 (X.1.2 11 24)).toInt + 1 ∧ CPX H0 H36 ca 0 (520 * (sI H36 h0 (X.1.2 11 24)).toInt) 520) := Or.inr ⟨by omega, CPX.eq cpx (by omega) (by omega) rfl⟩
    have c41 : v31.toInt = (v27.toInt + 1) := ev31i
    exact ret v31 H36 locs36 _ _ dX12_mark_48 ⟨hKp36, ⟨hpost, by omega⟩⟩ hC36 hS36
  · refine lv_aload_n hx hb dX12_mark_18 rfl (lv_at hl 0 rfl) ?_
    refine lv_bipush (v := 7) hx hb dX12_mark_19 rfl ?_
    refine q_goI (q_runV (As := [.int 7]) (rest := []) E hC24 hS24 (m_X12_refuse l X Γ H24 hC24 h0 g0 7 (a1 := 7) (by decide) ca gca uc) cw_X12_refuse cl_RX12_298 g0 ⟨rfl, rfl⟩ rfl hl.1 rfl (Nat.zero_le _) (by decide) dX12_mark_21) hS24 (fun v42 H42 locs42 hr42 hC42 hS42 => ?_)
    obtain ⟨hp42, hr42⟩ := hr42
    have hKp42 := hKp24.tr (hp42.mono rfl)
    have kb : KB H0 H42 ca 2600 := KB.kp kb hp42 gca rfl
    have kd : KD H0 H42 ca 0 0 := KD.kp kd hp42 gca rfl rfl
    have m43 : (sI H42 h0 (X.1.2 11 24)).toInt = (sI H24 h0 (X.1.2 11 24)).toInt := congrArg Int32.toInt (kp_I hp42 g0 (k := 24) rfl (by decide) rfl)
    have f42_0 := hr42
    have e44 := (kp_I hp42 g0 (k := 24) rfl (by decide) rfl).trans ev27
    have m45 : (sI H42 h0 (X.1.2 11 24)).toInt = v27.toInt := (congrArg Int32.toInt e44).trans rfl
    have hpost : (KD H0 H42 ca 0 0 ∧ (sI H42 h0 (X.1.2 11 24)).toInt = (sI H0 h0 (X.1.2 11 24)).toInt) ∨ ((sI H42 h0 (X.1.2 11 24)).toInt = (sI H0 h0 (X.1.2 11 24)).toInt + 1 ∧ CPX H0 H42 ca 0 (520 * (sI H42 h0 (X.1.2 11 24)).toInt) 520) := Or.inl ⟨kd, by omega⟩
    have c46 : v42.toInt = v42.toInt := rfl
    exact ret v42 H42 locs42 _ _ dX12_mark_24 ⟨hKp42, ⟨hpost, by omega⟩⟩ hC42 hS42
set_option maxRecDepth 100000 in
set_option maxHeartbeats 4000000 in
theorem m_X12_back (l : Launch) (X : xW) (Γ : Nat → Option Nat) (H0 : Heap) (hC0 : Conf X Γ H0) (h0 : Nat) (g0 : Γ h0 = some 11) (ca : Nat) (gca : Γ ca = some 64) (uc : ∀ a, Γ a = some 64 → a = ca) : Ctr l X Γ yX12_back cX12_back 1 (some .int) 1 [.ref h0] H0 (QI X Γ (fun v H1 => Kp X Γ [1, 6, 7, 9, 11, 12, 14, 17, 19, 22, 24] H0 H1 ∧ (((KD H0 H1 ca 0 0 ∧ (sI H1 h0 (X.1.2 11 24)).toInt = (sI H0 h0 (X.1.2 11 24)).toInt) ∨ ((sI H1 h0 (X.1.2 11 24)).toInt = (sI H0 h0 (X.1.2 11 24)).toInt - 1 ∧ CPX H0 H1 ca (520 * (sI H0 h0 (X.1.2 11 24)).toInt) 0 520)) ∧ (((sI H0 h0 (X.1.2 11 24)).toInt ≤ 0 ∧ v.toInt = -1 ∧ (sI H1 h0 (X.1.2 11 24)).toInt = (sI H0 h0 (X.1.2 11 24)).toInt) ∨ (1 ≤ (sI H0 h0 (X.1.2 11 24)).toInt ∧ v.toInt = (sI H0 h0 (X.1.2 11 24)).toInt - 1 ∧ (sI H1 h0 (X.1.2 11 24)).toInt = (sI H0 h0 (X.1.2 11 24)).toInt - 1))))) := by
  refine q_enterI (own := "SnowFortsModel") (by decide) rfl (Nat.le_of_ble_eq_true rfl) ?_
  intro p e s m args below meth c ls Qz E hl ret hS0
  have hx := E.1; have hb := E.2.1
  have hKp0 : Kp X Γ [1, 6, 7, 9, 11, 12, 14, 17, 19, 22, 24] H0 H0 := Kp.rf
  have hl : lv_has ls 1 [(0, .ref h0)] := hl
  have hz1 := f_bd hC0 g0 (ci := 11) (k := 24) rfl rfl
  have kb : KB H0 H0 ca 2600 := KB.rf
  have kd : KD H0 H0 ca 0 0 := KD.rf
  refine lv_aload_n hx hb dX12_back_0 rfl (lv_at hl 0 rfl) ?_
  refine lv_iconst (v := 0) hx hb dX12_back_1 rfl ?_
  refine q_put E hC0 hS0 g0 fp_RX12_69 tv_F rfl rfl dX12_back_2 (fun H21 locs21 hC21 hS21 U21 => ?_)
  have hKp21 := Kp.upO E g0 fp_RX12_69 rfl U21 hKp0
  have e22 := up_I U21
  have kb : KB H0 H21 ca 2600 := KB.ne kb U21 (nek g0 gca (by decide))
  have kd : KD H0 H21 ca 0 0 := KD.ne kd U21 (nek g0 gca (by decide))
  have m23 : (sI H21 h0 (X.1.2 11 24)).toInt = (sI H0 h0 (X.1.2 11 24)).toInt := congrArg Int32.toInt (up_nI U21 (ne_f E 11 24 1 rfl (by decide) (by decide) (by decide)))
  refine lv_aload_n hx hb dX12_back_5 rfl (lv_at hl 0 rfl) ?_
  refine lv_iconst (v := 0) hx hb dX12_back_6 rfl ?_
  refine q_put E hC21 hS21 g0 fp_RX12_72 tv_F rfl rfl dX12_back_7 (fun H24 locs24 hC24 hS24 U24 => ?_)
  have hKp24 := Kp.upO E g0 fp_RX12_72 rfl U24 hKp21
  have e25 := up_I U24
  have kb : KB H0 H24 ca 2600 := KB.ne kb U24 (nek g0 gca (by decide))
  have kd : KD H0 H24 ca 0 0 := KD.ne kd U24 (nek g0 gca (by decide))
  have m26 : (sI H24 h0 (X.1.2 11 24)).toInt = (sI H21 h0 (X.1.2 11 24)).toInt := congrArg Int32.toInt (up_nI U24 (ne_f E 11 24 0 rfl (by decide) (by decide) (by decide)))
  refine lv_aload_n hx hb dX12_back_10 rfl (lv_at hl 0 rfl) ?_
  refine q_getI E hC24 g0 fa_RX12_479 dX12_back_11 (fun v27 ev27 lv27 uv27 => ?_)
  have m28 : (sI H24 h0 (X.1.2 11 24)).toInt = v27.toInt := (congrArg Int32.toInt ev27).trans rfl
  refine q_if_ne hx hb (a := v27.toInt) rfl (tgt := 24) dX12_back_14 rfl (fun c29 => ?_) (fun c29 => ?_)
  · refine lv_aload_n hx hb dX12_back_24 rfl (lv_at hl 0 rfl) ?_
    refine lv_aload_n hx hb dX12_back_25 rfl (lv_at hl 0 rfl) ?_
    refine q_getI E hC24 g0 fa_RX12_479 dX12_back_26 (fun v30 ev30 lv30 uv30 => ?_)
    have qv30 := ev27.symm.trans ev30; subst qv30
    refine lv_iconst (v := 0) hx hb dX12_back_29 rfl ?_
    refine q_goV (q_runV (As := [.int v27, .int 0]) (rest := []) E hC24 hS24 (m_X12_copy l X Γ H24 hC24 h0 g0 v27 (a1 := v27.toInt) rfl 0 (a2 := 0) (by decide) ca gca uc (by omega) (by omega) (by omega) (by omega) (by omega)) cw_X12_copy cl_RX12_482 g0 ⟨rfl, rfl⟩ rfl hl.1 rfl (Nat.zero_le _) (by decide) dX12_back_30) hS24 (fun H31 locs31 hr31 hC31 hS31 => ?_)
    obtain ⟨hp31, hr31⟩ := hr31
    have hKp31 := hKp24.tr (hp31.mono rfl)
    have m32 : (sI H31 h0 (X.1.2 11 24)).toInt = (sI H24 h0 (X.1.2 11 24)).toInt := congrArg Int32.toInt (kp_I hp31 g0 (k := 24) rfl (by decide) rfl)
    have f31_0 := hr31
    have cpx : CPX H0 H31 ca (520 * (sI H0 h0 (X.1.2 11 24)).toInt) 0 520 := CPX.eq (CPX.of kb f31_0 (by omega) (by omega)) (by omega) (by omega) rfl
    refine lv_aload_n hx hb dX12_back_33 rfl (lv_at hl 0 rfl) ?_
    refine lv_dup hx hb dX12_back_34 rfl ?_
    have e34 := (kp_I hp31 g0 (k := 24) rfl (by decide) rfl).trans ev27
    refine q_getI E hC31 g0 fa_RX12_479 dX12_back_35 (fun v33 ev33 lv33 uv33 => ?_)
    have qv33 := e34.symm.trans ev33; subst qv33
    have m35 : (sI H31 h0 (X.1.2 11 24)).toInt = v27.toInt := (congrArg Int32.toInt ev33).trans rfl
    refine lv_iconst (v := 1) hx hb dX12_back_38 rfl ?_
    refine lv_isub hx hb dX12_back_39 (lv_topi (fun v36 ev36 => ?_))
    have ev36i : v36.toInt = (v27.toInt - 1) := i_sub ev36 rfl (by decide) (by omega) (by omega)
    refine q_put E hC31 hS31 g0 fp_RX12_479 (tv_I ev36i (by omega) (by omega)) rfl rfl dX12_back_40 (fun H37 locs37 hC37 hS37 U37 => ?_)
    have hKp37 := Kp.upO E g0 fp_RX12_479 rfl U37 hKp31
    have e38 := up_I U37
    have m39 : (sI H37 h0 (X.1.2 11 24)).toInt = (v27.toInt - 1) := (congrArg Int32.toInt e38).trans ev36i
    have cpx : CPX H0 H37 ca (520 * (sI H0 h0 (X.1.2 11 24)).toInt) 0 520 := CPX.ne cpx U37 (nek g0 gca (by decide))
    refine lv_aload_n hx hb dX12_back_43 rfl (lv_at hl 0 rfl) ?_
    refine q_getI E hC37 g0 fa_RX12_479 dX12_back_44 (fun v40 ev40 lv40 uv40 => ?_)
    have qv40 := e38.symm.trans ev40; subst qv40
    have hpost : (KD H0 H37 ca 0 0 ∧ (sI H37 h0 (X.1.2 11 24)).toInt = (sI H0 h0 (X.1.2 11 24)).toInt) ∨ ((sI H37 h0 (X.1.2 11 24)).toInt = (sI H0 h0 (X.1.2 11 24)).toInt - 1 ∧ CPX H0 H37 ca (520 * (sI H0 h0 (X.1.2 11 24)).toInt) 0 520) := Or.inr ⟨by omega, cpx⟩
    have c41 : v36.toInt = (v27.toInt - 1) := ev36i
    exact ret v36 H37 locs37 _ _ dX12_back_47 ⟨hKp37, ⟨hpost, by omega⟩⟩ hC37 hS37
  · refine lv_aload_n hx hb dX12_back_17 rfl (lv_at hl 0 rfl) ?_
    refine lv_bipush (v := 8) hx hb dX12_back_18 rfl ?_
    refine q_goI (q_runV (As := [.int 8]) (rest := []) E hC24 hS24 (m_X12_refuse l X Γ H24 hC24 h0 g0 8 (a1 := 8) (by decide) ca gca uc) cw_X12_refuse cl_RX12_298 g0 ⟨rfl, rfl⟩ rfl hl.1 rfl (Nat.zero_le _) (by decide) dX12_back_20) hS24 (fun v42 H42 locs42 hr42 hC42 hS42 => ?_)
    obtain ⟨hp42, hr42⟩ := hr42
    have hKp42 := hKp24.tr (hp42.mono rfl)
    have kb : KB H0 H42 ca 2600 := KB.kp kb hp42 gca rfl
    have kd : KD H0 H42 ca 0 0 := KD.kp kd hp42 gca rfl rfl
    have m43 : (sI H42 h0 (X.1.2 11 24)).toInt = (sI H24 h0 (X.1.2 11 24)).toInt := congrArg Int32.toInt (kp_I hp42 g0 (k := 24) rfl (by decide) rfl)
    have f42_0 := hr42
    have e44 := (kp_I hp42 g0 (k := 24) rfl (by decide) rfl).trans ev27
    have m45 : (sI H42 h0 (X.1.2 11 24)).toInt = v27.toInt := (congrArg Int32.toInt e44).trans rfl
    have hpost : (KD H0 H42 ca 0 0 ∧ (sI H42 h0 (X.1.2 11 24)).toInt = (sI H0 h0 (X.1.2 11 24)).toInt) ∨ ((sI H42 h0 (X.1.2 11 24)).toInt = (sI H0 h0 (X.1.2 11 24)).toInt - 1 ∧ CPX H0 H42 ca (520 * (sI H0 h0 (X.1.2 11 24)).toInt) 0 520) := Or.inl ⟨kd, by omega⟩
    have c46 : v42.toInt = v42.toInt := rfl
    exact ret v42 H42 locs42 _ _ dX12_back_23 ⟨hKp42, ⟨hpost, by omega⟩⟩ hC42 hS42
