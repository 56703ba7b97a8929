set_option maxRecDepth 100000 in
set_option maxHeartbeats 4000000 in
theorem m_X12_works (l : Launch) (X : xW) (Γ : Nat → Option Nat) (H0 : Heap) (hC0 : Conf X Γ H0) (h0 : Nat) (g0 : Γ h0 = some 11) (p1 : Int32) {a1 : Int} (e1 : p1.toInt = a1) (p2 : Int32) {a2 : Int} (e2 : p2.toInt = a2) (p3 : Int32) {a3 : Int} (e3 : p3.toInt = a3) (ca : Nat) (gca : Γ ca = some 64) (uc : ∀ a, Γ a = some 64 → a = ca) (tm ts : Nat) (gtm : Γ tm = some 61) (utm : ∀ a, Γ a = some 61 → a = tm) (gts : Γ ts = some 60) (uts : ∀ a, Γ a = some 60 → a = ts) (na : Nat) (gna : Γ na = some 62) (una : ∀ a, Γ a = some 62 → a = na) (wk : Nat) (hwk : sR H0 h0 (X.1.2 11 29) = some wk) (gwk : Γ wk = some 70) : Ctr l X Γ yX12_works cX12_works 17 (some .long) 2 [.ref h0, .int p1, .int p2, .int p3] H0 (QJ X Γ (fun v H1 => Kp X Γ [1, 6, 7, 8, 10, 11, 12, 14, 15, 16, 17, 19, 22, 24, 26, 28] H0 H1 ∧ (((WKY a1 a2 (sI H0 tm (a1 : Int).toNat).toInt (sI H0 tm (a2 : Int).toNat).toInt a3 (HTn (nMI na H0 a1) (nMI na H0 a2) a3) ∧ v.toInt = wA (nMI na H0 a1) (nMI na H0 a2) ((a3 - 1 : Int).toNat) ∧ MmS X H1 h0 wk (wA (nMI na H0 a1) (nMI na H0 a2) ((a3 - 1 : Int).toNat)) (wF (nMI na H0 a1) (nMI na H0 a2) ((a3 - 1 : Int).toNat)) (wG (nMI na H0 a1) (nMI na H0 a2) ((a3 - 1 : Int).toNat)) (wN (nMI na H0 a1) (nMI na H0 a2) ((a3 - 1 : Int).toNat))) ∨ (¬ WKY a1 a2 (sI H0 tm (a1 : Int).toNat).toInt (sI H0 tm (a2 : Int).toNat).toInt a3 (HTn (nMI na H0 a1) (nMI na H0 a2) a3) ∧ v.toInt = -1 ∧ MmK X H0 H1 h0 wk))))) := by
  refine q_enterJ (own := "SnowFortsModel") (by decide) rfl (Nat.le_of_ble_eq_true rfl) ?_
  intro p e s m args below meth c ls Qz E hl ret hS0
  have hx := E.1; have hb := E.2.1
  have hKp0 : Kp X Γ [1, 6, 7, 8, 10, 11, 12, 14, 15, 16, 17, 19, 22, 24, 26, 28] H0 H0 := Kp.rf
  have hl : lv_has ls 17 [(0, .ref h0), (1, .int p1), (2, .int p2), (3, .int p3)] := hl
  have tmm : TMm tm ts H0 H0 := TMm.rf
  have nms : NSm (nM na H0) (nM na H0) := NSm.rf
  have mmk : MmK X H0 H0 h0 wk := MmK.rf
  refine lv_aload_n hx hb dX12_works_0 rfl (lv_at hl 0 rfl) ?_
  refine lv_iconst (v := 0) hx hb dX12_works_1 rfl ?_
  refine q_put E hC0 hS0 g0 fp_RX12_69 tv_F rfl rfl dX12_works_2 (fun H21 locs21 hC21 hS21 U21 => ?_)
  have hKp21 := Kp.upO E g0 fp_RX12_69 rfl U21 hKp0
  have e22 := up_I U21
  replace tmm : TMm tm ts H0 H21 := TMm.ne tmm U21 (nek g0 gtm (by decide)) (nek g0 gts (by decide))
  replace nms : NSm (nM na H0) (nM na H21) := nM_ne nms U21 (nek g0 gna (by decide))
  replace mmk : MmK X H0 H21 h0 wk := MmK.ne mmk U21 (ne_f E 11 30 1 rfl (by decide) (by decide) (by decide)) (nek g0 gwk (by decide))
  refine lv_aload_n hx hb dX12_works_5 rfl (lv_at hl 0 rfl) ?_
  refine lv_iconst (v := 0) hx hb dX12_works_6 rfl ?_
  refine q_put E hC21 hS21 g0 fp_RX12_72 tv_F rfl rfl dX12_works_7 (fun H23 locs23 hC23 hS23 U23 => ?_)
  have hKp23 := Kp.upO E g0 fp_RX12_72 rfl U23 hKp21
  have e24 := up_I U23
  replace tmm : TMm tm ts H0 H23 := TMm.ne tmm U23 (nek g0 gtm (by decide)) (nek g0 gts (by decide))
  replace nms : NSm (nM na H0) (nM na H23) := nM_ne nms U23 (nek g0 gna (by decide))
  replace mmk : MmK X H0 H23 h0 wk := MmK.ne mmk U23 (ne_f E 11 30 0 rfl (by decide) (by decide) (by decide)) (nek g0 gwk (by decide))
  refine lv_aload_n hx hb dX12_works_10 rfl (lv_at hl 0 rfl) ?_
  refine lv_iload_n hx hb dX12_works_11 rfl (lv_at hl 1 rfl) ?_
  refine q_goIp (q_runV (As := [.int p1]) (rest := []) E hC23 hS23 (m_X12_isTray l X Γ H23 hC23 h0 g0 p1 (a1 := a1) e1 ca gca uc) cw_X12_isTray cl_RX12_394 g0 ⟨rfl, rfl⟩ rfl hl.1 rfl (Nat.zero_le _) (by decide) dX12_works_12) hS23 (fun v25 locs25 hr25 hS25 => ?_)
  rcases hr25 with ⟨rfl, f25a0, f25a1⟩ | ⟨rfl, f25b⟩
  · refine q_if_eq hx hb (a := 1) (by decide) (tgt := 26) dX12_works_15 rfl (fun c26 => absurd c26 (by omega)) (fun c26 => ?_)
    refine lv_aload_n hx hb dX12_works_18 rfl (lv_at hl 0 rfl) ?_
    refine lv_iload_n hx hb dX12_works_19 rfl (lv_at hl 2 rfl) ?_
    refine q_goIp (q_runV (As := [.int p2]) (rest := []) E hC23 hS25 (m_X12_isTray l X Γ H23 hC23 h0 g0 p2 (a1 := a2) e2 ca gca uc) cw_X12_isTray cl_RX12_394 g0 ⟨rfl, rfl⟩ rfl hl.1 rfl (Nat.zero_le _) (by decide) dX12_works_20) hS25 (fun v27 locs27 hr27 hS27 => ?_)
    rcases hr27 with ⟨rfl, f27a0, f27a1⟩ | ⟨rfl, f27b⟩
    · refine q_if_ne hx hb (a := 1) (by decide) (tgt := 33) dX12_works_23 rfl (fun c28 => ?_) (fun c28 => absurd c28 (by omega))
      have tq1 := tmm (a1 : Int).toNat (by omega)
      have tq2 := tmm (a2 : Int).toNat (by omega)
      refine lv_aload_n hx hb dX12_works_33 rfl (lv_at hl 0 rfl) ?_
      refine q_getU E hC23 g0 fa_RX12_17 utm dX12_works_34 ?_
      refine lv_iload_n hx hb dX12_works_37 rfl (lv_at hl 1 rfl) ?_
      refine q_tald E hC23 gtm rfl rfl (lo := -1) (hi := 60) (a := a1) (fun _ h => h) e1 (by omega) (by omega) dX12_works_38 (fun v29 ev29 lv29 uv29 => ?_)
      have m30 : (sI H23 tm (a1 : Int).toNat).toInt = v29.toInt := congrArg Int32.toInt ev29
      refine q_if_lt hx hb (a := v29.toInt) rfl (tgt := 51) dX12_works_39 rfl (fun c31 => ?_) (fun c31 => ?_)
      · refine lv_aload_n hx hb dX12_works_51 rfl (lv_at hl 0 rfl) ?_
        refine lv_iconst (v := 3) hx hb dX12_works_52 rfl ?_
        refine q_goI (q_runV (As := [.int 3]) (rest := []) E hC23 hS27 (m_X12_refuse l X Γ H23 hC23 h0 g0 3 (a1 := 3) (by decide) ca gca uc) cw_X12_refuse cl_RX12_298 g0 ⟨rfl, rfl⟩ rfl hl.1 rfl (Nat.zero_le _) (by decide) dX12_works_53) hS27 (fun v32 H32 locs32 hr32 hC32 hS32 => ?_)
        obtain ⟨hp32, hr32⟩ := hr32
        have hKp32 := hKp23.tr (hp32.mono rfl)
        replace tmm : TMm tm ts H0 H32 := TMm.kp tmm hp32 gtm gts rfl
        replace nms : NSm (nM na H0) (nM na H32) := nM_kp nms hp32 gna rfl
        replace mmk : MmK X H0 H32 h0 wk := MmK.kp mmk hp32 g0 gwk rfl
        have f32_0 := hr32
        refine lv_i2l (v := v32.toInt64) hx hb dX12_works_56 rfl (lv_topl (fun v33 ev33 => ?_))
        have ev33i : v33.toInt = v32.toInt := l_ofi ev33.symm rfl
        have hpost : (WKY a1 a2 (sI H0 tm (a1 : Int).toNat).toInt (sI H0 tm (a2 : Int).toNat).toInt a3 (HTn (nMI na H0 a1) (nMI na H0 a2) a3) ∧ (v33 : Int64).toInt = wA (nMI na H0 a1) (nMI na H0 a2) ((a3 - 1 : Int).toNat) ∧ MmS X H32 h0 wk (wA (nMI na H0 a1) (nMI na H0 a2) ((a3 - 1 : Int).toNat)) (wF (nMI na H0 a1) (nMI na H0 a2) ((a3 - 1 : Int).toNat)) (wG (nMI na H0 a1) (nMI na H0 a2) ((a3 - 1 : Int).toNat)) (wN (nMI na H0 a1) (nMI na H0 a2) ((a3 - 1 : Int).toNat))) ∨ (¬ WKY a1 a2 (sI H0 tm (a1 : Int).toNat).toInt (sI H0 tm (a2 : Int).toNat).toInt a3 (HTn (nMI na H0 a1) (nMI na H0 a2) a3) ∧ (v33 : Int64).toInt = -1 ∧ MmK X H0 H32 h0 wk) := Or.inr ⟨fun h => by obtain ⟨q1, q2, q3, q4, q5, q6, q7, q8, -⟩ := h; omega, by omega, mmk⟩
        exact ret v33 H32 locs32 _ _ dX12_works_57 ⟨hKp32, hpost⟩ hC32 hS32
      · refine lv_aload_n hx hb dX12_works_42 rfl (lv_at hl 0 rfl) ?_
        refine q_getU E hC23 g0 fa_RX12_17 utm dX12_works_43 ?_
        refine lv_iload_n hx hb dX12_works_46 rfl (lv_at hl 2 rfl) ?_
        refine q_tald E hC23 gtm rfl rfl (lo := -1) (hi := 60) (a := a2) (fun _ h => h) e2 (by omega) (by omega) dX12_works_47 (fun v34 ev34 lv34 uv34 => ?_)
        have m35 : (sI H23 tm (a2 : Int).toNat).toInt = v34.toInt := congrArg Int32.toInt ev34
        refine q_if_ge hx hb (a := v34.toInt) rfl (tgt := 58) dX12_works_48 rfl (fun c36 => ?_) (fun c36 => ?_)
        · refine lv_aload_n hx hb dX12_works_58 rfl (lv_at hl 0 rfl) ?_
          refine q_getU E hC23 g0 fa_RX12_17 utm dX12_works_59 ?_
          refine lv_iload_n hx hb dX12_works_62 rfl (lv_at hl 1 rfl) ?_
          refine q_tald E hC23 gtm rfl rfl (lo := -1) (hi := 60) (a := a1) (fun _ h => h) e1 (by omega) (by omega) dX12_works_63 (fun v37 ev37 lv37 uv37 => ?_)
          have m38 : (sI H23 tm (a1 : Int).toNat).toInt = v37.toInt := congrArg Int32.toInt ev37
          refine lv_iload_n hx hb dX12_works_64 rfl (lv_at hl 3 rfl) ?_
          have c39 := i_rng p3; rw [show p3.toInt = a3 from e3] at c39
          refine q_icmp_lt hx hb (a := v37.toInt) (b := a3) rfl e3 (tgt := 83) dX12_works_65 rfl (fun c40 => ?_) (fun c40 => ?_)
          · refine lv_aload_n hx hb dX12_works_83 rfl (lv_at hl 0 rfl) ?_
            refine lv_iconst (v := 4) hx hb dX12_works_84 rfl ?_
            refine q_goI (q_runV (As := [.int 4]) (rest := []) E hC23 hS27 (m_X12_refuse l X Γ H23 hC23 h0 g0 4 (a1 := 4) (by decide) ca gca uc) cw_X12_refuse cl_RX12_298 g0 ⟨rfl, rfl⟩ rfl hl.1 rfl (Nat.zero_le _) (by decide) dX12_works_85) hS27 (fun v41 H41 locs41 hr41 hC41 hS41 => ?_)
            obtain ⟨hp41, hr41⟩ := hr41
            have hKp41 := hKp23.tr (hp41.mono rfl)
            replace tmm : TMm tm ts H0 H41 := TMm.kp tmm hp41 gtm gts rfl
            replace nms : NSm (nM na H0) (nM na H41) := nM_kp nms hp41 gna rfl
            replace mmk : MmK X H0 H41 h0 wk := MmK.kp mmk hp41 g0 gwk rfl
            have f41_0 := hr41
            refine lv_i2l (v := v41.toInt64) hx hb dX12_works_88 rfl (lv_topl (fun v42 ev42 => ?_))
            have ev42i : v42.toInt = v41.toInt := l_ofi ev42.symm rfl
            have hpost : (WKY a1 a2 (sI H0 tm (a1 : Int).toNat).toInt (sI H0 tm (a2 : Int).toNat).toInt a3 (HTn (nMI na H0 a1) (nMI na H0 a2) a3) ∧ (v42 : Int64).toInt = wA (nMI na H0 a1) (nMI na H0 a2) ((a3 - 1 : Int).toNat) ∧ MmS X H41 h0 wk (wA (nMI na H0 a1) (nMI na H0 a2) ((a3 - 1 : Int).toNat)) (wF (nMI na H0 a1) (nMI na H0 a2) ((a3 - 1 : Int).toNat)) (wG (nMI na H0 a1) (nMI na H0 a2) ((a3 - 1 : Int).toNat)) (wN (nMI na H0 a1) (nMI na H0 a2) ((a3 - 1 : Int).toNat))) ∨ (¬ WKY a1 a2 (sI H0 tm (a1 : Int).toNat).toInt (sI H0 tm (a2 : Int).toNat).toInt a3 (HTn (nMI na H0 a1) (nMI na H0 a2) a3) ∧ (v42 : Int64).toInt = -1 ∧ MmK X H0 H41 h0 wk) := Or.inr ⟨fun h => by obtain ⟨q1, q2, q3, q4, q5, q6, q7, q8, -⟩ := h; omega, by omega, mmk⟩
            exact ret v42 H41 locs41 _ _ dX12_works_89 ⟨hKp41, hpost⟩ hC41 hS41
          · refine lv_aload_n hx hb dX12_works_68 rfl (lv_at hl 0 rfl) ?_
            refine q_getU E hC23 g0 fa_RX12_17 utm dX12_works_69 ?_
            refine lv_iload_n hx hb dX12_works_72 rfl (lv_at hl 2 rfl) ?_
            refine q_tald E hC23 gtm rfl rfl (lo := -1) (hi := 60) (a := a2) (fun _ h => h) e2 (by omega) (by omega) dX12_works_73 (fun v43 ev43 lv43 uv43 => ?_)
            have m44 : (sI H23 tm (a2 : Int).toNat).toInt = v43.toInt := congrArg Int32.toInt ev43
            refine lv_i2l (v := v43.toInt64) hx hb dX12_works_74 rfl (lv_topl (fun v45 ev45 => ?_))
            have ev45i : v45.toInt = v43.toInt := l_ofi ev45.symm rfl
            refine lv_iload_n hx hb dX12_works_75 rfl (lv_at hl 3 rfl) ?_
            refine lv_i2l (v := p3.toInt64) hx hb dX12_works_76 rfl (lv_topl (fun v46 ev46 => ?_))
            have ev46i : v46.toInt = a3 := l_ofi ev46.symm e3
            refine lv_lconst (v := 1) hx hb dX12_works_77 rfl ?_
            refine lv_lsub hx hb dX12_works_78 (lv_topl (fun v47 ev47 => ?_))
            have ev47i : v47.toInt = (a3 - 1) := l_sub ev47 ev46i (show (1 : Int64).toInt = 1 from by decide) (by omega) (by omega)
            refine q_lcmp_ge hx hb (a := v43.toInt) (b := (a3 - 1)) ev45i ev47i (tgt := 90) dX12_works_79 dX12_works_80 rfl (fun c48 => ?_) (fun c48 => ?_)
            · refine lv_iload_n hx hb dX12_works_90 rfl (lv_at hl 3 rfl) ?_
              refine lv_i2l (v := p3.toInt64) hx hb dX12_works_91 rfl (lv_topl (fun v49 ev49 => ?_))
              have ev49i : v49.toInt = a3 := l_ofi ev49.symm e3
              refine lv_ldc2 (v := 2) hx hb E.2.2.2.1 (E.2.2.2.2.1 _ w_1897) dX12_works_92 ?_
              refine lv_ldc2 (v := 12) hx hb E.2.2.2.1 (E.2.2.2.2.1 _ w_1898) dX12_works_95 ?_
              refine q_goIp (q_runS (As := [.long v49, .long 2, .long 12]) (rest := []) E hS27 (m_X12_isIn l X Γ H23 hC23 v49 (a0 := a3) ev49i 2 (a1 := 2) (show (2 : Int64).toInt = 2 from by decide) 12 (a2 := 12) (show (12 : Int64).toInt = 12 from by decide)) cw_X12_isIn cl_RX12_104 rfl hl.1 rfl (Nat.zero_le _) (by decide) dX12_works_98) hS27 (fun v50 locs50 hr50 hS50 => ?_)
              rcases hr50 with ⟨rfl, f50a0, f50a1⟩ | ⟨rfl, f50b⟩
              · refine q_if_ne hx hb (a := 1) (by decide) (tgt := 111) dX12_works_101 rfl (fun c51 => ?_) (fun c51 => absurd c51 (by omega))
                refine lv_iconst (v := 0) hx hb dX12_works_111 rfl ?_
                refine lv_istore hx hb dX12_works_112 hl (by decide) rfl (fun ls hl => ?_)
                replace hl : lv_has ls 17 [(4, .int 0), (0, .ref h0), (1, .int p1), (2, .int p2), (3, .int p3)] := hl
                have L114 : ∀ (n53 : Nat) (H53 : Heap) (locs53 : List Loc) (v52 : Int32) (z52 : Int) (ls : Array Slot), (a3 - z52).toNat < n53 → v52.toInt = z52 → 0 ≤ z52 → z52 ≤ a3 → (∀ i : Nat, (i : Int) < z52 → 0 ≤ nMI na H0 a1 i ∧ nMI na H0 a1 i ≤ 99) → (∀ i : Nat, (i : Int) < z52 → (i : Int) < a3 - 1 → 0 ≤ nMI na H0 a2 i ∧ nMI na H0 a2 i ≤ 20) → Conf X Γ H53 → va_S (AΓ Γ) H0 H53 locs53 → Kp X Γ [1, 6, 7, 8, 10, 11, 12, 14, 15, 16, 17, 19, 22, 24, 26, 28] H0 H53 → (TMm tm ts H0 H53) → (NSm (nM na H0) (nM na H53)) → (MmK X H0 H53 h0 wk) → lv_has ls 17 [(4, .int v52), (0, .ref h0), (1, .int p1), (2, .int p2), (3, .int p3)] → W p l e (rmL 2) s m args below meth c H53 locs53 0 0 Qz (F0 m 114 ls []) := by
                  intro n53
                  induction n53 with
                  | zero => intro H53 locs53 v52 z52 ls hm53 ev52 iv53_0 iv53_1 iv53_2 iv53_3 hC53 hS53 hKp53 tmm nms mmk hl; exact absurd hm53 (Nat.not_lt_zero _)
                  | succ n53 ih53 =>
                    intro H53 locs53 v52 z52 ls hm53 ev52 iv53_0 iv53_1 iv53_2 iv53_3 hC53 hS53 hKp53 tmm nms mmk hl
                    have hba := iv53_2
                    have hbb := iv53_3
                    refine lv_iload hx hb dX12_works_114 (lv_at hl 0 rfl) ?_
                    refine lv_iload_n hx hb dX12_works_116 rfl (lv_at hl 4 rfl) ?_
                    refine q_icmp_ge hx hb (a := z52) (b := a3) ev52 e3 (tgt := 175) dX12_works_117 rfl (fun c54 => ?_) (fun c54 => ?_)
                    · have hbd : HTn (nMI na H0 a1) (nMI na H0 a2) a3 := ⟨fun i hi => hba i (by omega), fun i hi => hbb i (by omega) hi⟩
                      refine lv_lconst (v := 1) hx hb dX12_works_175 rfl ?_
                      refine lv_lstore hx hb dX12_works_176 hl (by decide) rfl (fun ls hl => ?_)
                      replace hl : lv_has ls 17 [(4, .long 1), (0, .ref h0), (1, .int p1), (2, .int p2), (3, .int p3)] := hl
                      refine lv_iconst (v := 0) hx hb dX12_works_178 rfl ?_
                      refine lv_istore hx hb dX12_works_179 hl (by decide) rfl (fun ls hl => ?_)
                      replace hl : lv_has ls 17 [(6, .int 0), (4, .long 1), (0, .ref h0), (1, .int p1), (2, .int p2), (3, .int p3)] := hl
                      refine lv_iconst (v := 0) hx hb dX12_works_181 rfl ?_
                      refine lv_istore hx hb dX12_works_182 hl (by decide) rfl (fun ls hl => ?_)
                      replace hl : lv_has ls 17 [(7, .int 0), (6, .int 0), (4, .long 1), (0, .ref h0), (1, .int p1), (2, .int p2), (3, .int p3)] := hl
                      refine lv_iconst (v := 0) hx hb dX12_works_184 rfl ?_
                      refine lv_istore hx hb dX12_works_185 hl (by decide) rfl (fun ls hl => ?_)
                      replace hl : lv_has ls 17 [(8, .int 0), (7, .int 0), (6, .int 0), (4, .long 1), (0, .ref h0), (1, .int p1), (2, .int p2), (3, .int p3)] := hl
                      refine lv_iconst (v := (-1)) hx hb dX12_works_187 rfl ?_
                      refine lv_istore hx hb dX12_works_188 hl (by decide) rfl (fun ls hl => ?_)
                      replace hl : lv_has ls 17 [(9, .int (-1)), (8, .int 0), (7, .int 0), (6, .int 0), (4, .long 1), (0, .ref h0), (1, .int p1), (2, .int p2), (3, .int p3)] := hl
                      refine lv_iconst (v := 0) hx hb dX12_works_190 rfl ?_
                      refine lv_istore hx hb dX12_works_191 hl (by decide) rfl (fun ls hl => ?_)
                      replace hl : lv_has ls 17 [(10, .int 0), (9, .int (-1)), (8, .int 0), (7, .int 0), (6, .int 0), (4, .long 1), (0, .ref h0), (1, .int p1), (2, .int p2), (3, .int p3)] := hl
                      have L193 : ∀ (n61 : Nat) (locs61 : List Loc) (v55 : Int32) (z55 : Int) (v56 : Int32) (z56 : Int) (v57 : Int32) (z57 : Int) (v58 : Int32) (z58 : Int) (v59 : Int32) (z59 : Int) (v60 : Int64) (z60 : Int) (ls : Array Slot), (a3 - 1 - z55).toNat < n61 → v55.toInt = z55 → v56.toInt = z56 → v57.toInt = z57 → v58.toInt = z58 → v59.toInt = z59 → v60.toInt = z60 → 0 ≤ z55 → 0 ≤ z55 → z55 ≤ a3 - 1 → -1 ≤ z56 → z56 ≤ 9 → z60 = wA (nMI na H0 a1) (nMI na H0 a2) ((z55 : Int).toNat) → z59 = wF (nMI na H0 a1) (nMI na H0 a2) ((z55 : Int).toNat) → z58 = wG (nMI na H0 a1) (nMI na H0 a2) ((z55 : Int).toNat) → z57 = wN (nMI na H0 a1) (nMI na H0 a2) ((z55 : Int).toNat) → z56 = wM (nMI na H0 a1) (nMI na H0 a2) ((z55 : Int).toNat) → va_S (AΓ Γ) H0 H53 locs61 → lv_has ls 17 [(10, .int v55), (9, .int v56), (8, .int v57), (7, .int v58), (6, .int v59), (4, .long v60), (0, .ref h0), (1, .int p1), (2, .int p2), (3, .int p3)] → W p l e (rmL 2) s m args below meth c H53 locs61 0 0 Qz (F0 m 193 ls []) := by
                        intro n61
                        induction n61 with
                        | zero => intro locs61 v55 z55 v56 z56 v57 z57 v58 z58 v59 z59 v60 z60 ls hm61 ev55 ev56 ev57 ev58 ev59 ev60 iv61_0 iv61_1 iv61_2 iv61_3 iv61_4 iv61_5 iv61_6 iv61_7 iv61_8 iv61_9 hS61 hl; exact absurd hm61 (Nat.not_lt_zero _)
                        | succ n61 ih61 =>
                          intro locs61 v55 z55 v56 z56 v57 z57 v58 z58 v59 z59 v60 z60 ls hm61 ev55 ev56 ev57 ev58 ev59 ev60 iv61_0 iv61_1 iv61_2 iv61_3 iv61_4 iv61_5 iv61_6 iv61_7 iv61_8 iv61_9 hS61 hl
                          have hall := iv61_5
                          have hrg := wFG_rng (h := (nMI na H0 a1)) (t := (nMI na H0 a2)) ((z55 : Int).toNat)
                          refine lv_iload hx hb dX12_works_193 (lv_at hl 0 rfl) ?_
                          refine lv_iconst (v := 1) hx hb dX12_works_195 rfl ?_
                          refine lv_iadd hx hb dX12_works_196 (lv_topi (fun v62 ev62 => ?_))
                          have ev62i : v62.toInt = (z55 + 1) := i_add ev62 ev55 (by decide) (by omega) (by omega)
                          refine lv_iload_n hx hb dX12_works_197 rfl (lv_at hl 9 rfl) ?_
                          refine q_icmp_ge hx hb (a := (z55 + 1)) (b := a3) ev62i e3 (tgt := 332) dX12_works_198 rfl (fun c63 => ?_) (fun c63 => ?_)
                          · have hkn : (a3 - 1 : Int).toNat = (z55 : Int).toNat := by omega
                            have hat := wA_rng (h := (nMI na H0 a1)) (t := (nMI na H0 a2)) ((z55 : Int).toNat)
                            refine lv_aload_n hx hb dX12_works_332 rfl (lv_at hl 6 rfl) ?_
                            refine lv_lload hx hb dX12_works_333 (lv_at hl 5 rfl) ?_
                            refine lv_lconst (v := 0) hx hb dX12_works_335 rfl ?_
                            refine q_lcmp_le hx hb (a := z60) (b := 0) ev60 (show (0 : Int64).toInt = 0 from by decide) (tgt := 344) dX12_works_336 dX12_works_337 rfl (fun c64 => ?_) (fun c64 => ?_)
                            · refine lv_iconst (v := 0) hx hb dX12_works_344 rfl ?_
                              refine q_put E hC53 hS61 g0 fp_RX12_410 (tv_I (show (0 : Int32).toInt = 0 from by decide) (by omega) (by omega)) (z_of (z01 (show (0 : Int32).toInt = 0 from by decide) (by omega) (by omega))) (fit_B (z01 (show (0 : Int32).toInt = 0 from by decide) (by omega) (by omega))) dX12_works_345 (fun H65 locs65 hC65 hS65 U65 => ?_)
                              have hKp65 := Kp.upO E g0 fp_RX12_410 rfl U65 hKp53
                              have e66 := up_I U65
                              replace tmm : TMm tm ts H0 H65 := TMm.ne tmm U65 (nek g0 gtm (by decide)) (nek g0 gts (by decide))
                              replace nms : NSm (nM na H0) (nM na H65) := nM_ne nms U65 (nek g0 gna (by decide))
                              have hha : (sI H65 h0 (X.1.2 11 30)).toInt ≠ 0 ↔ 0 < wA (nMI na H0 a1) (nMI na H0 a2) ((z55 : Int).toNat) := by rw [up_I U65]; first | exact ⟨fun _ => by omega, fun _ => by decide⟩ | exact ⟨fun h => absurd (by decide) h, fun h => by omega⟩
                              refine lv_aload_n hx hb dX12_works_348 rfl (lv_at hl 6 rfl) ?_
                              refine q_getS E hC65 g0 fa_RX12_53 ((kp_R hKp65 g0 (ci := 11) (k := 29) rfl (by decide) rfl).trans hwk) dX12_works_349 (fun _ => ?_)
                              refine lv_iconst (v := 0) hx hb dX12_works_352 rfl ?_
                              refine lv_iload hx hb dX12_works_353 (lv_at hl 4 rfl) ?_
                              refine q_iast E hC65 hS65 gwk (by decide) rfl rfl (i_in (a := 0) (show (0 : Int32).toInt = 0 from by decide) (by omega) (by omega)) tv_F dX12_works_355 (fun H67 locs67 hC67 hS67 U67 => ?_)
                              have hKp67 := Kp.upA gwk rfl (by decide) rfl U67 hKp65
                              replace tmm : TMm tm ts H0 H67 := TMm.ne tmm U67 (nek gwk gtm (by decide)) (nek gwk gts (by decide))
                              replace nms : NSm (nM na H0) (nM na H67) := nM_ne nms U67 (nek gwk gna (by decide))
                              have hs0 := U67
                              refine lv_aload_n hx hb dX12_works_356 rfl (lv_at hl 6 rfl) ?_
                              refine q_getS E hC67 g0 fa_RX12_53 ((kp_R hKp67 g0 (ci := 11) (k := 29) rfl (by decide) rfl).trans hwk) dX12_works_357 (fun _ => ?_)
                              refine lv_iconst (v := 1) hx hb dX12_works_360 rfl ?_
                              refine lv_iload hx hb dX12_works_361 (lv_at hl 3 rfl) ?_
                              refine q_iast E hC67 hS67 gwk (by decide) rfl rfl (i_in (a := 1) (show (1 : Int32).toInt = 1 from by decide) (by omega) (by omega)) tv_F dX12_works_363 (fun H68 locs68 hC68 hS68 U68 => ?_)
                              have hKp68 := Kp.upA gwk rfl (by decide) rfl U68 hKp67
                              replace tmm : TMm tm ts H0 H68 := TMm.ne tmm U68 (nek gwk gtm (by decide)) (nek gwk gts (by decide))
                              replace nms : NSm (nM na H0) (nM na H68) := nM_ne nms U68 (nek gwk gna (by decide))
                              have hs1 := U68
                              refine lv_aload_n hx hb dX12_works_364 rfl (lv_at hl 6 rfl) ?_
                              refine q_getS E hC68 g0 fa_RX12_53 ((kp_R hKp68 g0 (ci := 11) (k := 29) rfl (by decide) rfl).trans hwk) dX12_works_365 (fun _ => ?_)
                              refine lv_iconst (v := 2) hx hb dX12_works_368 rfl ?_
                              refine lv_iload hx hb dX12_works_369 (lv_at hl 2 rfl) ?_
                              refine q_iast E hC68 hS68 gwk (by decide) rfl rfl (i_in (a := 2) (show (2 : Int32).toInt = 2 from by decide) (by omega) (by omega)) tv_F dX12_works_371 (fun H69 locs69 hC69 hS69 U69 => ?_)
                              have hKp69 := Kp.upA gwk rfl (by decide) rfl U69 hKp68
                              replace tmm : TMm tm ts H0 H69 := TMm.ne tmm U69 (nek gwk gtm (by decide)) (nek gwk gts (by decide))
                              replace nms : NSm (nM na H0) (nM na H69) := nM_ne nms U69 (nek gwk gna (by decide))
                              have hs2 := U69
                              refine lv_lload hx hb dX12_works_372 (lv_at hl 5 rfl) ?_
                              have hne : wk ≠ h0 := nek gwk g0 (by decide)
                              have hpost : (WKY a1 a2 (sI H0 tm (a1 : Int).toNat).toInt (sI H0 tm (a2 : Int).toNat).toInt a3 (HTn (nMI na H0 a1) (nMI na H0 a2) a3) ∧ (v60 : Int64).toInt = wA (nMI na H0 a1) (nMI na H0 a2) ((a3 - 1 : Int).toNat) ∧ MmS X H69 h0 wk (wA (nMI na H0 a1) (nMI na H0 a2) ((a3 - 1 : Int).toNat)) (wF (nMI na H0 a1) (nMI na H0 a2) ((a3 - 1 : Int).toNat)) (wG (nMI na H0 a1) (nMI na H0 a2) ((a3 - 1 : Int).toNat)) (wN (nMI na H0 a1) (nMI na H0 a2) ((a3 - 1 : Int).toNat))) ∨ (¬ WKY a1 a2 (sI H0 tm (a1 : Int).toNat).toInt (sI H0 tm (a2 : Int).toNat).toInt a3 (HTn (nMI na H0 a1) (nMI na H0 a2) a3) ∧ (v60 : Int64).toInt = -1 ∧ MmK X H0 H69 h0 wk) := by rw [hkn]; exact Or.inl ⟨⟨by omega, by omega, by omega, by omega, by omega, by omega, by omega, by omega, hbd⟩, ev60.trans hall, ⟨by rw [up_nI hs2 (fun q => hne q.1.symm), up_nI hs1 (fun q => hne q.1.symm), up_nI hs0 (fun q => hne q.1.symm)]; exact hha, by rw [show sI H69 wk 0 = _ from (up_nI hs2 (fun q => absurd q.2 (by decide))).trans ((up_nI hs1 (fun q => absurd q.2 (by decide))).trans (up_I hs0))]; omega, by rw [show sI H69 wk 1 = _ from (up_nI hs2 (fun q => absurd q.2 (by decide))).trans (up_I hs1)]; omega, by rw [show sI H69 wk 2 = _ from up_I hs2]; omega⟩⟩
                              exact ret v60 H69 locs69 _ _ dX12_works_374 ⟨hKp69, hpost⟩ hC69 hS69
                            · refine lv_iconst (v := 1) hx hb dX12_works_340 rfl ?_
                              refine lv_goto (tgt := 345) hx hb dX12_works_341 rfl ?_
                              refine q_put E hC53 hS61 g0 fp_RX12_410 (tv_I (show (1 : Int32).toInt = 1 from by decide) (by omega) (by omega)) (z_of (z01 (show (1 : Int32).toInt = 1 from by decide) (by omega) (by omega))) (fit_B (z01 (show (1 : Int32).toInt = 1 from by decide) (by omega) (by omega))) dX12_works_345 (fun H70 locs70 hC70 hS70 U70 => ?_)
                              have hKp70 := Kp.upO E g0 fp_RX12_410 rfl U70 hKp53
                              have e71 := up_I U70
                              replace tmm : TMm tm ts H0 H70 := TMm.ne tmm U70 (nek g0 gtm (by decide)) (nek g0 gts (by decide))
                              replace nms : NSm (nM na H0) (nM na H70) := nM_ne nms U70 (nek g0 gna (by decide))
                              have hha : (sI H70 h0 (X.1.2 11 30)).toInt ≠ 0 ↔ 0 < wA (nMI na H0 a1) (nMI na H0 a2) ((z55 : Int).toNat) := by rw [up_I U70]; first | exact ⟨fun _ => by omega, fun _ => by decide⟩ | exact ⟨fun h => absurd (by decide) h, fun h => by omega⟩
                              refine lv_aload_n hx hb dX12_works_348 rfl (lv_at hl 6 rfl) ?_
                              refine q_getS E hC70 g0 fa_RX12_53 ((kp_R hKp70 g0 (ci := 11) (k := 29) rfl (by decide) rfl).trans hwk) dX12_works_349 (fun _ => ?_)
                              refine lv_iconst (v := 0) hx hb dX12_works_352 rfl ?_
                              refine lv_iload hx hb dX12_works_353 (lv_at hl 4 rfl) ?_
                              refine q_iast E hC70 hS70 gwk (by decide) rfl rfl (i_in (a := 0) (show (0 : Int32).toInt = 0 from by decide) (by omega) (by omega)) tv_F dX12_works_355 (fun H72 locs72 hC72 hS72 U72 => ?_)
                              have hKp72 := Kp.upA gwk rfl (by decide) rfl U72 hKp70
                              replace tmm : TMm tm ts H0 H72 := TMm.ne tmm U72 (nek gwk gtm (by decide)) (nek gwk gts (by decide))
                              replace nms : NSm (nM na H0) (nM na H72) := nM_ne nms U72 (nek gwk gna (by decide))
                              have hs0 := U72
                              refine lv_aload_n hx hb dX12_works_356 rfl (lv_at hl 6 rfl) ?_
                              refine q_getS E hC72 g0 fa_RX12_53 ((kp_R hKp72 g0 (ci := 11) (k := 29) rfl (by decide) rfl).trans hwk) dX12_works_357 (fun _ => ?_)
                              refine lv_iconst (v := 1) hx hb dX12_works_360 rfl ?_
                              refine lv_iload hx hb dX12_works_361 (lv_at hl 3 rfl) ?_
                              refine q_iast E hC72 hS72 gwk (by decide) rfl rfl (i_in (a := 1) (show (1 : Int32).toInt = 1 from by decide) (by omega) (by omega)) tv_F dX12_works_363 (fun H73 locs73 hC73 hS73 U73 => ?_)
                              have hKp73 := Kp.upA gwk rfl (by decide) rfl U73 hKp72
                              replace tmm : TMm tm ts H0 H73 := TMm.ne tmm U73 (nek gwk gtm (by decide)) (nek gwk gts (by decide))
                              replace nms : NSm (nM na H0) (nM na H73) := nM_ne nms U73 (nek gwk gna (by decide))
                              have hs1 := U73
                              refine lv_aload_n hx hb dX12_works_364 rfl (lv_at hl 6 rfl) ?_
                              refine q_getS E hC73 g0 fa_RX12_53 ((kp_R hKp73 g0 (ci := 11) (k := 29) rfl (by decide) rfl).trans hwk) dX12_works_365 (fun _ => ?_)
                              refine lv_iconst (v := 2) hx hb dX12_works_368 rfl ?_
                              refine lv_iload hx hb dX12_works_369 (lv_at hl 2 rfl) ?_
                              refine q_iast E hC73 hS73 gwk (by decide) rfl rfl (i_in (a := 2) (show (2 : Int32).toInt = 2 from by decide) (by omega) (by omega)) tv_F dX12_works_371 (fun H74 locs74 hC74 hS74 U74 => ?_)
                              have hKp74 := Kp.upA gwk rfl (by decide) rfl U74 hKp73
                              replace tmm : TMm tm ts H0 H74 := TMm.ne tmm U74 (nek gwk gtm (by decide)) (nek gwk gts (by decide))
                              replace nms : NSm (nM na H0) (nM na H74) := nM_ne nms U74 (nek gwk gna (by decide))
                              have hs2 := U74
                              refine lv_lload hx hb dX12_works_372 (lv_at hl 5 rfl) ?_
                              have hne : wk ≠ h0 := nek gwk g0 (by decide)
                              have hpost : (WKY a1 a2 (sI H0 tm (a1 : Int).toNat).toInt (sI H0 tm (a2 : Int).toNat).toInt a3 (HTn (nMI na H0 a1) (nMI na H0 a2) a3) ∧ (v60 : Int64).toInt = wA (nMI na H0 a1) (nMI na H0 a2) ((a3 - 1 : Int).toNat) ∧ MmS X H74 h0 wk (wA (nMI na H0 a1) (nMI na H0 a2) ((a3 - 1 : Int).toNat)) (wF (nMI na H0 a1) (nMI na H0 a2) ((a3 - 1 : Int).toNat)) (wG (nMI na H0 a1) (nMI na H0 a2) ((a3 - 1 : Int).toNat)) (wN (nMI na H0 a1) (nMI na H0 a2) ((a3 - 1 : Int).toNat))) ∨ (¬ WKY a1 a2 (sI H0 tm (a1 : Int).toNat).toInt (sI H0 tm (a2 : Int).toNat).toInt a3 (HTn (nMI na H0 a1) (nMI na H0 a2) a3) ∧ (v60 : Int64).toInt = -1 ∧ MmK X H0 H74 h0 wk) := by rw [hkn]; exact Or.inl ⟨⟨by omega, by omega, by omega, by omega, by omega, by omega, by omega, by omega, hbd⟩, ev60.trans hall, ⟨by rw [up_nI hs2 (fun q => hne q.1.symm), up_nI hs1 (fun q => hne q.1.symm), up_nI hs0 (fun q => hne q.1.symm)]; exact hha, by rw [show sI H74 wk 0 = _ from (up_nI hs2 (fun q => absurd q.2 (by decide))).trans ((up_nI hs1 (fun q => absurd q.2 (by decide))).trans (up_I hs0))]; omega, by rw [show sI H74 wk 1 = _ from (up_nI hs2 (fun q => absurd q.2 (by decide))).trans (up_I hs1)]; omega, by rw [show sI H74 wk 2 = _ from up_I hs2]; omega⟩⟩
                              exact ret v60 H74 locs74 _ _ dX12_works_374 ⟨hKp74, hpost⟩ hC74 hS74
                          · refine lv_iconst (v := 0) hx hb dX12_works_201 rfl ?_
                            refine lv_istore hx hb dX12_works_202 hl (by decide) rfl (fun ls hl => ?_)
                            replace hl : lv_has ls 17 [(11, .int 0), (10, .int v55), (9, .int v56), (8, .int v57), (7, .int v58), (6, .int v59), (4, .long v60), (0, .ref h0), (1, .int p1), (2, .int p2), (3, .int p3)] := hl
                            refine lv_iconst (v := 0) hx hb dX12_works_204 rfl ?_
                            refine lv_istore hx hb dX12_works_205 hl (by decide) rfl (fun ls hl => ?_)
                            replace hl : lv_has ls 17 [(12, .int 0), (11, .int 0), (10, .int v55), (9, .int v56), (8, .int v57), (7, .int v58), (6, .int v59), (4, .long v60), (0, .ref h0), (1, .int p1), (2, .int p2), (3, .int p3)] := hl
                            refine lv_iconst (v := 0) hx hb dX12_works_207 rfl ?_
                            refine lv_istore hx hb dX12_works_208 hl (by decide) rfl (fun ls hl => ?_)
                            replace hl : lv_has ls 17 [(13, .int 0), (12, .int 0), (11, .int 0), (10, .int v55), (9, .int v56), (8, .int v57), (7, .int v58), (6, .int v59), (4, .long v60), (0, .ref h0), (1, .int p1), (2, .int p2), (3, .int p3)] := hl
                            refine lv_bipush (v := 9) hx hb dX12_works_210 rfl ?_
                            refine lv_istore hx hb dX12_works_212 hl (by decide) rfl (fun ls hl => ?_)
                            replace hl : lv_has ls 17 [(14, .int 9), (13, .int 0), (12, .int 0), (11, .int 0), (10, .int v55), (9, .int v56), (8, .int v57), (7, .int v58), (6, .int v59), (4, .long v60), (0, .ref h0), (1, .int p1), (2, .int p2), (3, .int p3)] := hl
                            have L214 : ∀ (n79 : Nat) (locs79 : List Loc) (v75 : Int32) (z75 : Int) (v76 : Int32) (z76 : Int) (v77 : Int32) (z77 : Int) (v78 : Int32) (z78 : Int) (ls : Array Slot), (z75 + 1).toNat < n79 → v75.toInt = z75 → v76.toInt = z76 → v77.toInt = z77 → v78.toInt = z78 → -1 ≤ z75 → z75 ≤ 9 → 0 ≤ z78 → z78 ≤ 10 → 0 ≤ z77 → z77 ≤ 9 → 0 ≤ z76 → z76 ≤ 9 → z78 ≤ 9 - z75 → wI (wE (nMI na H0 a1) (nMI na H0 a2) ((z55 : Int).toNat)) (nMI na H0 a1 ((z55 : Int).toNat + 1)) (wH (nMI na H0 a1) (nMI na H0 a2) ((z55 : Int).toNat)) z75 z78 z77 z76 → va_S (AΓ Γ) H0 H53 locs79 → lv_has ls 17 [(14, .int v75), (13, .int v76), (12, .int v77), (11, .int v78), (10, .int v55), (9, .int v56), (8, .int v57), (7, .int v58), (6, .int v59), (4, .long v60), (0, .ref h0), (1, .int p1), (2, .int p2), (3, .int p3)] → W p l e (rmL 2) s m args below meth c H53 locs79 0 0 Qz (F0 m 214 ls []) := by
                              intro n79
                              induction n79 with
                              | zero => intro locs79 v75 z75 v76 z76 v77 z77 v78 z78 ls hm79 ev75 ev76 ev77 ev78 iv79_0 iv79_1 iv79_2 iv79_3 iv79_4 iv79_5 iv79_6 iv79_7 iv79_8 iv79_9 hS79 hl; exact absurd hm79 (Nat.not_lt_zero _)
                              | succ n79 ih79 =>
                                intro locs79 v75 z75 v76 z76 v77 z77 v78 z78 ls hm79 ev75 ev76 ev77 ev78 iv79_0 iv79_1 iv79_2 iv79_3 iv79_4 iv79_5 iv79_6 iv79_7 iv79_8 iv79_9 hS79 hl
                                have hwi := iv79_9
                                refine lv_iload hx hb dX12_works_214 (lv_at hl 0 rfl) ?_
                                refine q_if_lt hx hb (a := z75) ev75 (tgt := 289) dX12_works_216 rfl (fun c80 => ?_) (fun c80 => ?_)
                                · have hend := wI_end hwi (by omega) (by have := hbd.1 ((z55 : Int).toNat + 1) (by omega); omega)
                                  have h0r := w0_rng (h := (nMI na H0 a1)) (t := (nMI na H0 a2)) (k := (z55 : Int).toNat)
                                  have hcr := wC_rng (h := (nMI na H0 a1)) (t := (nMI na H0 a2)) (k := (z55 : Int).toNat)
                                  have hF1 : wF (nMI na H0 a1) (nMI na H0 a2) ((z55 : Int).toNat + 1) = wF (nMI na H0 a1) (nMI na H0 a2) ((z55 : Int).toNat) + wL0 (nMI na H0 a1) (nMI na H0 a2) ((z55 : Int).toNat) := wF_s
                                  have hG1 : wG (nMI na H0 a1) (nMI na H0 a2) ((z55 : Int).toNat + 1) = wG (nMI na H0 a1) (nMI na H0 a2) ((z55 : Int).toNat) + wH0 (nMI na H0 a1) (nMI na H0 a2) ((z55 : Int).toNat) := wG_s
                                  refine lv_lload hx hb dX12_works_289 (lv_at hl 9 rfl) ?_
                                  refine lv_iload hx hb dX12_works_291 (lv_at hl 3 rfl) ?_
                                  refine lv_i2l (v := v78.toInt64) hx hb dX12_works_293 rfl (lv_topl (fun v81 ev81 => ?_))
                                  have ev81i : v81.toInt = z78 := l_ofi ev81.symm ev78
                                  refine lv_lmul hx hb dX12_works_294 (lv_topl (fun v82 ev82 => ?_))
                                  have hmu := w_mul ev82 (ev60.trans hall) (ev81i.trans hend.1) (by omega)
                                  refine lv_lstore hx hb dX12_works_295 hl (by decide) rfl (fun ls hl => ?_)
                                  replace hl : lv_has ls 17 [(4, .long v82), (14, .int v75), (13, .int v76), (12, .int v77), (11, .int v78), (10, .int v55), (9, .int v56), (8, .int v57), (7, .int v58), (6, .int v59), (0, .ref h0), (1, .int p1), (2, .int p2), (3, .int p3)] := hl
                                  refine lv_iload hx hb dX12_works_297 (lv_at hl 9 rfl) ?_
                                  refine lv_iload hx hb dX12_works_299 (lv_at hl 3 rfl) ?_
                                  refine lv_iadd hx hb dX12_works_301 (lv_topi (fun v83 ev83 => ?_))
                                  have ev83i : v83.toInt = (z59 + z77) := i_add ev83 ev59 ev77 (by omega) (by omega)
                                  refine lv_istore hx hb dX12_works_302 hl (by decide) rfl (fun ls hl => ?_)
                                  replace hl : lv_has ls 17 [(6, .int v83), (4, .long v82), (14, .int v75), (13, .int v76), (12, .int v77), (11, .int v78), (10, .int v55), (9, .int v56), (8, .int v57), (7, .int v58), (0, .ref h0), (1, .int p1), (2, .int p2), (3, .int p3)] := hl
                                  refine lv_iload hx hb dX12_works_304 (lv_at hl 9 rfl) ?_
                                  refine lv_iload hx hb dX12_works_306 (lv_at hl 3 rfl) ?_
                                  refine lv_iadd hx hb dX12_works_308 (lv_topi (fun v84 ev84 => ?_))
                                  have ev84i : v84.toInt = (z58 + z76) := i_add ev84 ev58 ev76 (by omega) (by omega)
                                  refine lv_istore hx hb dX12_works_309 hl (by decide) rfl (fun ls hl => ?_)
                                  replace hl : lv_has ls 17 [(7, .int v84), (6, .int v83), (4, .long v82), (14, .int v75), (13, .int v76), (12, .int v77), (11, .int v78), (10, .int v55), (9, .int v56), (8, .int v57), (0, .ref h0), (1, .int p1), (2, .int p2), (3, .int p3)] := hl
                                  refine lv_iload hx hb dX12_works_311 (lv_at hl 5 rfl) ?_
                                  refine lv_iload hx hb dX12_works_313 (lv_at hl 8 rfl) ?_
                                  refine q_icmp_le hx hb (a := z77) (b := z56) ev77 ev56 (tgt := 326) dX12_works_315 rfl (fun c85 => ?_) (fun c85 => ?_)
                                  · have hMf : z56 = wM (nMI na H0 a1) (nMI na H0 a2) ((z55 : Int).toNat + 1) := by first | (rw [wM_p (by omega)]; omega) | (rw [wM_n (by omega)]; omega)
                                    have hNf : z57 = wN (nMI na H0 a1) (nMI na H0 a2) ((z55 : Int).toNat + 1) := by first | (rw [wN_p (by omega)]; omega) | (rw [wN_n (by omega)]; omega)
                                    have hk1 : (z55 + 1 : Int).toNat = (z55 : Int).toNat + 1 := by omega
                                    obtain ⟨v86, ev86⟩ : ∃ z, z = v55 + Int32.ofInt 1 := ⟨_, rfl⟩
                                    have ev86i : v86.toInt = (z55 + 1) := i_add ev86 ev55 (by decide) (by omega) (by omega)
                                    refine lv_iinc hx hb dX12_works_326 hl (k := 7) rfl ev86.symm (by decide) rfl (fun ls hl => ?_)
                                    replace hl : lv_has ls 17 [(10, .int v86), (7, .int v84), (6, .int v83), (4, .long v82), (14, .int v75), (13, .int v76), (12, .int v77), (11, .int v78), (9, .int v56), (8, .int v57), (0, .ref h0), (1, .int p1), (2, .int p2), (3, .int p3)] := hl
                                    refine lv_goto (tgt := 193) hx hb dX12_works_329 rfl ?_
                                    exact ih61 locs79 v86 ((z55 + 1)) v56 (z56) v57 (z57) v84 ((z58 + z76)) v83 ((z59 + z77)) v82 (v82.toInt) ls (by omega) ev86i ev56 ev57 ev84i ev83i rfl (by omega) (by omega) (by omega) (by omega) (by omega) (by rw [hk1]; exact hmu) (by rw [hk1]; omega) (by rw [hk1]; omega) (by rw [hk1]; exact hNf) (by rw [hk1]; exact hMf) hS79 (lv_sub hl [0, 8, 9, 1, 2, 3, 10, 11, 12, 13] rfl)
                                  · refine lv_iload hx hb dX12_works_318 (lv_at hl 5 rfl) ?_
                                    refine lv_istore hx hb dX12_works_320 hl (by decide) rfl (fun ls hl => ?_)
                                    replace hl : lv_has ls 17 [(9, .int v77), (7, .int v84), (6, .int v83), (4, .long v82), (14, .int v75), (13, .int v76), (12, .int v77), (11, .int v78), (10, .int v55), (8, .int v57), (0, .ref h0), (1, .int p1), (2, .int p2), (3, .int p3)] := hl
                                    refine lv_iload hx hb dX12_works_322 (lv_at hl 8 rfl) ?_
                                    refine lv_istore hx hb dX12_works_324 hl (by decide) rfl (fun ls hl => ?_)
                                    replace hl : lv_has ls 17 [(8, .int v55), (9, .int v77), (7, .int v84), (6, .int v83), (4, .long v82), (14, .int v75), (13, .int v76), (12, .int v77), (11, .int v78), (10, .int v55), (0, .ref h0), (1, .int p1), (2, .int p2), (3, .int p3)] := hl
                                    have hMf : z77 = wM (nMI na H0 a1) (nMI na H0 a2) ((z55 : Int).toNat + 1) := by first | (rw [wM_p (by omega)]; omega) | (rw [wM_n (by omega)]; omega)
                                    have hNf : z55 = wN (nMI na H0 a1) (nMI na H0 a2) ((z55 : Int).toNat + 1) := by first | (rw [wN_p (by omega)]; omega) | (rw [wN_n (by omega)]; omega)
                                    have hk1 : (z55 + 1 : Int).toNat = (z55 : Int).toNat + 1 := by omega
                                    obtain ⟨v87, ev87⟩ : ∃ z, z = v55 + Int32.ofInt 1 := ⟨_, rfl⟩
                                    have ev87i : v87.toInt = (z55 + 1) := i_add ev87 ev55 (by decide) (by omega) (by omega)
                                    refine lv_iinc hx hb dX12_works_326 hl (k := 9) rfl ev87.symm (by decide) rfl (fun ls hl => ?_)
                                    replace hl : lv_has ls 17 [(10, .int v87), (8, .int v55), (9, .int v77), (7, .int v84), (6, .int v83), (4, .long v82), (14, .int v75), (13, .int v76), (12, .int v77), (11, .int v78), (0, .ref h0), (1, .int p1), (2, .int p2), (3, .int p3)] := hl
                                    refine lv_goto (tgt := 193) hx hb dX12_works_329 rfl ?_
                                    exact ih61 locs79 v87 ((z55 + 1)) v77 (z77) v55 (z55) v84 ((z58 + z76)) v83 ((z59 + z77)) v82 (v82.toInt) ls (by omega) ev87i ev77 ev55 ev84i ev83i rfl (by omega) (by omega) (by omega) (by omega) (by omega) (by rw [hk1]; exact hmu) (by rw [hk1]; omega) (by rw [hk1]; omega) (by rw [hk1]; exact hNf) (by rw [hk1]; exact hMf) hS79 (lv_sub hl [0, 2, 1, 3, 4, 5, 10, 11, 12, 13] rfl)
                                · refine lv_lconst (v := 0) hx hb dX12_works_219 rfl ?_
                                  refine lv_aload_n hx hb dX12_works_220 rfl (lv_at hl 10 rfl) ?_
                                  refine lv_iload_n hx hb dX12_works_221 rfl (lv_at hl 11 rfl) ?_
                                  refine lv_iload hx hb dX12_works_222 (lv_at hl 4 rfl) ?_
                                  refine q_goJp (q_runV (As := [.int p1, .int v55]) (rest := [.long 0]) E hC53 hS79 (m_X12_numberOf l X Γ H53 hC53 h0 g0 p1 (a1 := a1) e1 v55 (a2 := z55) ev55 ca gca uc tm ts gtm utm gts uts na gna una (by omega) (by omega) (by omega) (by omega)) cw_X12_numberOf cl_RX12_401 g0 ⟨rfl, rfl⟩ rfl hl.1 rfl (show _ ≤ _ from by simp [Value.category]) (by decide) dX12_works_224) hS79 (fun v88 locs88 hr88 hS88 => ?_)
                                  have f88_0 := hr88
                                  have hv1 : v88.toInt = nMI na H0 a1 ((z55 : Int).toNat) := congrArg Int64.toInt (f88_0.trans (by rw [show (z55 : Int).toNat = (z55 : Int).toNat from by omega]; exact nms (a1 : Int).toNat ((z55 : Int).toNat) (by omega) (by omega)))
                                  have hb1 := hbd.1 (z55 : Int).toNat (by omega)
                                  refine lv_iload hx hb dX12_works_227 (lv_at hl 0 rfl) ?_
                                  refine lv_i2l (v := v75.toInt64) hx hb dX12_works_229 rfl (lv_topl (fun v89 ev89 => ?_))
                                  have ev89i : v89.toInt = z75 := l_ofi ev89.symm ev75
                                  refine lv_ladd hx hb dX12_works_230 (lv_topl (fun v90 ev90 => ?_))
                                  have ev90i : v90.toInt = (v88.toInt + z75) := l_add ev90 rfl ev89i (by omega) (by omega)
                                  refine lv_aload_n hx hb dX12_works_231 rfl (lv_at hl 10 rfl) ?_
                                  refine lv_iload_n hx hb dX12_works_232 rfl (lv_at hl 12 rfl) ?_
                                  refine lv_iload hx hb dX12_works_233 (lv_at hl 4 rfl) ?_
                                  refine q_goJp (q_runV (As := [.int p2, .int v55]) (rest := [.long v90, .long 0]) E hC53 hS88 (m_X12_numberOf l X Γ H53 hC53 h0 g0 p2 (a1 := a2) e2 v55 (a2 := z55) ev55 ca gca uc tm ts gtm utm gts uts na gna una (by omega) (by omega) (by omega) (by omega)) cw_X12_numberOf cl_RX12_401 g0 ⟨rfl, rfl⟩ rfl hl.1 rfl (show _ ≤ _ from by simp [Value.category]) (by decide) dX12_works_235) hS88 (fun v91 locs91 hr91 hS91 => ?_)
                                  have f91_0 := hr91
                                  have hv2 : v91.toInt = nMI na H0 a2 ((z55 : Int).toNat) := congrArg Int64.toInt (f91_0.trans (by rw [show (z55 : Int).toNat = (z55 : Int).toNat from by omega]; exact nms (a2 : Int).toNat ((z55 : Int).toNat) (by omega) (by omega)))
                                  have hb2 := hbd.2 (z55 : Int).toNat (by omega)
                                  refine lv_lsub hx hb dX12_works_238 (lv_topl (fun v92 ev92 => ?_))
                                  have ev92i : v92.toInt = ((v88.toInt + z75) - v91.toInt) := l_sub ev92 ev90i rfl (by omega) (by omega)
                                  refine q_mmaxJ E hl.1 w_1904 mathw_maxJ (by decide) (Nat.zero_le _) dX12_works_239 (a := 0) (b := ((v88.toInt + z75) - v91.toInt)) (show (0 : Int64).toInt = 0 from by decide) ev92i (fun v93 mv93a mv93b mv93c => ?_)
                                  refine lv_lstore hx hb dX12_works_242 hl (by decide) rfl (fun ls hl => ?_)
                                  replace hl : lv_has ls 17 [(15, .long v93), (14, .int v75), (13, .int v76), (12, .int v77), (11, .int v78), (10, .int v55), (9, .int v56), (8, .int v57), (7, .int v58), (6, .int v59), (4, .long v60), (0, .ref h0), (1, .int p1), (2, .int p2), (3, .int p3)] := hl
                                  refine lv_lload hx hb dX12_works_244 (lv_at hl 0 rfl) ?_
                                  refine lv_aload_n hx hb dX12_works_246 rfl (lv_at hl 11 rfl) ?_
                                  refine lv_iload_n hx hb dX12_works_247 rfl (lv_at hl 12 rfl) ?_
                                  refine lv_iload hx hb dX12_works_248 (lv_at hl 5 rfl) ?_
                                  refine lv_iconst (v := 1) hx hb dX12_works_250 rfl ?_
                                  refine lv_iadd hx hb dX12_works_251 (lv_topi (fun v94 ev94 => ?_))
                                  have ev94i : v94.toInt = (z55 + 1) := i_add ev94 ev55 (by decide) (by omega) (by omega)
                                  refine q_goJp (q_runV (As := [.int p1, .int v94]) (rest := [.long v93]) E hC53 hS91 (m_X12_numberOf l X Γ H53 hC53 h0 g0 p1 (a1 := a1) e1 v94 (a2 := (z55 + 1)) ev94i ca gca uc tm ts gtm utm gts uts na gna una (by omega) (by omega) (by omega) (by omega)) cw_X12_numberOf cl_RX12_401 g0 ⟨rfl, rfl⟩ rfl hl.1 rfl (show _ ≤ _ from by simp [Value.category]) (by decide) dX12_works_252) hS91 (fun v95 locs95 hr95 hS95 => ?_)
                                  have f95_0 := hr95
                                  have hv3 : v95.toInt = nMI na H0 a1 ((z55 : Int).toNat + 1) := congrArg Int64.toInt (f95_0.trans (by rw [show (z55 + 1 : Int).toNat = (z55 : Int).toNat + 1 from by omega]; exact nms (a1 : Int).toNat ((z55 : Int).toNat + 1) (by omega) (by omega)))
                                  have hb3 := hbd.1 ((z55 : Int).toNat + 1) (by omega)
                                  refine q_lcmp_eq hx hb (a := v93.toInt) (b := v95.toInt) rfl rfl (tgt := 262) dX12_works_255 dX12_works_256 rfl (fun c96 => ?_) (fun c96 => ?_)
                                  · have hwh0 := wI_hit (m := v93.toInt) hwi wH_rng (by omega) (by omega) (by omega) (by omega) (by rw [wE_d]; omega) (by rw [wE_d]; omega)
                                    refine lv_iload hx hb dX12_works_262 (lv_at hl 4 rfl) ?_
                                    refine q_if_ne hx hb (a := z78) ev78 (tgt := 272) dX12_works_264 rfl (fun c97 => ?_) (fun c97 => ?_)
                                    · refine lv_iload hx hb dX12_works_272 (lv_at hl 2 rfl) ?_
                                      refine lv_istore hx hb dX12_works_274 hl (by decide) rfl (fun ls hl => ?_)
                                      replace hl : lv_has ls 17 [(13, .int v76), (15, .long v93), (14, .int v75), (12, .int v77), (11, .int v78), (10, .int v55), (9, .int v56), (8, .int v57), (7, .int v58), (6, .int v59), (4, .long v60), (0, .ref h0), (1, .int p1), (2, .int p2), (3, .int p3)] := hl
                                      refine lv_iload hx hb dX12_works_276 (lv_at hl 2 rfl) ?_
                                      refine lv_istore hx hb dX12_works_278 hl (by decide) rfl (fun ls hl => ?_)
                                      replace hl : lv_has ls 17 [(12, .int v75), (13, .int v76), (15, .long v93), (14, .int v75), (11, .int v78), (10, .int v55), (9, .int v56), (8, .int v57), (7, .int v58), (6, .int v59), (4, .long v60), (0, .ref h0), (1, .int p1), (2, .int p2), (3, .int p3)] := hl
                                      have hwh : wI (wE (nMI na H0 a1) (nMI na H0 a2) ((z55 : Int).toNat)) (nMI na H0 a1 ((z55 : Int).toNat + 1)) (wH (nMI na H0 a1) (nMI na H0 a2) ((z55 : Int).toNat)) (z75 + (-1)) (z78 + 1) z75 z76 := by first | (rw [if_pos (by omega)] at hwh0; exact hwh0) | (rw [if_neg (by omega)] at hwh0; exact hwh0)
                                      obtain ⟨v98, ev98⟩ : ∃ z, z = v78 + Int32.ofInt 1 := ⟨_, rfl⟩
                                      have ev98i : v98.toInt = (z78 + 1) := i_add ev98 ev78 (by decide) (by omega) (by omega)
                                      refine lv_iinc hx hb dX12_works_280 hl (k := 4) rfl ev98.symm (by decide) rfl (fun ls hl => ?_)
                                      replace hl : lv_has ls 17 [(11, .int v98), (12, .int v75), (13, .int v76), (15, .long v93), (14, .int v75), (10, .int v55), (9, .int v56), (8, .int v57), (7, .int v58), (6, .int v59), (4, .long v60), (0, .ref h0), (1, .int p1), (2, .int p2), (3, .int p3)] := hl
                                      have hwn : wI (wE (nMI na H0 a1) (nMI na H0 a2) ((z55 : Int).toNat)) (nMI na H0 a1 ((z55 : Int).toNat + 1)) (wH (nMI na H0 a1) (nMI na H0 a2) ((z55 : Int).toNat)) (z75 + (-1)) (z78 + 1) z75 z76 := by first | exact hwm | exact hwh
                                      obtain ⟨v99, ev99⟩ : ∃ z, z = v75 + Int32.ofInt (-1) := ⟨_, rfl⟩
                                      have ev99i : v99.toInt = (z75 + (-1)) := i_add ev99 ev75 (by decide) (by omega) (by omega)
                                      refine lv_iinc hx hb dX12_works_283 hl (k := 4) rfl ev99.symm (by decide) rfl (fun ls hl => ?_)
                                      replace hl : lv_has ls 17 [(14, .int v99), (11, .int v98), (12, .int v75), (13, .int v76), (15, .long v93), (10, .int v55), (9, .int v56), (8, .int v57), (7, .int v58), (6, .int v59), (4, .long v60), (0, .ref h0), (1, .int p1), (2, .int p2), (3, .int p3)] := hl
                                      refine lv_goto (tgt := 214) hx hb dX12_works_286 rfl ?_
                                      exact ih79 locs95 v99 ((z75 + (-1))) v76 (z76) v75 (z75) v98 ((z78 + 1)) ls (by omega) ev99i ev76 ev75 ev98i (by omega) (by omega) (by omega) (by omega) (by omega) (by omega) (by omega) (by omega) (by omega) (hwn) hS95 (lv_sub hl [0, 3, 2, 1, 5, 6, 7, 8, 9, 10, 11, 12, 13, 14] rfl)
                                    · refine lv_iload hx hb dX12_works_267 (lv_at hl 1 rfl) ?_
                                      refine lv_goto (tgt := 274) hx hb dX12_works_269 rfl ?_
                                      refine lv_istore hx hb dX12_works_274 hl (by decide) rfl (fun ls hl => ?_)
                                      replace hl : lv_has ls 17 [(13, .int v75), (15, .long v93), (14, .int v75), (12, .int v77), (11, .int v78), (10, .int v55), (9, .int v56), (8, .int v57), (7, .int v58), (6, .int v59), (4, .long v60), (0, .ref h0), (1, .int p1), (2, .int p2), (3, .int p3)] := hl
                                      refine lv_iload hx hb dX12_works_276 (lv_at hl 2 rfl) ?_
                                      refine lv_istore hx hb dX12_works_278 hl (by decide) rfl (fun ls hl => ?_)
                                      replace hl : lv_has ls 17 [(12, .int v75), (13, .int v75), (15, .long v93), (14, .int v75), (11, .int v78), (10, .int v55), (9, .int v56), (8, .int v57), (7, .int v58), (6, .int v59), (4, .long v60), (0, .ref h0), (1, .int p1), (2, .int p2), (3, .int p3)] := hl
                                      have hwh : wI (wE (nMI na H0 a1) (nMI na H0 a2) ((z55 : Int).toNat)) (nMI na H0 a1 ((z55 : Int).toNat + 1)) (wH (nMI na H0 a1) (nMI na H0 a2) ((z55 : Int).toNat)) (z75 + (-1)) (z78 + 1) z75 z75 := by first | (rw [if_pos (by omega)] at hwh0; exact hwh0) | (rw [if_neg (by omega)] at hwh0; exact hwh0)
                                      obtain ⟨v100, ev100⟩ : ∃ z, z = v78 + Int32.ofInt 1 := ⟨_, rfl⟩
                                      have ev100i : v100.toInt = (z78 + 1) := i_add ev100 ev78 (by decide) (by omega) (by omega)
                                      refine lv_iinc hx hb dX12_works_280 hl (k := 4) rfl ev100.symm (by decide) rfl (fun ls hl => ?_)
                                      replace hl : lv_has ls 17 [(11, .int v100), (12, .int v75), (13, .int v75), (15, .long v93), (14, .int v75), (10, .int v55), (9, .int v56), (8, .int v57), (7, .int v58), (6, .int v59), (4, .long v60), (0, .ref h0), (1, .int p1), (2, .int p2), (3, .int p3)] := hl
                                      have hwn : wI (wE (nMI na H0 a1) (nMI na H0 a2) ((z55 : Int).toNat)) (nMI na H0 a1 ((z55 : Int).toNat + 1)) (wH (nMI na H0 a1) (nMI na H0 a2) ((z55 : Int).toNat)) (z75 + (-1)) (z78 + 1) z75 z75 := by first | exact hwm | exact hwh
                                      obtain ⟨v101, ev101⟩ : ∃ z, z = v75 + Int32.ofInt (-1) := ⟨_, rfl⟩
                                      have ev101i : v101.toInt = (z75 + (-1)) := i_add ev101 ev75 (by decide) (by omega) (by omega)
                                      refine lv_iinc hx hb dX12_works_283 hl (k := 4) rfl ev101.symm (by decide) rfl (fun ls hl => ?_)
                                      replace hl : lv_has ls 17 [(14, .int v101), (11, .int v100), (12, .int v75), (13, .int v75), (15, .long v93), (10, .int v55), (9, .int v56), (8, .int v57), (7, .int v58), (6, .int v59), (4, .long v60), (0, .ref h0), (1, .int p1), (2, .int p2), (3, .int p3)] := hl
                                      refine lv_goto (tgt := 214) hx hb dX12_works_286 rfl ?_
                                      exact ih79 locs95 v101 ((z75 + (-1))) v75 (z75) v75 (z75) v100 ((z78 + 1)) ls (by omega) ev101i ev75 ev75 ev100i (by omega) (by omega) (by omega) (by omega) (by omega) (by omega) (by omega) (by omega) (by omega) (hwn) hS95 (lv_sub hl [0, 3, 2, 1, 5, 6, 7, 8, 9, 10, 11, 12, 13, 14] rfl)
                                  · have hwm : wI (wE (nMI na H0 a1) (nMI na H0 a2) ((z55 : Int).toNat)) (nMI na H0 a1 ((z55 : Int).toNat + 1)) (wH (nMI na H0 a1) (nMI na H0 a2) ((z55 : Int).toNat)) (z75 + (-1)) z78 z77 z76 := wI_miss (m := v93.toInt) hwi wH_rng (by omega) (by omega) (by omega) (by omega) (by rw [wE_d]; omega) (by rw [wE_d]; omega)
                                    refine lv_goto (tgt := 283) hx hb dX12_works_259 rfl ?_
                                    have hwn : wI (wE (nMI na H0 a1) (nMI na H0 a2) ((z55 : Int).toNat)) (nMI na H0 a1 ((z55 : Int).toNat + 1)) (wH (nMI na H0 a1) (nMI na H0 a2) ((z55 : Int).toNat)) (z75 + (-1)) z78 z77 z76 := by first | exact hwm | exact hwh
                                    obtain ⟨v102, ev102⟩ : ∃ z, z = v75 + Int32.ofInt (-1) := ⟨_, rfl⟩
                                    have ev102i : v102.toInt = (z75 + (-1)) := i_add ev102 ev75 (by decide) (by omega) (by omega)
                                    refine lv_iinc hx hb dX12_works_283 hl (k := 1) rfl ev102.symm (by decide) rfl (fun ls hl => ?_)
                                    replace hl : lv_has ls 17 [(14, .int v102), (15, .long v93), (13, .int v76), (12, .int v77), (11, .int v78), (10, .int v55), (9, .int v56), (8, .int v57), (7, .int v58), (6, .int v59), (4, .long v60), (0, .ref h0), (1, .int p1), (2, .int p2), (3, .int p3)] := hl
                                    refine lv_goto (tgt := 214) hx hb dX12_works_286 rfl ?_
                                    exact ih79 locs95 v102 ((z75 + (-1))) v76 (z76) v77 (z77) v78 (z78) ls (by omega) ev102i ev76 ev77 ev78 (by omega) (by omega) (by omega) (by omega) (by omega) (by omega) (by omega) (by omega) (by omega) (hwn) hS95 (lv_sub hl [0, 2, 3, 4, 5, 6, 7, 8, 9, 10, 11, 12, 13, 14] rfl)
                            exact L214 _ locs61 9 9 0 0 0 0 0 0 ls (Nat.lt_succ_self _) (by decide) (by decide) (by decide) (by decide) (by omega) (by omega) (by omega) (by omega) (by omega) (by omega) (by omega) (by omega) (by omega) (wI_start wH_rng.1) hS61 hl
                      exact L193 _ locs53 0 0 (-1) (-1) 0 0 0 0 0 0 1 1 ls (Nat.lt_succ_self _) (by decide) (by decide) (by decide) (by decide) (by decide) (show (1 : Int64).toInt = 1 from by decide) (by omega) (by omega) (by omega) (by omega) (by omega) (wZ_A.symm) (wZ_F.symm) (wZ_G.symm) (wZ_N.symm) (wZ_M.symm) hS53 hl
                    · refine lv_aload_n hx hb dX12_works_120 rfl (lv_at hl 1 rfl) ?_
                      refine lv_iload_n hx hb dX12_works_121 rfl (lv_at hl 2 rfl) ?_
                      refine lv_iload hx hb dX12_works_122 (lv_at hl 0 rfl) ?_
                      refine q_goJp (q_runV (As := [.int p1, .int v52]) (rest := []) E hC53 hS53 (m_X12_numberOf l X Γ H53 hC53 h0 g0 p1 (a1 := a1) e1 v52 (a2 := z52) ev52 ca gca uc tm ts gtm utm gts uts na gna una (by omega) (by omega) (by omega) (by omega)) cw_X12_numberOf cl_RX12_401 g0 ⟨rfl, rfl⟩ rfl hl.1 rfl (Nat.zero_le _) (by decide) dX12_works_124) hS53 (fun v103 locs103 hr103 hS103 => ?_)
                      have f103_0 := hr103
                      have hc1 : v103.toInt = nMI na H0 a1 (((z52 : Int).toNat)) := congrArg Int64.toInt (f103_0.trans (by rw [show (z52 : Int).toNat = ((z52 : Int).toNat) from by omega]; exact nms (a1 : Int).toNat (((z52 : Int).toNat)) (by omega) (by omega)))
                      refine lv_lconst (v := 0) hx hb dX12_works_127 rfl ?_
                      refine lv_ldc2 (v := 99) hx hb E.2.2.2.1 (E.2.2.2.2.1 _ w_1835) dX12_works_128 ?_
                      refine q_goIp (q_runS (As := [.long v103, .long 0, .long 99]) (rest := []) E hS103 (m_X12_isIn l X Γ H53 hC53 v103 (a0 := v103.toInt) rfl 0 (a1 := 0) (show (0 : Int64).toInt = 0 from by decide) 99 (a2 := 99) (show (99 : Int64).toInt = 99 from by decide)) cw_X12_isIn cl_RX12_104 rfl hl.1 rfl (Nat.zero_le _) (by decide) dX12_works_131) hS103 (fun v104 locs104 hr104 hS104 => ?_)
                      rcases hr104 with ⟨rfl, f104a0, f104a1⟩ | ⟨rfl, f104b⟩
                      · refine q_if_eq hx hb (a := 1) (by decide) (tgt := 162) dX12_works_134 rfl (fun c105 => absurd c105 (by omega)) (fun c105 => ?_)
                        refine lv_iload hx hb dX12_works_137 (lv_at hl 0 rfl) ?_
                        refine lv_iconst (v := 1) hx hb dX12_works_139 rfl ?_
                        refine lv_iadd hx hb dX12_works_140 (lv_topi (fun v106 ev106 => ?_))
                        have ev106i : v106.toInt = (z52 + 1) := i_add ev106 ev52 (by decide) (by omega) (by omega)
                        refine lv_iload_n hx hb dX12_works_141 rfl (lv_at hl 4 rfl) ?_
                        refine q_icmp_ge hx hb (a := (z52 + 1)) (b := a3) ev106i e3 (tgt := 169) dX12_works_142 rfl (fun c107 => ?_) (fun c107 => ?_)
                        · have hbn1 : ∀ i : Nat, (i : Int) < (z52 + 1) → 0 ≤ nMI na H0 a1 i ∧ nMI na H0 a1 i ≤ 99 := fun i hi => by by_cases e : i = ((z52 : Int).toNat); (rw [e]; omega); exact hba i (by omega)
                          have hbn2 : ∀ i : Nat, (i : Int) < (z52 + 1) → (i : Int) < a3 - 1 → 0 ≤ nMI na H0 a2 i ∧ nMI na H0 a2 i ≤ 20 := fun i hi hj => by by_cases e : i = ((z52 : Int).toNat); (rw [e]; omega); exact hbb i (by omega) hj
                          obtain ⟨v108, ev108⟩ : ∃ z, z = v52 + Int32.ofInt 1 := ⟨_, rfl⟩
                          have ev108i : v108.toInt = (z52 + 1) := i_add ev108 ev52 (by decide) (by omega) (by omega)
                          refine lv_iinc hx hb dX12_works_169 hl (k := 0) rfl ev108.symm (by decide) rfl (fun ls hl => ?_)
                          replace hl : lv_has ls 17 [(4, .int v108), (0, .ref h0), (1, .int p1), (2, .int p2), (3, .int p3)] := hl
                          refine lv_goto (tgt := 114) hx hb dX12_works_172 rfl ?_
                          exact ih53 H53 locs104 v108 ((z52 + 1)) ls (by omega) ev108i (by omega) (by omega) (hbn1) (hbn2) hC53 hS104 hKp53 tmm nms mmk hl
                        · refine lv_aload_n hx hb dX12_works_145 rfl (lv_at hl 1 rfl) ?_
                          refine lv_iload_n hx hb dX12_works_146 rfl (lv_at hl 3 rfl) ?_
                          refine lv_iload hx hb dX12_works_147 (lv_at hl 0 rfl) ?_
                          refine q_goJp (q_runV (As := [.int p2, .int v52]) (rest := []) E hC53 hS104 (m_X12_numberOf l X Γ H53 hC53 h0 g0 p2 (a1 := a2) e2 v52 (a2 := z52) ev52 ca gca uc tm ts gtm utm gts uts na gna una (by omega) (by omega) (by omega) (by omega)) cw_X12_numberOf cl_RX12_401 g0 ⟨rfl, rfl⟩ rfl hl.1 rfl (Nat.zero_le _) (by decide) dX12_works_149) hS104 (fun v109 locs109 hr109 hS109 => ?_)
                          have f109_0 := hr109
                          have hc2 : v109.toInt = nMI na H0 a2 (((z52 : Int).toNat)) := congrArg Int64.toInt (f109_0.trans (by rw [show (z52 : Int).toNat = ((z52 : Int).toNat) from by omega]; exact nms (a2 : Int).toNat (((z52 : Int).toNat)) (by omega) (by omega)))
                          refine lv_lconst (v := 0) hx hb dX12_works_152 rfl ?_
                          refine lv_ldc2 (v := 20) hx hb E.2.2.2.1 (E.2.2.2.2.1 _ w_1903) dX12_works_153 ?_
                          refine q_goIp (q_runS (As := [.long v109, .long 0, .long 20]) (rest := []) E hS109 (m_X12_isIn l X Γ H53 hC53 v109 (a0 := v109.toInt) rfl 0 (a1 := 0) (show (0 : Int64).toInt = 0 from by decide) 20 (a2 := 20) (show (20 : Int64).toInt = 20 from by decide)) cw_X12_isIn cl_RX12_104 rfl hl.1 rfl (Nat.zero_le _) (by decide) dX12_works_156) hS109 (fun v110 locs110 hr110 hS110 => ?_)
                          rcases hr110 with ⟨rfl, f110a0, f110a1⟩ | ⟨rfl, f110b⟩
                          · refine q_if_ne hx hb (a := 1) (by decide) (tgt := 169) dX12_works_159 rfl (fun c111 => ?_) (fun c111 => absurd c111 (by omega))
                            have hbn1 : ∀ i : Nat, (i : Int) < (z52 + 1) → 0 ≤ nMI na H0 a1 i ∧ nMI na H0 a1 i ≤ 99 := fun i hi => by by_cases e : i = ((z52 : Int).toNat); (rw [e]; omega); exact hba i (by omega)
                            have hbn2 : ∀ i : Nat, (i : Int) < (z52 + 1) → (i : Int) < a3 - 1 → 0 ≤ nMI na H0 a2 i ∧ nMI na H0 a2 i ≤ 20 := fun i hi hj => by by_cases e : i = ((z52 : Int).toNat); (rw [e]; omega); exact hbb i (by omega) hj
                            obtain ⟨v112, ev112⟩ : ∃ z, z = v52 + Int32.ofInt 1 := ⟨_, rfl⟩
                            have ev112i : v112.toInt = (z52 + 1) := i_add ev112 ev52 (by decide) (by omega) (by omega)
                            refine lv_iinc hx hb dX12_works_169 hl (k := 0) rfl ev112.symm (by decide) rfl (fun ls hl => ?_)
                            replace hl : lv_has ls 17 [(4, .int v112), (0, .ref h0), (1, .int p1), (2, .int p2), (3, .int p3)] := hl
                            refine lv_goto (tgt := 114) hx hb dX12_works_172 rfl ?_
                            exact ih53 H53 locs110 v112 ((z52 + 1)) ls (by omega) ev112i (by omega) (by omega) (hbn1) (hbn2) hC53 hS110 hKp53 tmm nms mmk hl
                          · refine q_if_ne hx hb (a := 0) (by decide) (tgt := 169) dX12_works_159 rfl (fun c113 => absurd c113 (by omega)) (fun c113 => ?_)
                            refine lv_aload_n hx hb dX12_works_162 rfl (lv_at hl 1 rfl) ?_
                            refine lv_iconst (v := 5) hx hb dX12_works_163 rfl ?_
                            refine q_goI (q_runV (As := [.int 5]) (rest := []) E hC53 hS110 (m_X12_refuse l X Γ H53 hC53 h0 g0 5 (a1 := 5) (by decide) ca gca uc) cw_X12_refuse cl_RX12_298 g0 ⟨rfl, rfl⟩ rfl hl.1 rfl (Nat.zero_le _) (by decide) dX12_works_164) hS110 (fun v114 H114 locs114 hr114 hC114 hS114 => ?_)
                            obtain ⟨hp114, hr114⟩ := hr114
                            have hKp114 := hKp53.tr (hp114.mono rfl)
                            replace tmm : TMm tm ts H0 H114 := TMm.kp tmm hp114 gtm gts rfl
                            replace nms : NSm (nM na H0) (nM na H114) := nM_kp nms hp114 gna rfl
                            replace mmk : MmK X H0 H114 h0 wk := MmK.kp mmk hp114 g0 gwk rfl
                            have f114_0 := hr114
                            refine lv_i2l (v := v114.toInt64) hx hb dX12_works_167 rfl (lv_topl (fun v115 ev115 => ?_))
                            have ev115i : v115.toInt = v114.toInt := l_ofi ev115.symm rfl
                            have hpost : (WKY a1 a2 (sI H0 tm (a1 : Int).toNat).toInt (sI H0 tm (a2 : Int).toNat).toInt a3 (HTn (nMI na H0 a1) (nMI na H0 a2) a3) ∧ (v115 : Int64).toInt = wA (nMI na H0 a1) (nMI na H0 a2) ((a3 - 1 : Int).toNat) ∧ MmS X H114 h0 wk (wA (nMI na H0 a1) (nMI na H0 a2) ((a3 - 1 : Int).toNat)) (wF (nMI na H0 a1) (nMI na H0 a2) ((a3 - 1 : Int).toNat)) (wG (nMI na H0 a1) (nMI na H0 a2) ((a3 - 1 : Int).toNat)) (wN (nMI na H0 a1) (nMI na H0 a2) ((a3 - 1 : Int).toNat))) ∨ (¬ WKY a1 a2 (sI H0 tm (a1 : Int).toNat).toInt (sI H0 tm (a2 : Int).toNat).toInt a3 (HTn (nMI na H0 a1) (nMI na H0 a2) a3) ∧ (v115 : Int64).toInt = -1 ∧ MmK X H0 H114 h0 wk) := Or.inr ⟨fun h => by have q9 := h.2.2.2.2.2.2.2.2; have q1 := q9.1 ((z52 : Int).toNat); have q2 := q9.2 ((z52 : Int).toNat); omega, by omega, mmk⟩
                            exact ret v115 H114 locs114 _ _ dX12_works_168 ⟨hKp114, hpost⟩ hC114 hS114
                      · refine q_if_eq hx hb (a := 0) (by decide) (tgt := 162) dX12_works_134 rfl (fun c116 => ?_) (fun c116 => absurd c116 (by omega))
                        refine lv_aload_n hx hb dX12_works_162 rfl (lv_at hl 1 rfl) ?_
                        refine lv_iconst (v := 5) hx hb dX12_works_163 rfl ?_
                        refine q_goI (q_runV (As := [.int 5]) (rest := []) E hC53 hS104 (m_X12_refuse l X Γ H53 hC53 h0 g0 5 (a1 := 5) (by decide) ca gca uc) cw_X12_refuse cl_RX12_298 g0 ⟨rfl, rfl⟩ rfl hl.1 rfl (Nat.zero_le _) (by decide) dX12_works_164) hS104 (fun v117 H117 locs117 hr117 hC117 hS117 => ?_)
                        obtain ⟨hp117, hr117⟩ := hr117
                        have hKp117 := hKp53.tr (hp117.mono rfl)
                        replace tmm : TMm tm ts H0 H117 := TMm.kp tmm hp117 gtm gts rfl
                        replace nms : NSm (nM na H0) (nM na H117) := nM_kp nms hp117 gna rfl
                        replace mmk : MmK X H0 H117 h0 wk := MmK.kp mmk hp117 g0 gwk rfl
                        have f117_0 := hr117
                        refine lv_i2l (v := v117.toInt64) hx hb dX12_works_167 rfl (lv_topl (fun v118 ev118 => ?_))
                        have ev118i : v118.toInt = v117.toInt := l_ofi ev118.symm rfl
                        have hpost : (WKY a1 a2 (sI H0 tm (a1 : Int).toNat).toInt (sI H0 tm (a2 : Int).toNat).toInt a3 (HTn (nMI na H0 a1) (nMI na H0 a2) a3) ∧ (v118 : Int64).toInt = wA (nMI na H0 a1) (nMI na H0 a2) ((a3 - 1 : Int).toNat) ∧ MmS X H117 h0 wk (wA (nMI na H0 a1) (nMI na H0 a2) ((a3 - 1 : Int).toNat)) (wF (nMI na H0 a1) (nMI na H0 a2) ((a3 - 1 : Int).toNat)) (wG (nMI na H0 a1) (nMI na H0 a2) ((a3 - 1 : Int).toNat)) (wN (nMI na H0 a1) (nMI na H0 a2) ((a3 - 1 : Int).toNat))) ∨ (¬ WKY a1 a2 (sI H0 tm (a1 : Int).toNat).toInt (sI H0 tm (a2 : Int).toNat).toInt a3 (HTn (nMI na H0 a1) (nMI na H0 a2) a3) ∧ (v118 : Int64).toInt = -1 ∧ MmK X H0 H117 h0 wk) := Or.inr ⟨fun h => by have q9 := h.2.2.2.2.2.2.2.2; have q1 := q9.1 ((z52 : Int).toNat); have q2 := q9.2 ((z52 : Int).toNat); omega, by omega, mmk⟩
                        exact ret v118 H117 locs117 _ _ dX12_works_168 ⟨hKp117, hpost⟩ hC117 hS117
                exact L114 _ H23 locs50 0 0 ls (Nat.lt_succ_self _) (by decide) (by omega) (by omega) (fun i hi => by omega) (fun i hi => by omega) hC23 hS50 hKp23 tmm nms mmk hl
              · refine q_if_ne hx hb (a := 0) (by decide) (tgt := 111) dX12_works_101 rfl (fun c119 => absurd c119 (by omega)) (fun c119 => ?_)
                refine lv_aload_n hx hb dX12_works_104 rfl (lv_at hl 0 rfl) ?_
                refine lv_iconst (v := 5) hx hb dX12_works_105 rfl ?_
                refine q_goI (q_runV (As := [.int 5]) (rest := []) E hC23 hS50 (m_X12_refuse l X Γ H23 hC23 h0 g0 5 (a1 := 5) (by decide) ca gca uc) cw_X12_refuse cl_RX12_298 g0 ⟨rfl, rfl⟩ rfl hl.1 rfl (Nat.zero_le _) (by decide) dX12_works_106) hS50 (fun v120 H120 locs120 hr120 hC120 hS120 => ?_)
                obtain ⟨hp120, hr120⟩ := hr120
                have hKp120 := hKp23.tr (hp120.mono rfl)
                replace tmm : TMm tm ts H0 H120 := TMm.kp tmm hp120 gtm gts rfl
                replace nms : NSm (nM na H0) (nM na H120) := nM_kp nms hp120 gna rfl
                replace mmk : MmK X H0 H120 h0 wk := MmK.kp mmk hp120 g0 gwk rfl
                have f120_0 := hr120
                refine lv_i2l (v := v120.toInt64) hx hb dX12_works_109 rfl (lv_topl (fun v121 ev121 => ?_))
                have ev121i : v121.toInt = v120.toInt := l_ofi ev121.symm rfl
                have hpost : (WKY a1 a2 (sI H0 tm (a1 : Int).toNat).toInt (sI H0 tm (a2 : Int).toNat).toInt a3 (HTn (nMI na H0 a1) (nMI na H0 a2) a3) ∧ (v121 : Int64).toInt = wA (nMI na H0 a1) (nMI na H0 a2) ((a3 - 1 : Int).toNat) ∧ MmS X H120 h0 wk (wA (nMI na H0 a1) (nMI na H0 a2) ((a3 - 1 : Int).toNat)) (wF (nMI na H0 a1) (nMI na H0 a2) ((a3 - 1 : Int).toNat)) (wG (nMI na H0 a1) (nMI na H0 a2) ((a3 - 1 : Int).toNat)) (wN (nMI na H0 a1) (nMI na H0 a2) ((a3 - 1 : Int).toNat))) ∨ (¬ WKY a1 a2 (sI H0 tm (a1 : Int).toNat).toInt (sI H0 tm (a2 : Int).toNat).toInt a3 (HTn (nMI na H0 a1) (nMI na H0 a2) a3) ∧ (v121 : Int64).toInt = -1 ∧ MmK X H0 H120 h0 wk) := Or.inr ⟨fun h => by obtain ⟨q1, q2, q3, q4, q5, q6, q7, q8, -⟩ := h; omega, by omega, mmk⟩
                exact ret v121 H120 locs120 _ _ dX12_works_110 ⟨hKp120, hpost⟩ hC120 hS120
            · refine lv_aload_n hx hb dX12_works_83 rfl (lv_at hl 0 rfl) ?_
              refine lv_iconst (v := 4) hx hb dX12_works_84 rfl ?_
              refine q_goI (q_runV (As := [.int 4]) (rest := []) E hC23 hS27 (m_X12_refuse l X Γ H23 hC23 h0 g0 4 (a1 := 4) (by decide) ca gca uc) cw_X12_refuse cl_RX12_298 g0 ⟨rfl, rfl⟩ rfl hl.1 rfl (Nat.zero_le _) (by decide) dX12_works_85) hS27 (fun v122 H122 locs122 hr122 hC122 hS122 => ?_)
              obtain ⟨hp122, hr122⟩ := hr122
              have hKp122 := hKp23.tr (hp122.mono rfl)
              replace tmm : TMm tm ts H0 H122 := TMm.kp tmm hp122 gtm gts rfl
              replace nms : NSm (nM na H0) (nM na H122) := nM_kp nms hp122 gna rfl
              replace mmk : MmK X H0 H122 h0 wk := MmK.kp mmk hp122 g0 gwk rfl
              have f122_0 := hr122
              refine lv_i2l (v := v122.toInt64) hx hb dX12_works_88 rfl (lv_topl (fun v123 ev123 => ?_))
              have ev123i : v123.toInt = v122.toInt := l_ofi ev123.symm rfl
              have hpost : (WKY a1 a2 (sI H0 tm (a1 : Int).toNat).toInt (sI H0 tm (a2 : Int).toNat).toInt a3 (HTn (nMI na H0 a1) (nMI na H0 a2) a3) ∧ (v123 : Int64).toInt = wA (nMI na H0 a1) (nMI na H0 a2) ((a3 - 1 : Int).toNat) ∧ MmS X H122 h0 wk (wA (nMI na H0 a1) (nMI na H0 a2) ((a3 - 1 : Int).toNat)) (wF (nMI na H0 a1) (nMI na H0 a2) ((a3 - 1 : Int).toNat)) (wG (nMI na H0 a1) (nMI na H0 a2) ((a3 - 1 : Int).toNat)) (wN (nMI na H0 a1) (nMI na H0 a2) ((a3 - 1 : Int).toNat))) ∨ (¬ WKY a1 a2 (sI H0 tm (a1 : Int).toNat).toInt (sI H0 tm (a2 : Int).toNat).toInt a3 (HTn (nMI na H0 a1) (nMI na H0 a2) a3) ∧ (v123 : Int64).toInt = -1 ∧ MmK X H0 H122 h0 wk) := Or.inr ⟨fun h => by obtain ⟨q1, q2, q3, q4, q5, q6, q7, q8, -⟩ := h; omega, by omega, mmk⟩
              exact ret v123 H122 locs122 _ _ dX12_works_89 ⟨hKp122, hpost⟩ hC122 hS122
        · refine lv_aload_n hx hb dX12_works_51 rfl (lv_at hl 0 rfl) ?_
          refine lv_iconst (v := 3) hx hb dX12_works_52 rfl ?_
          refine q_goI (q_runV (As := [.int 3]) (rest := []) E hC23 hS27 (m_X12_refuse l X Γ H23 hC23 h0 g0 3 (a1 := 3) (by decide) ca gca uc) cw_X12_refuse cl_RX12_298 g0 ⟨rfl, rfl⟩ rfl hl.1 rfl (Nat.zero_le _) (by decide) dX12_works_53) hS27 (fun v124 H124 locs124 hr124 hC124 hS124 => ?_)
          obtain ⟨hp124, hr124⟩ := hr124
          have hKp124 := hKp23.tr (hp124.mono rfl)
          replace tmm : TMm tm ts H0 H124 := TMm.kp tmm hp124 gtm gts rfl
          replace nms : NSm (nM na H0) (nM na H124) := nM_kp nms hp124 gna rfl
          replace mmk : MmK X H0 H124 h0 wk := MmK.kp mmk hp124 g0 gwk rfl
          have f124_0 := hr124
          refine lv_i2l (v := v124.toInt64) hx hb dX12_works_56 rfl (lv_topl (fun v125 ev125 => ?_))
          have ev125i : v125.toInt = v124.toInt := l_ofi ev125.symm rfl
          have hpost : (WKY a1 a2 (sI H0 tm (a1 : Int).toNat).toInt (sI H0 tm (a2 : Int).toNat).toInt a3 (HTn (nMI na H0 a1) (nMI na H0 a2) a3) ∧ (v125 : Int64).toInt = wA (nMI na H0 a1) (nMI na H0 a2) ((a3 - 1 : Int).toNat) ∧ MmS X H124 h0 wk (wA (nMI na H0 a1) (nMI na H0 a2) ((a3 - 1 : Int).toNat)) (wF (nMI na H0 a1) (nMI na H0 a2) ((a3 - 1 : Int).toNat)) (wG (nMI na H0 a1) (nMI na H0 a2) ((a3 - 1 : Int).toNat)) (wN (nMI na H0 a1) (nMI na H0 a2) ((a3 - 1 : Int).toNat))) ∨ (¬ WKY a1 a2 (sI H0 tm (a1 : Int).toNat).toInt (sI H0 tm (a2 : Int).toNat).toInt a3 (HTn (nMI na H0 a1) (nMI na H0 a2) a3) ∧ (v125 : Int64).toInt = -1 ∧ MmK X H0 H124 h0 wk) := Or.inr ⟨fun h => by obtain ⟨q1, q2, q3, q4, q5, q6, q7, q8, -⟩ := h; omega, by omega, mmk⟩
          exact ret v125 H124 locs124 _ _ dX12_works_57 ⟨hKp124, hpost⟩ hC124 hS124
    · refine q_if_ne hx hb (a := 0) (by decide) (tgt := 33) dX12_works_23 rfl (fun c126 => absurd c126 (by omega)) (fun c126 => ?_)
      refine lv_aload_n hx hb dX12_works_26 rfl (lv_at hl 0 rfl) ?_
      refine lv_iconst (v := 1) hx hb dX12_works_27 rfl ?_
      refine q_goI (q_runV (As := [.int 1]) (rest := []) E hC23 hS27 (m_X12_refuse l X Γ H23 hC23 h0 g0 1 (a1 := 1) (by decide) ca gca uc) cw_X12_refuse cl_RX12_298 g0 ⟨rfl, rfl⟩ rfl hl.1 rfl (Nat.zero_le _) (by decide) dX12_works_28) hS27 (fun v127 H127 locs127 hr127 hC127 hS127 => ?_)
      obtain ⟨hp127, hr127⟩ := hr127
      have hKp127 := hKp23.tr (hp127.mono rfl)
      replace tmm : TMm tm ts H0 H127 := TMm.kp tmm hp127 gtm gts rfl
      replace nms : NSm (nM na H0) (nM na H127) := nM_kp nms hp127 gna rfl
      replace mmk : MmK X H0 H127 h0 wk := MmK.kp mmk hp127 g0 gwk rfl
      have f127_0 := hr127
      refine lv_i2l (v := v127.toInt64) hx hb dX12_works_31 rfl (lv_topl (fun v128 ev128 => ?_))
      have ev128i : v128.toInt = v127.toInt := l_ofi ev128.symm rfl
      have hpost : (WKY a1 a2 (sI H0 tm (a1 : Int).toNat).toInt (sI H0 tm (a2 : Int).toNat).toInt a3 (HTn (nMI na H0 a1) (nMI na H0 a2) a3) ∧ (v128 : Int64).toInt = wA (nMI na H0 a1) (nMI na H0 a2) ((a3 - 1 : Int).toNat) ∧ MmS X H127 h0 wk (wA (nMI na H0 a1) (nMI na H0 a2) ((a3 - 1 : Int).toNat)) (wF (nMI na H0 a1) (nMI na H0 a2) ((a3 - 1 : Int).toNat)) (wG (nMI na H0 a1) (nMI na H0 a2) ((a3 - 1 : Int).toNat)) (wN (nMI na H0 a1) (nMI na H0 a2) ((a3 - 1 : Int).toNat))) ∨ (¬ WKY a1 a2 (sI H0 tm (a1 : Int).toNat).toInt (sI H0 tm (a2 : Int).toNat).toInt a3 (HTn (nMI na H0 a1) (nMI na H0 a2) a3) ∧ (v128 : Int64).toInt = -1 ∧ MmK X H0 H127 h0 wk) := Or.inr ⟨fun h => by obtain ⟨q1, q2, q3, q4, q5, q6, q7, q8, -⟩ := h; omega, by omega, mmk⟩
      exact ret v128 H127 locs127 _ _ dX12_works_32 ⟨hKp127, hpost⟩ hC127 hS127
  · refine q_if_eq hx hb (a := 0) (by decide) (tgt := 26) dX12_works_15 rfl (fun c129 => ?_) (fun c129 => absurd c129 (by omega))
    refine lv_aload_n hx hb dX12_works_26 rfl (lv_at hl 0 rfl) ?_
    refine lv_iconst (v := 1) hx hb dX12_works_27 rfl ?_
    refine q_goI (q_runV (As := [.int 1]) (rest := []) E hC23 hS25 (m_X12_refuse l X Γ H23 hC23 h0 g0 1 (a1 := 1) (by decide) ca gca uc) cw_X12_refuse cl_RX12_298 g0 ⟨rfl, rfl⟩ rfl hl.1 rfl (Nat.zero_le _) (by decide) dX12_works_28) hS25 (fun v130 H130 locs130 hr130 hC130 hS130 => ?_)
    obtain ⟨hp130, hr130⟩ := hr130
    have hKp130 := hKp23.tr (hp130.mono rfl)
    replace tmm : TMm tm ts H0 H130 := TMm.kp tmm hp130 gtm gts rfl
    replace nms : NSm (nM na H0) (nM na H130) := nM_kp nms hp130 gna rfl
    replace mmk : MmK X H0 H130 h0 wk := MmK.kp mmk hp130 g0 gwk rfl
    have f130_0 := hr130
    refine lv_i2l (v := v130.toInt64) hx hb dX12_works_31 rfl (lv_topl (fun v131 ev131 => ?_))
    have ev131i : v131.toInt = v130.toInt := l_ofi ev131.symm rfl
    have hpost : (WKY a1 a2 (sI H0 tm (a1 : Int).toNat).toInt (sI H0 tm (a2 : Int).toNat).toInt a3 (HTn (nMI na H0 a1) (nMI na H0 a2) a3) ∧ (v131 : Int64).toInt = wA (nMI na H0 a1) (nMI na H0 a2) ((a3 - 1 : Int).toNat) ∧ MmS X H130 h0 wk (wA (nMI na H0 a1) (nMI na H0 a2) ((a3 - 1 : Int).toNat)) (wF (nMI na H0 a1) (nMI na H0 a2) ((a3 - 1 : Int).toNat)) (wG (nMI na H0 a1) (nMI na H0 a2) ((a3 - 1 : Int).toNat)) (wN (nMI na H0 a1) (nMI na H0 a2) ((a3 - 1 : Int).toNat))) ∨ (¬ WKY a1 a2 (sI H0 tm (a1 : Int).toNat).toInt (sI H0 tm (a2 : Int).toNat).toInt a3 (HTn (nMI na H0 a1) (nMI na H0 a2) a3) ∧ (v131 : Int64).toInt = -1 ∧ MmK X H0 H130 h0 wk) := Or.inr ⟨fun h => by obtain ⟨q1, q2, q3, q4, q5, q6, q7, q8, -⟩ := h; omega, by omega, mmk⟩
    exact ret v131 H130 locs130 _ _ dX12_works_32 ⟨hKp130, hpost⟩ hC130 hS130
