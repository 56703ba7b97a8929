set_option maxRecDepth 100000 in
set_option maxHeartbeats 4000000 in
theorem m_X12_readArticle (l : Launch) (X : xW) (Γ : Nat → Option Nat) (H0 : Heap) (hC0 : Conf X Γ H0) (h0 : Nat) (g0 : Γ h0 = some 11) (ca : Nat) (gca : Γ ca = some 64) (uc : ∀ a, Γ a = some 64 → a = ca) (tq : Nat) (htq : sR H0 h0 (X.1.2 11 7) = some tq) (gtq : Γ tq = some 63) (kd vl w3 : Nat → Int) (pos : Nat → Nat) (N i : Nat) (S : YSt) (mc : MC X H0 h0 tq kd vl w3 pos N i) (ym : YSM X Γ H0 h0 ca kd vl w3 N S) (r0 : (sI H0 h0 (X.1.2 11 12)).toInt = 0) (r1 : kd i = 2) : Ctr l X Γ yX12_readArticle cX12_readArticle 2 none 3 [.ref h0] H0 (QV X Γ (fun H1 => Kp X Γ [1, 6, 7, 8, 9, 10, 11, 12, 14, 16, 17, 19, 22, 24, 26, 28, 30, 35, 38] H0 H1 ∧ (((sI H0 h0 (X.1.2 11 16)).toInt ≤ (sI H1 h0 (X.1.2 11 16)).toInt) ∧ ((sI H0 h0 (X.1.2 11 16)).toInt < (sI H1 h0 (X.1.2 11 16)).toInt + tk (sI H1 h0 (X.1.2 11 14)).toInt + 2000 * (sI H1 h0 (X.1.2 11 12)).toInt) ∧ ((sI H0 h0 (X.1.2 11 12)).toInt ≤ 7 * (sI H1 h0 (X.1.2 11 12)).toInt) ∧ (0 ≤ (sI H1 h0 (X.1.2 11 12)).toInt) ∧ (((sI H1 h0 (X.1.2 11 12)).toInt = 0 ∧ ∃ (S1 : YSt) (i1 : Nat), gArt kd vl S (i + 1) S1 i1 ∧ MC X H1 h0 tq kd vl w3 pos N i1 ∧ YSM X Γ H1 h0 ca kd vl w3 N S1) ∨ ((sI H1 h0 (X.1.2 11 12)).toInt ≠ 0 ∧ ∀ (S1 : YSt) (i1 : Nat), ¬ gArt kd vl S (i + 1) S1 i1))))) := by
  refine q_enterV (own := "SnowFortsModel") (by decide) rfl (Nat.le_of_ble_eq_true rfl) ?_
  intro p e s m args below meth c ls Qz E hl ret hS0
  have hx := E.1; have hb := E.2.1
  have hKp0 : Kp X Γ [1, 6, 7, 8, 9, 10, 11, 12, 14, 16, 17, 19, 22, 24, 26, 28, 30, 35, 38] H0 H0 := Kp.rf
  have hl : lv_has ls 2 [(0, .ref h0)] := hl
  have hz1 := f_bd hC0 g0 (ci := 11) (k := 16) rfl rfl
  have hz2 := f_bd hC0 g0 (ci := 11) (k := 12) rfl rfl
  refine lv_aload_n hx hb dX12_readArticle_0 rfl (lv_at hl 0 rfl) ?_
  refine q_goV (q_runV (As := []) (rest := []) E hC0 hS0 (m_X12_next l X Γ H0 hC0 h0 g0 ca gca uc tq htq gtq) cw_X12_next cl_RX12_228 g0 ⟨rfl, rfl⟩ rfl hl.1 rfl (Nat.zero_le _) (by decide) dX12_readArticle_1) hS0 (fun H21 locs21 hr21 hC21 hS21 => ?_)
  obtain ⟨hp21, hr21⟩ := hr21
  have hKp21 := hKp0.tr (hp21.mono rfl)
  have ym := ym.kp hp21 g0 gca rfl rfl
  obtain ⟨f21_0, f21_1, f21_2, f21_3, f21_4, f21_5⟩ := hr21
  have mc := f21_5 kd vl w3 pos N i mc (by omega)
  refine lv_aload_n hx hb dX12_readArticle_4 rfl (lv_at hl 0 rfl) ?_
  refine q_goIp (q_runV (As := []) (rest := []) E hC21 hS21 (m_X12_isWall l X Γ H21 hC21 h0 g0 ca gca uc) cw_X12_isWall cl_RX12_163 g0 ⟨rfl, rfl⟩ rfl hl.1 rfl (Nat.zero_le _) (by decide) dX12_readArticle_5) hS21 (fun v22 locs22 hr22 hS22 => ?_)
  rcases hr22 with ⟨rfl, hw⟩ | ⟨rfl, hw⟩
  · have hw6 := hw
    refine q_if_eq hx hb (a := 1) (by decide) (tgt := 15) dX12_readArticle_8 rfl (fun c23 => absurd c23 (by omega)) (fun c23 => ?_)
    refine lv_iconst (v := 0) hx hb dX12_readArticle_11 rfl ?_
    refine lv_goto (tgt := 49) hx hb dX12_readArticle_12 rfl ?_
    refine lv_istore_n hx hb dX12_readArticle_49 rfl hl (by decide) rfl (fun ls hl => ?_)
    have hl : lv_has ls 2 [(1, .int 0), (0, .ref h0)] := hl
    refine lv_iload_n hx hb dX12_readArticle_50 rfl (lv_at hl 0 rfl) ?_
    refine q_if_ge hx hb (a := 0) (by decide) (tgt := 58) dX12_readArticle_51 rfl (fun c24 => ?_) (fun c24 => absurd c24 (by omega))
    refine lv_aload_n hx hb dX12_readArticle_58 rfl (lv_at hl 1 rfl) ?_
    refine q_getI E hC21 g0 fa_RX12_218 dX12_readArticle_59 (fun v25 ev25 lv25 uv25 => ?_)
    have m26 : (sI H21 h0 (X.1.2 11 12)).toInt = v25.toInt := (congrArg Int32.toInt ev25).trans rfl
    refine q_if_ne hx hb (a := v25.toInt) rfl (tgt := 88) dX12_readArticle_62 rfl (fun c27 => ?_) (fun c27 => ?_)
    · have mc1 := mc
      have ha : S.2.2.2.2.2 (0) = -1 := by first | (exfalso; omega) | (by_cases e : S.2.2.2.2.2 (0) = -1; exact e; exfalso; rw [if_neg e] at hta; omega)
      have hk2 : kd (i + 1) ≠ 0 := by first | (have := ((mc1.word (j := 6) (by decide)).mp hw6).1; omega) | (have := ((mc1.word (j := 12) (by decide)).mp hw12).1; omega) | (have := ((mc1.word (j := 14) (by decide)).mp hw14).1; omega) | (have := ((mc1.word (j := 15) (by decide)).mp hw15).1; omega)
      have hd := HD.of (by omega) mc ym
      refine lv_aload_n hx hb dX12_readArticle_88 rfl (lv_at hl 1 rfl) ?_
      refine lv_iconst (v := 1) hx hb dX12_readArticle_89 rfl ?_
      refine q_goV (q_runV (As := [.int 1]) (rest := []) E hC21 hS22 (m_X12_must l X Γ H21 hC21 h0 g0 1 (a1 := 1) (by decide) ca gca uc tq ((kp_R hKp21 g0 (ci := 11) (k := 7) rfl (by decide) rfl).trans htq) gtq (by omega) (by omega)) cw_X12_must cl_RX12_244 g0 ⟨rfl, rfl⟩ rfl hl.1 rfl (Nat.zero_le _) (by decide) dX12_readArticle_90) hS22 (fun H28 locs28 hr28 hC28 hS28 => ?_)
      obtain ⟨hp28, hr28⟩ := hr28
      have hKp28 := hKp21.tr (hp28.mono rfl)
      obtain ⟨f28_0, f28_1, f28_2, f28_3, f28_4, f28_5⟩ := hr28
      have hd := HD.go hd hp28 g0 gca (by first | exact fun q => q.elim | exact fun _ => hk2) f28_5 f28_2 (by omega) rfl rfl
      refine lv_aload_n hx hb dX12_readArticle_93 rfl (lv_at hl 1 rfl) ?_
      refine q_getI E hC28 g0 fa_RX12_218 dX12_readArticle_94 (fun v29 ev29 lv29 uv29 => ?_)
      have m30 : (sI H28 h0 (X.1.2 11 12)).toInt = v29.toInt := (congrArg Int32.toInt ev29).trans rfl
      refine q_if_ne hx hb (a := v29.toInt) rfl (tgt := 161) dX12_readArticle_97 rfl (fun c31 => ?_) (fun c31 => ?_)
      · refine lv_aload_n hx hb dX12_readArticle_161 rfl (lv_at hl 1 rfl) ?_
        refine q_getI E hC28 g0 fa_RX12_218 dX12_readArticle_162 (fun v32 ev32 lv32 uv32 => ?_)
        have qv32 := ev29.symm.trans ev32; subst qv32
        refine q_if_ne hx hb (a := v29.toInt) rfl (tgt := 179) dX12_readArticle_165 rfl (fun c33 => ?_) (fun c33 => absurd c33 (by omega))
        have hz8 := tk_nn (sI H28 h0 (X.1.2 11 14)).toInt
        have hpost : ((sI H28 h0 (X.1.2 11 12)).toInt = 0 ∧ ∃ (S1 : YSt) (i1 : Nat), gArt kd vl S (i + 1) S1 i1 ∧ MC X H28 h0 tq kd vl w3 pos N i1 ∧ YSM X Γ H28 h0 ca kd vl w3 N S1) ∨ ((sI H28 h0 (X.1.2 11 12)).toInt ≠ 0 ∧ ∀ (S1 : YSt) (i1 : Nat), ¬ gArt kd vl S (i + 1) S1 i1) := by first | (exfalso; omega) | exact Or.inr ⟨by omega, hno⟩ | exact Or.inl ⟨by omega, _, _, Or.inl ⟨(mc1.word (j := 6) (by decide)).mp hw6, ha, hQ.1.2, hQ.2, rfl, by rw [hzz.2 (by decide)]⟩, mc, ym⟩ | exact Or.inl ⟨by omega, _, _, Or.inr (Or.inl ⟨(mc1.word (j := 12) (by decide)).mp hw12, ha, hQ.1.2, hQ.2, rfl, by rw [hzz.2 (by decide)]⟩), mc, ym⟩ | exact Or.inl ⟨by omega, _, _, Or.inr (Or.inr (Or.inl ⟨(mc1.word (j := 15) (by decide)).mp hw15, ha, hQ.1.2, hQ.2, rfl, by rw [hzz.2 (by decide)]⟩)), mc, ym⟩ | exact Or.inl ⟨by omega, _, _, Or.inr (Or.inr (Or.inr ⟨(mc1.word (j := 14) (by decide)).mp hw14, ha, rfl, by rw [hzz.1 rfl]⟩)), mc, ym⟩ | exact Or.inr ⟨by omega, fun S1 i1 q => by rcases q with ⟨q1, -, q3⟩ | ⟨q1, -, q3⟩ | ⟨q1, -, q3⟩ | ⟨q1, -, -⟩ <;> first | exact HD.no hd (by omega) ⟨⟨trivial, q3.1⟩, q3.2.1⟩ | exact HD.no hd (by omega) trivial | exact absurd (okW_j ((mc1.word (j := 6) (by decide)).mp hw6) q1 (by decide) (by decide)) (by decide) | exact absurd (okW_j ((mc1.word (j := 12) (by decide)).mp hw12) q1 (by decide) (by decide)) (by decide) | exact absurd (okW_j ((mc1.word (j := 15) (by decide)).mp hw15) q1 (by decide) (by decide)) (by decide) | exact absurd (okW_j ((mc1.word (j := 14) (by decide)).mp hw14) q1 (by decide) (by decide)) (by decide)⟩
        exact ret H28 locs28 _ _ dX12_readArticle_179 ⟨hKp28, ⟨by omega, by omega, by omega, by omega, hpost⟩⟩ hC28 hS28
      · refine lv_iload_n hx hb dX12_readArticle_100 rfl (lv_at hl 0 rfl) ?_
        refine lv_iconst (v := 2) hx hb dX12_readArticle_101 rfl ?_
        refine q_icmp_eq hx hb (a := 0) (b := 2) (by decide) (by decide) (tgt := 161) dX12_readArticle_102 rfl (fun c34 => absurd c34 (by omega)) (fun c34 => ?_)
        refine lv_aload_n hx hb dX12_readArticle_105 rfl (lv_at hl 1 rfl) ?_
        refine lv_iload_n hx hb dX12_readArticle_106 rfl (lv_at hl 0 rfl) ?_
        refine lv_iconst (v := 1) hx hb dX12_readArticle_107 rfl ?_
        refine q_icmp_ne hx hb (a := 0) (b := 1) (by decide) (by decide) (tgt := 118) dX12_readArticle_108 rfl (fun c35 => ?_) (fun c35 => absurd c35 (by omega))
        refine lv_aload_n hx hb dX12_readArticle_118 rfl (lv_at hl 1 rfl) ?_
        refine q_goIp (q_runV (As := []) (rest := [.ref h0]) E hC28 hS28 (m_X12_isAbove l X Γ H28 hC28 h0 g0 ca gca uc) cw_X12_isAbove cl_RX12_196 g0 ⟨rfl, rfl⟩ rfl hl.1 rfl (show _ ≤ _ from by simp [Value.category]) (by decide) dX12_readArticle_119) hS28 (fun v36 locs36 hr36 hS36 => ?_)
        have b36 : (v36.toInt = 1 ∧ _) ∨ (v36.toInt = 0 ∧ _) := hr36.imp (fun h => ⟨by rw [h.1]; decide, h.2⟩) (fun h => ⟨by rw [h.1]; decide, h.2⟩)
        have hbz := b36
        refine q_goV (q_runV (As := [.int v36]) (rest := []) E hC28 hS36 (m_X12_must l X Γ H28 hC28 h0 g0 v36 (a1 := v36.toInt) rfl ca gca uc tq ((kp_R hKp28 g0 (ci := 11) (k := 7) rfl (by decide) rfl).trans htq) gtq (by omega) (by omega)) cw_X12_must cl_RX12_244 g0 ⟨rfl, rfl⟩ rfl hl.1 rfl (Nat.zero_le _) (by decide) dX12_readArticle_122) hS36 (fun H37 locs37 hr37 hC37 hS37 => ?_)
        obtain ⟨hp37, hr37⟩ := hr37
        have hKp37 := hKp28.tr (hp37.mono rfl)
        obtain ⟨f37_0, f37_1, f37_2, f37_3, f37_4, f37_5⟩ := hr37
        have hd := HD.must hd hp37 g0 gca (by first | exact hbz | exact Or.inl ⟨rfl, hw⟩ | exact Or.inr ⟨rfl, hw⟩) f37_5 f37_2 (by omega) rfl rfl (by decide)
        refine lv_aload_n hx hb dX12_readArticle_125 rfl (lv_at hl 1 rfl) ?_
        refine q_getC E hC37 g0 fa_RX12_35 uc dX12_readArticle_126 ?_
        refine lv_sipush (v := 2102) hx hb dX12_readArticle_129 rfl ?_
        refine lv_iload_n hx hb dX12_readArticle_132 rfl (lv_at hl 0 rfl) ?_
        refine lv_iadd hx hb dX12_readArticle_133 (lv_topi (fun v38 ev38 => ?_))
        have ev38i : v38.toInt = (2102 + 0) := i_add ev38 (by decide) (by decide) (by omega) (by omega)
        refine lv_aload_n hx hb dX12_readArticle_134 rfl (lv_at hl 1 rfl) ?_
        refine lv_iconst (v := 0) hx hb dX12_readArticle_135 rfl ?_
        refine lv_iload_n hx hb dX12_readArticle_136 rfl (lv_at hl 0 rfl) ?_
        refine q_if_ne hx hb (a := 0) (by decide) (tgt := 145) dX12_readArticle_137 rfl (fun c39 => absurd c39 (by omega)) (fun c39 => ?_)
        refine lv_bipush (v := 20) hx hb dX12_readArticle_140 rfl ?_
        refine lv_goto (tgt := 157) hx hb dX12_readArticle_142 rfl ?_
        refine q_goI (q_runV (As := [.int 0, .int 20]) (rest := [.int v38, .ref ca]) E hC37 hS37 (m_X12_count l X Γ H37 hC37 h0 g0 0 (a1 := 0) (by decide) 20 (a2 := 20) (by decide) ca gca uc tq ((kp_R hKp37 g0 (ci := 11) (k := 7) rfl (by decide) rfl).trans htq) gtq (by omega) (by omega) (by omega) (by omega)) cw_X12_count cl_RX12_248 g0 ⟨rfl, rfl⟩ rfl hl.1 rfl (show _ ≤ _ from by simp [Value.category]) (by decide) dX12_readArticle_157) hS37 (fun v40 H40 locs40 hr40 hC40 hS40 => ?_)
        obtain ⟨hp40, hr40⟩ := hr40
        have hKp40 := hKp37.tr (hp40.mono rfl)
        obtain ⟨f40_0, f40_1, f40_2, f40_3, f40_4, f40_5, f40_6, f40_7, f40_8⟩ := hr40
        have hdc := HD.count hd hp40 g0 gca f40_8 f40_2 (by omega) rfl rfl
        have hd := hdc.1
        have hcv9 := hdc.2
        refine q_cast E hC40 hS40 gca (a := (2102 + 0)) ev38i (by omega) (by omega) (cs_n16 (a := (2102 + 0)) (by omega) (by omega)) dX12_readArticle_160 (fun H41 locs41 hC41 hS41 U41 => ?_)
        have hKp41 := Kp.upD gca rfl rfl (fun _ => ⟨fun _ => nd4 (by omega) (by omega), fun _ => by unfold dpu; omega, fun _ => by unfold dpn; omega⟩) U41 hKp40
        have m42 : (sI H41 h0 (X.1.2 11 12)).toInt = (sI H40 h0 (X.1.2 11 12)).toInt := congrArg Int32.toInt (up_nI U41 (ne_k g0 gca (by decide)))
        have m43 : (sI H41 h0 (X.1.2 11 14)).toInt = (sI H40 h0 (X.1.2 11 14)).toInt := congrArg Int32.toInt (up_nI U41 (ne_k g0 gca (by decide)))
        have m44 := congrArg tk m43
        have m45 : (sI H41 h0 (X.1.2 11 16)).toInt = (sI H40 h0 (X.1.2 11 16)).toInt := congrArg Int32.toInt (up_nI U41 (ne_k g0 gca (by decide)))
        have m46 : (sI H41 h0 (X.1.2 11 18)).toInt = (sI H40 h0 (X.1.2 11 18)).toInt := congrArg Int32.toInt (up_nI U41 (ne_k g0 gca (by decide)))
        have m47 : (sI H41 h0 (X.1.2 11 17)).toInt = (sI H40 h0 (X.1.2 11 17)).toInt := congrArg Int32.toInt (up_nI U41 (ne_k g0 gca (by decide)))
        have hd := HD.map hd (congrArg Int32.toInt (up_nI U41 (ne_k g0 gca (by decide)))) (fun hb0 mc ym => ⟨mc.ne U41 g0 gtq gca (by decide), ym.lim U41 g0 gca (w := 0) (by omega) (by omega) (by first | exact ha | (exfalso; omega))⟩)
        have hlv9 : (sI H41 ca (2102 + 0 : Int).toNat).toInt = v40.toInt := by rw [show (2102 + 0 : Int).toNat = ((2102 + 0) : Int).toNat by omega]; exact (congrArg Int32.toInt (up_I U41)).trans rfl
        have e48 := up_I U41
        refine lv_aload_n hx hb dX12_readArticle_161 rfl (lv_at hl 1 rfl) ?_
        refine q_getI E hC41 g0 fa_RX12_218 dX12_readArticle_162 (fun v49 ev49 lv49 uv49 => ?_)
        have m50 : (sI H41 h0 (X.1.2 11 12)).toInt = v49.toInt := (congrArg Int32.toInt ev49).trans rfl
        refine q_if_ne hx hb (a := v49.toInt) rfl (tgt := 179) dX12_readArticle_165 rfl (fun c51 => ?_) (fun c51 => ?_)
        · have hz8 := tk_nn (sI H41 h0 (X.1.2 11 14)).toInt
          have hpost : ((sI H41 h0 (X.1.2 11 12)).toInt = 0 ∧ ∃ (S1 : YSt) (i1 : Nat), gArt kd vl S (i + 1) S1 i1 ∧ MC X H41 h0 tq kd vl w3 pos N i1 ∧ YSM X Γ H41 h0 ca kd vl w3 N S1) ∨ ((sI H41 h0 (X.1.2 11 12)).toInt ≠ 0 ∧ ∀ (S1 : YSt) (i1 : Nat), ¬ gArt kd vl S (i + 1) S1 i1) := by first | (exfalso; omega) | exact Or.inr ⟨by omega, hno⟩ | exact Or.inl ⟨by omega, _, _, Or.inl ⟨(mc1.word (j := 6) (by decide)).mp hw6, ha, hQ.1.2, hQ.2, rfl, by rw [hzz.2 (by decide)]⟩, mc, ym⟩ | exact Or.inl ⟨by omega, _, _, Or.inr (Or.inl ⟨(mc1.word (j := 12) (by decide)).mp hw12, ha, hQ.1.2, hQ.2, rfl, by rw [hzz.2 (by decide)]⟩), mc, ym⟩ | exact Or.inl ⟨by omega, _, _, Or.inr (Or.inr (Or.inl ⟨(mc1.word (j := 15) (by decide)).mp hw15, ha, hQ.1.2, hQ.2, rfl, by rw [hzz.2 (by decide)]⟩)), mc, ym⟩ | exact Or.inl ⟨by omega, _, _, Or.inr (Or.inr (Or.inr ⟨(mc1.word (j := 14) (by decide)).mp hw14, ha, rfl, by rw [hzz.1 rfl]⟩)), mc, ym⟩ | exact Or.inr ⟨by omega, fun S1 i1 q => by rcases q with ⟨q1, -, q3⟩ | ⟨q1, -, q3⟩ | ⟨q1, -, q3⟩ | ⟨q1, -, -⟩ <;> first | exact HD.no hd (by omega) ⟨⟨trivial, q3.1⟩, q3.2.1⟩ | exact HD.no hd (by omega) trivial | exact absurd (okW_j ((mc1.word (j := 6) (by decide)).mp hw6) q1 (by decide) (by decide)) (by decide) | exact absurd (okW_j ((mc1.word (j := 12) (by decide)).mp hw12) q1 (by decide) (by decide)) (by decide) | exact absurd (okW_j ((mc1.word (j := 15) (by decide)).mp hw15) q1 (by decide) (by decide)) (by decide) | exact absurd (okW_j ((mc1.word (j := 14) (by decide)).mp hw14) q1 (by decide) (by decide)) (by decide)⟩
          exact ret H41 locs41 _ _ dX12_readArticle_179 ⟨hKp41, ⟨by omega, by omega, by omega, by omega, hpost⟩⟩ hC41 hS41
        · obtain ⟨hQ, mc, ym⟩ := HD.live hd (by omega)
          have mc := mc
          have ym := ym
          obtain ⟨zz, hzz⟩ : ∃ z : Int, ((0 : Int) = 2 → z = 0) ∧ ((0 : Int) ≠ 2 → z = vl (i + 1 + 2)) := by first | exact ⟨0, fun _ => rfl, fun q => absurd rfl q⟩ | exact ⟨_, fun q => absurd q (by decide), fun _ => rfl⟩
          have hq9 : 0 ≤ zz := by first | (have := hzz.1 rfl; omega) | (have q1 := hzz.2 (by decide); have q2 : 0 ≤ vl (i + 1 + 2) := hQ.2.2.1; omega) | (exfalso; omega)
          have hlz9 : (sI H41 ca (2102 + 0 : Int).toNat).toInt = zz := by first | (rw [hzz.2 (by decide)]; exact hlv9.trans (hcv9 (by omega))) | (rw [hzz.1 rfl]; exact ym.2.2.2.2.2.2.1) | (exfalso; omega)
          refine lv_aload_n hx hb dX12_readArticle_168 rfl (lv_at hl 1 rfl) ?_
          refine q_getC E hC41 g0 fa_RX12_35 uc dX12_readArticle_169 ?_
          refine lv_sipush (v := 2098) hx hb dX12_readArticle_172 rfl ?_
          refine lv_iload_n hx hb dX12_readArticle_175 rfl (lv_at hl 0 rfl) ?_
          refine lv_iadd hx hb dX12_readArticle_176 (lv_topi (fun v52 ev52 => ?_))
          have ev52i : v52.toInt = (2098 + 0) := i_add ev52 (by decide) (by decide) (by omega) (by omega)
          refine lv_iconst (v := 1) hx hb dX12_readArticle_177 rfl ?_
          refine q_cast E hC41 hS41 gca (a := (2098 + 0)) ev52i (by omega) (by omega) (cs_n16 (a := (2098 + 0)) (by omega) (by omega)) dX12_readArticle_178 (fun H53 locs53 hC53 hS53 U53 => ?_)
          have hKp53 := Kp.upD gca rfl rfl (fun _ => ⟨fun _ => nd4 (by omega) (by omega), fun _ => by unfold dpu; omega, fun _ => by unfold dpn; omega⟩) U53 hKp41
          have mc := mc.ne U53 g0 gtq gca (by decide)
          have m54 : (sI H53 h0 (X.1.2 11 12)).toInt = (sI H41 h0 (X.1.2 11 12)).toInt := congrArg Int32.toInt (up_nI U53 (ne_k g0 gca (by decide)))
          have m55 : (sI H53 h0 (X.1.2 11 14)).toInt = (sI H41 h0 (X.1.2 11 14)).toInt := congrArg Int32.toInt (up_nI U53 (ne_k g0 gca (by decide)))
          have m56 := congrArg tk m55
          have m57 : (sI H53 h0 (X.1.2 11 16)).toInt = (sI H41 h0 (X.1.2 11 16)).toInt := congrArg Int32.toInt (up_nI U53 (ne_k g0 gca (by decide)))
          have m58 : (sI H53 h0 (X.1.2 11 18)).toInt = (sI H41 h0 (X.1.2 11 18)).toInt := congrArg Int32.toInt (up_nI U53 (ne_k g0 gca (by decide)))
          have m59 : (sI H53 h0 (X.1.2 11 17)).toInt = (sI H41 h0 (X.1.2 11 17)).toInt := congrArg Int32.toInt (up_nI U53 (ne_k g0 gca (by decide)))
          have ym := ym.art U53 g0 gca (w := 0) (z := zz) (by omega) (by omega) (by decide) hq9 hlz9
          have e60 := up_I U53
          have hz8 := tk_nn (sI H53 h0 (X.1.2 11 14)).toInt
          have hpost : ((sI H53 h0 (X.1.2 11 12)).toInt = 0 ∧ ∃ (S1 : YSt) (i1 : Nat), gArt kd vl S (i + 1) S1 i1 ∧ MC X H53 h0 tq kd vl w3 pos N i1 ∧ YSM X Γ H53 h0 ca kd vl w3 N S1) ∨ ((sI H53 h0 (X.1.2 11 12)).toInt ≠ 0 ∧ ∀ (S1 : YSt) (i1 : Nat), ¬ gArt kd vl S (i + 1) S1 i1) := by first | (exfalso; omega) | exact Or.inr ⟨by omega, hno⟩ | exact Or.inl ⟨by omega, _, _, Or.inl ⟨(mc1.word (j := 6) (by decide)).mp hw6, ha, hQ.1.2, hQ.2, rfl, by rw [hzz.2 (by decide)]⟩, mc, ym⟩ | exact Or.inl ⟨by omega, _, _, Or.inr (Or.inl ⟨(mc1.word (j := 12) (by decide)).mp hw12, ha, hQ.1.2, hQ.2, rfl, by rw [hzz.2 (by decide)]⟩), mc, ym⟩ | exact Or.inl ⟨by omega, _, _, Or.inr (Or.inr (Or.inl ⟨(mc1.word (j := 15) (by decide)).mp hw15, ha, hQ.1.2, hQ.2, rfl, by rw [hzz.2 (by decide)]⟩)), mc, ym⟩ | exact Or.inl ⟨by omega, _, _, Or.inr (Or.inr (Or.inr ⟨(mc1.word (j := 14) (by decide)).mp hw14, ha, rfl, by rw [hzz.1 rfl]⟩)), mc, ym⟩ | exact Or.inr ⟨by omega, fun S1 i1 q => by rcases q with ⟨q1, -, q3⟩ | ⟨q1, -, q3⟩ | ⟨q1, -, q3⟩ | ⟨q1, -, -⟩ <;> first | exact HD.no hd (by omega) ⟨⟨trivial, q3.1⟩, q3.2.1⟩ | exact HD.no hd (by omega) trivial | exact absurd (okW_j ((mc1.word (j := 6) (by decide)).mp hw6) q1 (by decide) (by decide)) (by decide) | exact absurd (okW_j ((mc1.word (j := 12) (by decide)).mp hw12) q1 (by decide) (by decide)) (by decide) | exact absurd (okW_j ((mc1.word (j := 15) (by decide)).mp hw15) q1 (by decide) (by decide)) (by decide) | exact absurd (okW_j ((mc1.word (j := 14) (by decide)).mp hw14) q1 (by decide) (by decide)) (by decide)⟩
          exact ret H53 locs53 _ _ dX12_readArticle_179 ⟨hKp53, ⟨by omega, by omega, by omega, by omega, hpost⟩⟩ hC53 hS53
    · refine lv_aload_n hx hb dX12_readArticle_65 rfl (lv_at hl 1 rfl) ?_
      refine q_getC E hC21 g0 fa_RX12_35 uc dX12_readArticle_66 ?_
      refine lv_sipush (v := 2098) hx hb dX12_readArticle_69 rfl ?_
      refine lv_iload_n hx hb dX12_readArticle_72 rfl (lv_at hl 0 rfl) ?_
      refine lv_iadd hx hb dX12_readArticle_73 (lv_topi (fun v61 ev61 => ?_))
      have ev61i : v61.toInt = (2098 + 0) := i_add ev61 (by decide) (by decide) (by omega) (by omega)
      refine q_cald E hC21 (lo := -2147483648) (hi := 2147483647) gca (a := (2098 + 0)) ev61i (by omega) (by omega) (cr_n16 (by omega) (by omega)) dX12_readArticle_74 (fun v62 ev62 _ _ => ?_)
      have m63 : (sI H21 ca ((2098 + 0) : Int).toNat).toInt = v62.toInt := congrArg Int32.toInt ev62
      have hta := ym.article (z := (2098 + 0)) (w := 0) (by omega) (by omega)
      refine lv_iconst (v := 1) hx hb dX12_readArticle_75 rfl ?_
      refine q_icmp_ne hx hb (a := v62.toInt) (b := 1) rfl (by decide) (tgt := 88) dX12_readArticle_76 rfl (fun c64 => ?_) (fun c64 => ?_)
      · have mc1 := mc
        have ha : S.2.2.2.2.2 (0) = -1 := by first | (exfalso; omega) | (by_cases e : S.2.2.2.2.2 (0) = -1; exact e; exfalso; rw [if_neg e] at hta; omega)
        have hk2 : kd (i + 1) ≠ 0 := by first | (have := ((mc1.word (j := 6) (by decide)).mp hw6).1; omega) | (have := ((mc1.word (j := 12) (by decide)).mp hw12).1; omega) | (have := ((mc1.word (j := 14) (by decide)).mp hw14).1; omega) | (have := ((mc1.word (j := 15) (by decide)).mp hw15).1; omega)
        have hd := HD.of (by omega) mc ym
        refine lv_aload_n hx hb dX12_readArticle_88 rfl (lv_at hl 1 rfl) ?_
        refine lv_iconst (v := 1) hx hb dX12_readArticle_89 rfl ?_
        refine q_goV (q_runV (As := [.int 1]) (rest := []) E hC21 hS22 (m_X12_must l X Γ H21 hC21 h0 g0 1 (a1 := 1) (by decide) ca gca uc tq ((kp_R hKp21 g0 (ci := 11) (k := 7) rfl (by decide) rfl).trans htq) gtq (by omega) (by omega)) cw_X12_must cl_RX12_244 g0 ⟨rfl, rfl⟩ rfl hl.1 rfl (Nat.zero_le _) (by decide) dX12_readArticle_90) hS22 (fun H65 locs65 hr65 hC65 hS65 => ?_)
        obtain ⟨hp65, hr65⟩ := hr65
        have hKp65 := hKp21.tr (hp65.mono rfl)
        obtain ⟨f65_0, f65_1, f65_2, f65_3, f65_4, f65_5⟩ := hr65
        have hd := HD.go hd hp65 g0 gca (by first | exact fun q => q.elim | exact fun _ => hk2) f65_5 f65_2 (by omega) rfl rfl
        refine lv_aload_n hx hb dX12_readArticle_93 rfl (lv_at hl 1 rfl) ?_
        refine q_getI E hC65 g0 fa_RX12_218 dX12_readArticle_94 (fun v66 ev66 lv66 uv66 => ?_)
        have m67 : (sI H65 h0 (X.1.2 11 12)).toInt = v66.toInt := (congrArg Int32.toInt ev66).trans rfl
        refine q_if_ne hx hb (a := v66.toInt) rfl (tgt := 161) dX12_readArticle_97 rfl (fun c68 => ?_) (fun c68 => ?_)
        · refine lv_aload_n hx hb dX12_readArticle_161 rfl (lv_at hl 1 rfl) ?_
          refine q_getI E hC65 g0 fa_RX12_218 dX12_readArticle_162 (fun v69 ev69 lv69 uv69 => ?_)
          have qv69 := ev66.symm.trans ev69; subst qv69
          refine q_if_ne hx hb (a := v66.toInt) rfl (tgt := 179) dX12_readArticle_165 rfl (fun c70 => ?_) (fun c70 => absurd c70 (by omega))
          have hz8 := tk_nn (sI H65 h0 (X.1.2 11 14)).toInt
          have hpost : ((sI H65 h0 (X.1.2 11 12)).toInt = 0 ∧ ∃ (S1 : YSt) (i1 : Nat), gArt kd vl S (i + 1) S1 i1 ∧ MC X H65 h0 tq kd vl w3 pos N i1 ∧ YSM X Γ H65 h0 ca kd vl w3 N S1) ∨ ((sI H65 h0 (X.1.2 11 12)).toInt ≠ 0 ∧ ∀ (S1 : YSt) (i1 : Nat), ¬ gArt kd vl S (i + 1) S1 i1) := by first | (exfalso; omega) | exact Or.inr ⟨by omega, hno⟩ | exact Or.inl ⟨by omega, _, _, Or.inl ⟨(mc1.word (j := 6) (by decide)).mp hw6, ha, hQ.1.2, hQ.2, rfl, by rw [hzz.2 (by decide)]⟩, mc, ym⟩ | exact Or.inl ⟨by omega, _, _, Or.inr (Or.inl ⟨(mc1.word (j := 12) (by decide)).mp hw12, ha, hQ.1.2, hQ.2, rfl, by rw [hzz.2 (by decide)]⟩), mc, ym⟩ | exact Or.inl ⟨by omega, _, _, Or.inr (Or.inr (Or.inl ⟨(mc1.word (j := 15) (by decide)).mp hw15, ha, hQ.1.2, hQ.2, rfl, by rw [hzz.2 (by decide)]⟩)), mc, ym⟩ | exact Or.inl ⟨by omega, _, _, Or.inr (Or.inr (Or.inr ⟨(mc1.word (j := 14) (by decide)).mp hw14, ha, rfl, by rw [hzz.1 rfl]⟩)), mc, ym⟩ | exact Or.inr ⟨by omega, fun S1 i1 q => by rcases q with ⟨q1, -, q3⟩ | ⟨q1, -, q3⟩ | ⟨q1, -, q3⟩ | ⟨q1, -, -⟩ <;> first | exact HD.no hd (by omega) ⟨⟨trivial, q3.1⟩, q3.2.1⟩ | exact HD.no hd (by omega) trivial | exact absurd (okW_j ((mc1.word (j := 6) (by decide)).mp hw6) q1 (by decide) (by decide)) (by decide) | exact absurd (okW_j ((mc1.word (j := 12) (by decide)).mp hw12) q1 (by decide) (by decide)) (by decide) | exact absurd (okW_j ((mc1.word (j := 15) (by decide)).mp hw15) q1 (by decide) (by decide)) (by decide) | exact absurd (okW_j ((mc1.word (j := 14) (by decide)).mp hw14) q1 (by decide) (by decide)) (by decide)⟩
          exact ret H65 locs65 _ _ dX12_readArticle_179 ⟨hKp65, ⟨by omega, by omega, by omega, by omega, hpost⟩⟩ hC65 hS65
        · refine lv_iload_n hx hb dX12_readArticle_100 rfl (lv_at hl 0 rfl) ?_
          refine lv_iconst (v := 2) hx hb dX12_readArticle_101 rfl ?_
          refine q_icmp_eq hx hb (a := 0) (b := 2) (by decide) (by decide) (tgt := 161) dX12_readArticle_102 rfl (fun c71 => absurd c71 (by omega)) (fun c71 => ?_)
          refine lv_aload_n hx hb dX12_readArticle_105 rfl (lv_at hl 1 rfl) ?_
          refine lv_iload_n hx hb dX12_readArticle_106 rfl (lv_at hl 0 rfl) ?_
          refine lv_iconst (v := 1) hx hb dX12_readArticle_107 rfl ?_
          refine q_icmp_ne hx hb (a := 0) (b := 1) (by decide) (by decide) (tgt := 118) dX12_readArticle_108 rfl (fun c72 => ?_) (fun c72 => absurd c72 (by omega))
          refine lv_aload_n hx hb dX12_readArticle_118 rfl (lv_at hl 1 rfl) ?_
          refine q_goIp (q_runV (As := []) (rest := [.ref h0]) E hC65 hS65 (m_X12_isAbove l X Γ H65 hC65 h0 g0 ca gca uc) cw_X12_isAbove cl_RX12_196 g0 ⟨rfl, rfl⟩ rfl hl.1 rfl (show _ ≤ _ from by simp [Value.category]) (by decide) dX12_readArticle_119) hS65 (fun v73 locs73 hr73 hS73 => ?_)
          have b73 : (v73.toInt = 1 ∧ _) ∨ (v73.toInt = 0 ∧ _) := hr73.imp (fun h => ⟨by rw [h.1]; decide, h.2⟩) (fun h => ⟨by rw [h.1]; decide, h.2⟩)
          have hbz := b73
          refine q_goV (q_runV (As := [.int v73]) (rest := []) E hC65 hS73 (m_X12_must l X Γ H65 hC65 h0 g0 v73 (a1 := v73.toInt) rfl ca gca uc tq ((kp_R hKp65 g0 (ci := 11) (k := 7) rfl (by decide) rfl).trans htq) gtq (by omega) (by omega)) cw_X12_must cl_RX12_244 g0 ⟨rfl, rfl⟩ rfl hl.1 rfl (Nat.zero_le _) (by decide) dX12_readArticle_122) hS73 (fun H74 locs74 hr74 hC74 hS74 => ?_)
          obtain ⟨hp74, hr74⟩ := hr74
          have hKp74 := hKp65.tr (hp74.mono rfl)
          obtain ⟨f74_0, f74_1, f74_2, f74_3, f74_4, f74_5⟩ := hr74
          have hd := HD.must hd hp74 g0 gca (by first | exact hbz | exact Or.inl ⟨rfl, hw⟩ | exact Or.inr ⟨rfl, hw⟩) f74_5 f74_2 (by omega) rfl rfl (by decide)
          refine lv_aload_n hx hb dX12_readArticle_125 rfl (lv_at hl 1 rfl) ?_
          refine q_getC E hC74 g0 fa_RX12_35 uc dX12_readArticle_126 ?_
          refine lv_sipush (v := 2102) hx hb dX12_readArticle_129 rfl ?_
          refine lv_iload_n hx hb dX12_readArticle_132 rfl (lv_at hl 0 rfl) ?_
          refine lv_iadd hx hb dX12_readArticle_133 (lv_topi (fun v75 ev75 => ?_))
          have ev75i : v75.toInt = (2102 + 0) := i_add ev75 (by decide) (by decide) (by omega) (by omega)
          refine lv_aload_n hx hb dX12_readArticle_134 rfl (lv_at hl 1 rfl) ?_
          refine lv_iconst (v := 0) hx hb dX12_readArticle_135 rfl ?_
          refine lv_iload_n hx hb dX12_readArticle_136 rfl (lv_at hl 0 rfl) ?_
          refine q_if_ne hx hb (a := 0) (by decide) (tgt := 145) dX12_readArticle_137 rfl (fun c76 => absurd c76 (by omega)) (fun c76 => ?_)
          refine lv_bipush (v := 20) hx hb dX12_readArticle_140 rfl ?_
          refine lv_goto (tgt := 157) hx hb dX12_readArticle_142 rfl ?_
          refine q_goI (q_runV (As := [.int 0, .int 20]) (rest := [.int v75, .ref ca]) E hC74 hS74 (m_X12_count l X Γ H74 hC74 h0 g0 0 (a1 := 0) (by decide) 20 (a2 := 20) (by decide) ca gca uc tq ((kp_R hKp74 g0 (ci := 11) (k := 7) rfl (by decide) rfl).trans htq) gtq (by omega) (by omega) (by omega) (by omega)) cw_X12_count cl_RX12_248 g0 ⟨rfl, rfl⟩ rfl hl.1 rfl (show _ ≤ _ from by simp [Value.category]) (by decide) dX12_readArticle_157) hS74 (fun v77 H77 locs77 hr77 hC77 hS77 => ?_)
          obtain ⟨hp77, hr77⟩ := hr77
          have hKp77 := hKp74.tr (hp77.mono rfl)
          obtain ⟨f77_0, f77_1, f77_2, f77_3, f77_4, f77_5, f77_6, f77_7, f77_8⟩ := hr77
          have hdc := HD.count hd hp77 g0 gca f77_8 f77_2 (by omega) rfl rfl
          have hd := hdc.1
          have hcv9 := hdc.2
          refine q_cast E hC77 hS77 gca (a := (2102 + 0)) ev75i (by omega) (by omega) (cs_n16 (a := (2102 + 0)) (by omega) (by omega)) dX12_readArticle_160 (fun H78 locs78 hC78 hS78 U78 => ?_)
          have hKp78 := Kp.upD gca rfl rfl (fun _ => ⟨fun _ => nd4 (by omega) (by omega), fun _ => by unfold dpu; omega, fun _ => by unfold dpn; omega⟩) U78 hKp77
          have m79 : (sI H78 h0 (X.1.2 11 12)).toInt = (sI H77 h0 (X.1.2 11 12)).toInt := congrArg Int32.toInt (up_nI U78 (ne_k g0 gca (by decide)))
          have m80 : (sI H78 h0 (X.1.2 11 14)).toInt = (sI H77 h0 (X.1.2 11 14)).toInt := congrArg Int32.toInt (up_nI U78 (ne_k g0 gca (by decide)))
          have m81 := congrArg tk m80
          have m82 : (sI H78 h0 (X.1.2 11 16)).toInt = (sI H77 h0 (X.1.2 11 16)).toInt := congrArg Int32.toInt (up_nI U78 (ne_k g0 gca (by decide)))
          have m83 : (sI H78 h0 (X.1.2 11 18)).toInt = (sI H77 h0 (X.1.2 11 18)).toInt := congrArg Int32.toInt (up_nI U78 (ne_k g0 gca (by decide)))
          have m84 : (sI H78 h0 (X.1.2 11 17)).toInt = (sI H77 h0 (X.1.2 11 17)).toInt := congrArg Int32.toInt (up_nI U78 (ne_k g0 gca (by decide)))
          have hd := HD.map hd (congrArg Int32.toInt (up_nI U78 (ne_k g0 gca (by decide)))) (fun hb0 mc ym => ⟨mc.ne U78 g0 gtq gca (by decide), ym.lim U78 g0 gca (w := 0) (by omega) (by omega) (by first | exact ha | (exfalso; omega))⟩)
          have hlv9 : (sI H78 ca (2102 + 0 : Int).toNat).toInt = v77.toInt := by rw [show (2102 + 0 : Int).toNat = ((2102 + 0) : Int).toNat by omega]; exact (congrArg Int32.toInt (up_I U78)).trans rfl
          have e85 := up_I U78
          refine lv_aload_n hx hb dX12_readArticle_161 rfl (lv_at hl 1 rfl) ?_
          refine q_getI E hC78 g0 fa_RX12_218 dX12_readArticle_162 (fun v86 ev86 lv86 uv86 => ?_)
          have m87 : (sI H78 h0 (X.1.2 11 12)).toInt = v86.toInt := (congrArg Int32.toInt ev86).trans rfl
          refine q_if_ne hx hb (a := v86.toInt) rfl (tgt := 179) dX12_readArticle_165 rfl (fun c88 => ?_) (fun c88 => ?_)
          · have hz8 := tk_nn (sI H78 h0 (X.1.2 11 14)).toInt
            have hpost : ((sI H78 h0 (X.1.2 11 12)).toInt = 0 ∧ ∃ (S1 : YSt) (i1 : Nat), gArt kd vl S (i + 1) S1 i1 ∧ MC X H78 h0 tq kd vl w3 pos N i1 ∧ YSM X Γ H78 h0 ca kd vl w3 N S1) ∨ ((sI H78 h0 (X.1.2 11 12)).toInt ≠ 0 ∧ ∀ (S1 : YSt) (i1 : Nat), ¬ gArt kd vl S (i + 1) S1 i1) := by first | (exfalso; omega) | exact Or.inr ⟨by omega, hno⟩ | exact Or.inl ⟨by omega, _, _, Or.inl ⟨(mc1.word (j := 6) (by decide)).mp hw6, ha, hQ.1.2, hQ.2, rfl, by rw [hzz.2 (by decide)]⟩, mc, ym⟩ | exact Or.inl ⟨by omega, _, _, Or.inr (Or.inl ⟨(mc1.word (j := 12) (by decide)).mp hw12, ha, hQ.1.2, hQ.2, rfl, by rw [hzz.2 (by decide)]⟩), mc, ym⟩ | exact Or.inl ⟨by omega, _, _, Or.inr (Or.inr (Or.inl ⟨(mc1.word (j := 15) (by decide)).mp hw15, ha, hQ.1.2, hQ.2, rfl, by rw [hzz.2 (by decide)]⟩)), mc, ym⟩ | exact Or.inl ⟨by omega, _, _, Or.inr (Or.inr (Or.inr ⟨(mc1.word (j := 14) (by decide)).mp hw14, ha, rfl, by rw [hzz.1 rfl]⟩)), mc, ym⟩ | exact Or.inr ⟨by omega, fun S1 i1 q => by rcases q with ⟨q1, -, q3⟩ | ⟨q1, -, q3⟩ | ⟨q1, -, q3⟩ | ⟨q1, -, -⟩ <;> first | exact HD.no hd (by omega) ⟨⟨trivial, q3.1⟩, q3.2.1⟩ | exact HD.no hd (by omega) trivial | exact absurd (okW_j ((mc1.word (j := 6) (by decide)).mp hw6) q1 (by decide) (by decide)) (by decide) | exact absurd (okW_j ((mc1.word (j := 12) (by decide)).mp hw12) q1 (by decide) (by decide)) (by decide) | exact absurd (okW_j ((mc1.word (j := 15) (by decide)).mp hw15) q1 (by decide) (by decide)) (by decide) | exact absurd (okW_j ((mc1.word (j := 14) (by decide)).mp hw14) q1 (by decide) (by decide)) (by decide)⟩
            exact ret H78 locs78 _ _ dX12_readArticle_179 ⟨hKp78, ⟨by omega, by omega, by omega, by omega, hpost⟩⟩ hC78 hS78
          · obtain ⟨hQ, mc, ym⟩ := HD.live hd (by omega)
            have mc := mc
            have ym := ym
            obtain ⟨zz, hzz⟩ : ∃ z : Int, ((0 : Int) = 2 → z = 0) ∧ ((0 : Int) ≠ 2 → z = vl (i + 1 + 2)) := by first | exact ⟨0, fun _ => rfl, fun q => absurd rfl q⟩ | exact ⟨_, fun q => absurd q (by decide), fun _ => rfl⟩
            have hq9 : 0 ≤ zz := by first | (have := hzz.1 rfl; omega) | (have q1 := hzz.2 (by decide); have q2 : 0 ≤ vl (i + 1 + 2) := hQ.2.2.1; omega) | (exfalso; omega)
            have hlz9 : (sI H78 ca (2102 + 0 : Int).toNat).toInt = zz := by first | (rw [hzz.2 (by decide)]; exact hlv9.trans (hcv9 (by omega))) | (rw [hzz.1 rfl]; exact ym.2.2.2.2.2.2.1) | (exfalso; omega)
            refine lv_aload_n hx hb dX12_readArticle_168 rfl (lv_at hl 1 rfl) ?_
            refine q_getC E hC78 g0 fa_RX12_35 uc dX12_readArticle_169 ?_
            refine lv_sipush (v := 2098) hx hb dX12_readArticle_172 rfl ?_
            refine lv_iload_n hx hb dX12_readArticle_175 rfl (lv_at hl 0 rfl) ?_
            refine lv_iadd hx hb dX12_readArticle_176 (lv_topi (fun v89 ev89 => ?_))
            have ev89i : v89.toInt = (2098 + 0) := i_add ev89 (by decide) (by decide) (by omega) (by omega)
            refine lv_iconst (v := 1) hx hb dX12_readArticle_177 rfl ?_
            refine q_cast E hC78 hS78 gca (a := (2098 + 0)) ev89i (by omega) (by omega) (cs_n16 (a := (2098 + 0)) (by omega) (by omega)) dX12_readArticle_178 (fun H90 locs90 hC90 hS90 U90 => ?_)
            have hKp90 := Kp.upD gca rfl rfl (fun _ => ⟨fun _ => nd4 (by omega) (by omega), fun _ => by unfold dpu; omega, fun _ => by unfold dpn; omega⟩) U90 hKp78
            have mc := mc.ne U90 g0 gtq gca (by decide)
            have m91 : (sI H90 h0 (X.1.2 11 12)).toInt = (sI H78 h0 (X.1.2 11 12)).toInt := congrArg Int32.toInt (up_nI U90 (ne_k g0 gca (by decide)))
            have m92 : (sI H90 h0 (X.1.2 11 14)).toInt = (sI H78 h0 (X.1.2 11 14)).toInt := congrArg Int32.toInt (up_nI U90 (ne_k g0 gca (by decide)))
            have m93 := congrArg tk m92
            have m94 : (sI H90 h0 (X.1.2 11 16)).toInt = (sI H78 h0 (X.1.2 11 16)).toInt := congrArg Int32.toInt (up_nI U90 (ne_k g0 gca (by decide)))
            have m95 : (sI H90 h0 (X.1.2 11 18)).toInt = (sI H78 h0 (X.1.2 11 18)).toInt := congrArg Int32.toInt (up_nI U90 (ne_k g0 gca (by decide)))
            have m96 : (sI H90 h0 (X.1.2 11 17)).toInt = (sI H78 h0 (X.1.2 11 17)).toInt := congrArg Int32.toInt (up_nI U90 (ne_k g0 gca (by decide)))
            have ym := ym.art U90 g0 gca (w := 0) (z := zz) (by omega) (by omega) (by decide) hq9 hlz9
            have e97 := up_I U90
            have hz8 := tk_nn (sI H90 h0 (X.1.2 11 14)).toInt
            have hpost : ((sI H90 h0 (X.1.2 11 12)).toInt = 0 ∧ ∃ (S1 : YSt) (i1 : Nat), gArt kd vl S (i + 1) S1 i1 ∧ MC X H90 h0 tq kd vl w3 pos N i1 ∧ YSM X Γ H90 h0 ca kd vl w3 N S1) ∨ ((sI H90 h0 (X.1.2 11 12)).toInt ≠ 0 ∧ ∀ (S1 : YSt) (i1 : Nat), ¬ gArt kd vl S (i + 1) S1 i1) := by first | (exfalso; omega) | exact Or.inr ⟨by omega, hno⟩ | exact Or.inl ⟨by omega, _, _, Or.inl ⟨(mc1.word (j := 6) (by decide)).mp hw6, ha, hQ.1.2, hQ.2, rfl, by rw [hzz.2 (by decide)]⟩, mc, ym⟩ | exact Or.inl ⟨by omega, _, _, Or.inr (Or.inl ⟨(mc1.word (j := 12) (by decide)).mp hw12, ha, hQ.1.2, hQ.2, rfl, by rw [hzz.2 (by decide)]⟩), mc, ym⟩ | exact Or.inl ⟨by omega, _, _, Or.inr (Or.inr (Or.inl ⟨(mc1.word (j := 15) (by decide)).mp hw15, ha, hQ.1.2, hQ.2, rfl, by rw [hzz.2 (by decide)]⟩)), mc, ym⟩ | exact Or.inl ⟨by omega, _, _, Or.inr (Or.inr (Or.inr ⟨(mc1.word (j := 14) (by decide)).mp hw14, ha, rfl, by rw [hzz.1 rfl]⟩)), mc, ym⟩ | exact Or.inr ⟨by omega, fun S1 i1 q => by rcases q with ⟨q1, -, q3⟩ | ⟨q1, -, q3⟩ | ⟨q1, -, q3⟩ | ⟨q1, -, -⟩ <;> first | exact HD.no hd (by omega) ⟨⟨trivial, q3.1⟩, q3.2.1⟩ | exact HD.no hd (by omega) trivial | exact absurd (okW_j ((mc1.word (j := 6) (by decide)).mp hw6) q1 (by decide) (by decide)) (by decide) | exact absurd (okW_j ((mc1.word (j := 12) (by decide)).mp hw12) q1 (by decide) (by decide)) (by decide) | exact absurd (okW_j ((mc1.word (j := 15) (by decide)).mp hw15) q1 (by decide) (by decide)) (by decide) | exact absurd (okW_j ((mc1.word (j := 14) (by decide)).mp hw14) q1 (by decide) (by decide)) (by decide)⟩
            exact ret H90 locs90 _ _ dX12_readArticle_179 ⟨hKp90, ⟨by omega, by omega, by omega, by omega, hpost⟩⟩ hC90 hS90
      · have hno : ∀ (S1 : YSt) (i1 : Nat), ¬ gArt kd vl S (i + 1) S1 i1 := fun S1 i1 q => by rcases q with ⟨q1, q2, -⟩ | ⟨q1, q2, -⟩ | ⟨q1, q2, -⟩ | ⟨q1, q2, -⟩ <;> first | exact absurd ((mc.word (by decide)).mpr q1) (by assumption) | exact absurd (okW_j ((mc.word (j := 6) (by decide)).mp hw6) q1 (by decide) (by decide)) (by decide) | exact absurd (okW_j ((mc.word (j := 12) (by decide)).mp hw12) q1 (by decide) (by decide)) (by decide) | exact absurd (okW_j ((mc.word (j := 15) (by decide)).mp hw15) q1 (by decide) (by decide)) (by decide) | exact absurd (okW_j ((mc.word (j := 14) (by decide)).mp hw14) q1 (by decide) (by decide)) (by decide) | (rw [if_pos q2] at hta; omega)
        refine lv_aload_n hx hb dX12_readArticle_79 rfl (lv_at hl 1 rfl) ?_
        refine lv_iconst (v := 5) hx hb dX12_readArticle_80 rfl ?_
        refine lv_aload_n hx hb dX12_readArticle_81 rfl (lv_at hl 1 rfl) ?_
        refine q_getI E hC21 g0 fa_RX12_114 dX12_readArticle_82 (fun v98 ev98 lv98 uv98 => ?_)
        refine q_goV (q_runV (As := [.int 5, .int v98]) (rest := []) E hC21 hS22 (m_X12_fail l X Γ H21 hC21 h0 g0 5 (a1 := 5) (by decide) v98 (a2 := v98.toInt) rfl ca gca uc (by omega) (by omega)) cw_X12_fail cl_RX12_224 g0 ⟨rfl, rfl⟩ rfl hl.1 rfl (Nat.zero_le _) (by decide) dX12_readArticle_85) hS22 (fun H99 locs99 hr99 hC99 hS99 => ?_)
        obtain ⟨hp99, hr99⟩ := hr99
        have hKp99 := hKp21.tr (hp99.mono rfl)
        have ym := ym.kp hp99 g0 gca rfl rfl
        obtain ⟨f99_0, f99_1, f99_2, f99_3⟩ := hr99
        have hd := HD.dead (i := 0) (S := S) (kd := kd) (vl := vl) (w3 := w3) (pos := pos) (N := N) (tq := tq) (ca := ca) (X := X) (Γ := Γ) (H := H99) (r := h0) (by omega)
        refine lv_aload_n hx hb dX12_readArticle_88 rfl (lv_at hl 1 rfl) ?_
        refine lv_iconst (v := 1) hx hb dX12_readArticle_89 rfl ?_
        refine q_goV (q_runV (As := [.int 1]) (rest := []) E hC99 hS99 (m_X12_must l X Γ H99 hC99 h0 g0 1 (a1 := 1) (by decide) ca gca uc tq ((kp_R hKp99 g0 (ci := 11) (k := 7) rfl (by decide) rfl).trans htq) gtq (by omega) (by omega)) cw_X12_must cl_RX12_244 g0 ⟨rfl, rfl⟩ rfl hl.1 rfl (Nat.zero_le _) (by decide) dX12_readArticle_90) hS99 (fun H100 locs100 hr100 hC100 hS100 => ?_)
        obtain ⟨hp100, hr100⟩ := hr100
        have hKp100 := hKp99.tr (hp100.mono rfl)
        obtain ⟨f100_0, f100_1, f100_2, f100_3, f100_4, f100_5⟩ := hr100
        have hd := HD.go hd hp100 g0 gca (by first | exact fun q => q.elim | exact fun _ => hk2) f100_5 f100_2 (by omega) rfl rfl
        refine lv_aload_n hx hb dX12_readArticle_93 rfl (lv_at hl 1 rfl) ?_
        refine q_getI E hC100 g0 fa_RX12_218 dX12_readArticle_94 (fun v101 ev101 lv101 uv101 => ?_)
        have m102 : (sI H100 h0 (X.1.2 11 12)).toInt = v101.toInt := (congrArg Int32.toInt ev101).trans rfl
        refine q_if_ne hx hb (a := v101.toInt) rfl (tgt := 161) dX12_readArticle_97 rfl (fun c103 => ?_) (fun c103 => ?_)
        · refine lv_aload_n hx hb dX12_readArticle_161 rfl (lv_at hl 1 rfl) ?_
          refine q_getI E hC100 g0 fa_RX12_218 dX12_readArticle_162 (fun v104 ev104 lv104 uv104 => ?_)
          have qv104 := ev101.symm.trans ev104; subst qv104
          refine q_if_ne hx hb (a := v101.toInt) rfl (tgt := 179) dX12_readArticle_165 rfl (fun c105 => ?_) (fun c105 => absurd c105 (by omega))
          have hz8 := tk_nn (sI H100 h0 (X.1.2 11 14)).toInt
          have hpost : ((sI H100 h0 (X.1.2 11 12)).toInt = 0 ∧ ∃ (S1 : YSt) (i1 : Nat), gArt kd vl S (i + 1) S1 i1 ∧ MC X H100 h0 tq kd vl w3 pos N i1 ∧ YSM X Γ H100 h0 ca kd vl w3 N S1) ∨ ((sI H100 h0 (X.1.2 11 12)).toInt ≠ 0 ∧ ∀ (S1 : YSt) (i1 : Nat), ¬ gArt kd vl S (i + 1) S1 i1) := by first | (exfalso; omega) | exact Or.inr ⟨by omega, hno⟩ | exact Or.inl ⟨by omega, _, _, Or.inl ⟨(mc1.word (j := 6) (by decide)).mp hw6, ha, hQ.1.2, hQ.2, rfl, by rw [hzz.2 (by decide)]⟩, mc, ym⟩ | exact Or.inl ⟨by omega, _, _, Or.inr (Or.inl ⟨(mc1.word (j := 12) (by decide)).mp hw12, ha, hQ.1.2, hQ.2, rfl, by rw [hzz.2 (by decide)]⟩), mc, ym⟩ | exact Or.inl ⟨by omega, _, _, Or.inr (Or.inr (Or.inl ⟨(mc1.word (j := 15) (by decide)).mp hw15, ha, hQ.1.2, hQ.2, rfl, by rw [hzz.2 (by decide)]⟩)), mc, ym⟩ | exact Or.inl ⟨by omega, _, _, Or.inr (Or.inr (Or.inr ⟨(mc1.word (j := 14) (by decide)).mp hw14, ha, rfl, by rw [hzz.1 rfl]⟩)), mc, ym⟩ | exact Or.inr ⟨by omega, fun S1 i1 q => by rcases q with ⟨q1, -, q3⟩ | ⟨q1, -, q3⟩ | ⟨q1, -, q3⟩ | ⟨q1, -, -⟩ <;> first | exact HD.no hd (by omega) ⟨⟨trivial, q3.1⟩, q3.2.1⟩ | exact HD.no hd (by omega) trivial | exact absurd (okW_j ((mc1.word (j := 6) (by decide)).mp hw6) q1 (by decide) (by decide)) (by decide) | exact absurd (okW_j ((mc1.word (j := 12) (by decide)).mp hw12) q1 (by decide) (by decide)) (by decide) | exact absurd (okW_j ((mc1.word (j := 15) (by decide)).mp hw15) q1 (by decide) (by decide)) (by decide) | exact absurd (okW_j ((mc1.word (j := 14) (by decide)).mp hw14) q1 (by decide) (by decide)) (by decide)⟩
          exact ret H100 locs100 _ _ dX12_readArticle_179 ⟨hKp100, ⟨by omega, by omega, by omega, by omega, hpost⟩⟩ hC100 hS100
        · refine lv_iload_n hx hb dX12_readArticle_100 rfl (lv_at hl 0 rfl) ?_
          refine lv_iconst (v := 2) hx hb dX12_readArticle_101 rfl ?_
          refine q_icmp_eq hx hb (a := 0) (b := 2) (by decide) (by decide) (tgt := 161) dX12_readArticle_102 rfl (fun c106 => absurd c106 (by omega)) (fun c106 => ?_)
          refine lv_aload_n hx hb dX12_readArticle_105 rfl (lv_at hl 1 rfl) ?_
          refine lv_iload_n hx hb dX12_readArticle_106 rfl (lv_at hl 0 rfl) ?_
          refine lv_iconst (v := 1) hx hb dX12_readArticle_107 rfl ?_
          refine q_icmp_ne hx hb (a := 0) (b := 1) (by decide) (by decide) (tgt := 118) dX12_readArticle_108 rfl (fun c107 => ?_) (fun c107 => absurd c107 (by omega))
          refine lv_aload_n hx hb dX12_readArticle_118 rfl (lv_at hl 1 rfl) ?_
          refine q_goIp (q_runV (As := []) (rest := [.ref h0]) E hC100 hS100 (m_X12_isAbove l X Γ H100 hC100 h0 g0 ca gca uc) cw_X12_isAbove cl_RX12_196 g0 ⟨rfl, rfl⟩ rfl hl.1 rfl (show _ ≤ _ from by simp [Value.category]) (by decide) dX12_readArticle_119) hS100 (fun v108 locs108 hr108 hS108 => ?_)
          have b108 : (v108.toInt = 1 ∧ _) ∨ (v108.toInt = 0 ∧ _) := hr108.imp (fun h => ⟨by rw [h.1]; decide, h.2⟩) (fun h => ⟨by rw [h.1]; decide, h.2⟩)
          have hbz := b108
          refine q_goV (q_runV (As := [.int v108]) (rest := []) E hC100 hS108 (m_X12_must l X Γ H100 hC100 h0 g0 v108 (a1 := v108.toInt) rfl ca gca uc tq ((kp_R hKp100 g0 (ci := 11) (k := 7) rfl (by decide) rfl).trans htq) gtq (by omega) (by omega)) cw_X12_must cl_RX12_244 g0 ⟨rfl, rfl⟩ rfl hl.1 rfl (Nat.zero_le _) (by decide) dX12_readArticle_122) hS108 (fun H109 locs109 hr109 hC109 hS109 => ?_)
          obtain ⟨hp109, hr109⟩ := hr109
          have hKp109 := hKp100.tr (hp109.mono rfl)
          obtain ⟨f109_0, f109_1, f109_2, f109_3, f109_4, f109_5⟩ := hr109
          have hd := HD.must hd hp109 g0 gca (by first | exact hbz | exact Or.inl ⟨rfl, hw⟩ | exact Or.inr ⟨rfl, hw⟩) f109_5 f109_2 (by omega) rfl rfl (by decide)
          refine lv_aload_n hx hb dX12_readArticle_125 rfl (lv_at hl 1 rfl) ?_
          refine q_getC E hC109 g0 fa_RX12_35 uc dX12_readArticle_126 ?_
          refine lv_sipush (v := 2102) hx hb dX12_readArticle_129 rfl ?_
          refine lv_iload_n hx hb dX12_readArticle_132 rfl (lv_at hl 0 rfl) ?_
          refine lv_iadd hx hb dX12_readArticle_133 (lv_topi (fun v110 ev110 => ?_))
          have ev110i : v110.toInt = (2102 + 0) := i_add ev110 (by decide) (by decide) (by omega) (by omega)
          refine lv_aload_n hx hb dX12_readArticle_134 rfl (lv_at hl 1 rfl) ?_
          refine lv_iconst (v := 0) hx hb dX12_readArticle_135 rfl ?_
          refine lv_iload_n hx hb dX12_readArticle_136 rfl (lv_at hl 0 rfl) ?_
          refine q_if_ne hx hb (a := 0) (by decide) (tgt := 145) dX12_readArticle_137 rfl (fun c111 => absurd c111 (by omega)) (fun c111 => ?_)
          refine lv_bipush (v := 20) hx hb dX12_readArticle_140 rfl ?_
          refine lv_goto (tgt := 157) hx hb dX12_readArticle_142 rfl ?_
          refine q_goI (q_runV (As := [.int 0, .int 20]) (rest := [.int v110, .ref ca]) E hC109 hS109 (m_X12_count l X Γ H109 hC109 h0 g0 0 (a1 := 0) (by decide) 20 (a2 := 20) (by decide) ca gca uc tq ((kp_R hKp109 g0 (ci := 11) (k := 7) rfl (by decide) rfl).trans htq) gtq (by omega) (by omega) (by omega) (by omega)) cw_X12_count cl_RX12_248 g0 ⟨rfl, rfl⟩ rfl hl.1 rfl (show _ ≤ _ from by simp [Value.category]) (by decide) dX12_readArticle_157) hS109 (fun v112 H112 locs112 hr112 hC112 hS112 => ?_)
          obtain ⟨hp112, hr112⟩ := hr112
          have hKp112 := hKp109.tr (hp112.mono rfl)
          obtain ⟨f112_0, f112_1, f112_2, f112_3, f112_4, f112_5, f112_6, f112_7, f112_8⟩ := hr112
          have hdc := HD.count hd hp112 g0 gca f112_8 f112_2 (by omega) rfl rfl
          have hd := hdc.1
          have hcv9 := hdc.2
          refine q_cast E hC112 hS112 gca (a := (2102 + 0)) ev110i (by omega) (by omega) (cs_n16 (a := (2102 + 0)) (by omega) (by omega)) dX12_readArticle_160 (fun H113 locs113 hC113 hS113 U113 => ?_)
          have hKp113 := Kp.upD gca rfl rfl (fun _ => ⟨fun _ => nd4 (by omega) (by omega), fun _ => by unfold dpu; omega, fun _ => by unfold dpn; omega⟩) U113 hKp112
          have m114 : (sI H113 h0 (X.1.2 11 12)).toInt = (sI H112 h0 (X.1.2 11 12)).toInt := congrArg Int32.toInt (up_nI U113 (ne_k g0 gca (by decide)))
          have m115 : (sI H113 h0 (X.1.2 11 14)).toInt = (sI H112 h0 (X.1.2 11 14)).toInt := congrArg Int32.toInt (up_nI U113 (ne_k g0 gca (by decide)))
          have m116 := congrArg tk m115
          have m117 : (sI H113 h0 (X.1.2 11 16)).toInt = (sI H112 h0 (X.1.2 11 16)).toInt := congrArg Int32.toInt (up_nI U113 (ne_k g0 gca (by decide)))
          have m118 : (sI H113 h0 (X.1.2 11 18)).toInt = (sI H112 h0 (X.1.2 11 18)).toInt := congrArg Int32.toInt (up_nI U113 (ne_k g0 gca (by decide)))
          have m119 : (sI H113 h0 (X.1.2 11 17)).toInt = (sI H112 h0 (X.1.2 11 17)).toInt := congrArg Int32.toInt (up_nI U113 (ne_k g0 gca (by decide)))
          have hd := HD.map hd (congrArg Int32.toInt (up_nI U113 (ne_k g0 gca (by decide)))) (fun hb0 mc ym => ⟨mc.ne U113 g0 gtq gca (by decide), ym.lim U113 g0 gca (w := 0) (by omega) (by omega) (by first | exact ha | (exfalso; omega))⟩)
          have hlv9 : (sI H113 ca (2102 + 0 : Int).toNat).toInt = v112.toInt := by rw [show (2102 + 0 : Int).toNat = ((2102 + 0) : Int).toNat by omega]; exact (congrArg Int32.toInt (up_I U113)).trans rfl
          have e120 := up_I U113
          refine lv_aload_n hx hb dX12_readArticle_161 rfl (lv_at hl 1 rfl) ?_
          refine q_getI E hC113 g0 fa_RX12_218 dX12_readArticle_162 (fun v121 ev121 lv121 uv121 => ?_)
          have m122 : (sI H113 h0 (X.1.2 11 12)).toInt = v121.toInt := (congrArg Int32.toInt ev121).trans rfl
          refine q_if_ne hx hb (a := v121.toInt) rfl (tgt := 179) dX12_readArticle_165 rfl (fun c123 => ?_) (fun c123 => ?_)
          · have hz8 := tk_nn (sI H113 h0 (X.1.2 11 14)).toInt
            have hpost : ((sI H113 h0 (X.1.2 11 12)).toInt = 0 ∧ ∃ (S1 : YSt) (i1 : Nat), gArt kd vl S (i + 1) S1 i1 ∧ MC X H113 h0 tq kd vl w3 pos N i1 ∧ YSM X Γ H113 h0 ca kd vl w3 N S1) ∨ ((sI H113 h0 (X.1.2 11 12)).toInt ≠ 0 ∧ ∀ (S1 : YSt) (i1 : Nat), ¬ gArt kd vl S (i + 1) S1 i1) := by first | (exfalso; omega) | exact Or.inr ⟨by omega, hno⟩ | exact Or.inl ⟨by omega, _, _, Or.inl ⟨(mc1.word (j := 6) (by decide)).mp hw6, ha, hQ.1.2, hQ.2, rfl, by rw [hzz.2 (by decide)]⟩, mc, ym⟩ | exact Or.inl ⟨by omega, _, _, Or.inr (Or.inl ⟨(mc1.word (j := 12) (by decide)).mp hw12, ha, hQ.1.2, hQ.2, rfl, by rw [hzz.2 (by decide)]⟩), mc, ym⟩ | exact Or.inl ⟨by omega, _, _, Or.inr (Or.inr (Or.inl ⟨(mc1.word (j := 15) (by decide)).mp hw15, ha, hQ.1.2, hQ.2, rfl, by rw [hzz.2 (by decide)]⟩)), mc, ym⟩ | exact Or.inl ⟨by omega, _, _, Or.inr (Or.inr (Or.inr ⟨(mc1.word (j := 14) (by decide)).mp hw14, ha, rfl, by rw [hzz.1 rfl]⟩)), mc, ym⟩ | exact Or.inr ⟨by omega, fun S1 i1 q => by rcases q with ⟨q1, -, q3⟩ | ⟨q1, -, q3⟩ | ⟨q1, -, q3⟩ | ⟨q1, -, -⟩ <;> first | exact HD.no hd (by omega) ⟨⟨trivial, q3.1⟩, q3.2.1⟩ | exact HD.no hd (by omega) trivial | exact absurd (okW_j ((mc1.word (j := 6) (by decide)).mp hw6) q1 (by decide) (by decide)) (by decide) | exact absurd (okW_j ((mc1.word (j := 12) (by decide)).mp hw12) q1 (by decide) (by decide)) (by decide) | exact absurd (okW_j ((mc1.word (j := 15) (by decide)).mp hw15) q1 (by decide) (by decide)) (by decide) | exact absurd (okW_j ((mc1.word (j := 14) (by decide)).mp hw14) q1 (by decide) (by decide)) (by decide)⟩
            exact ret H113 locs113 _ _ dX12_readArticle_179 ⟨hKp113, ⟨by omega, by omega, by omega, by omega, hpost⟩⟩ hC113 hS113
          · obtain ⟨hQ, mc, ym⟩ := HD.live hd (by omega)
            have mc := mc
            have ym := ym
            obtain ⟨zz, hzz⟩ : ∃ z : Int, ((0 : Int) = 2 → z = 0) ∧ ((0 : Int) ≠ 2 → z = vl (i + 1 + 2)) := by first | exact ⟨0, fun _ => rfl, fun q => absurd rfl q⟩ | exact ⟨_, fun q => absurd q (by decide), fun _ => rfl⟩
            have hq9 : 0 ≤ zz := by first | (have := hzz.1 rfl; omega) | (have q1 := hzz.2 (by decide); have q2 : 0 ≤ vl (i + 1 + 2) := hQ.2.2.1; omega) | (exfalso; omega)
            have hlz9 : (sI H113 ca (2102 + 0 : Int).toNat).toInt = zz := by first | (rw [hzz.2 (by decide)]; exact hlv9.trans (hcv9 (by omega))) | (rw [hzz.1 rfl]; exact ym.2.2.2.2.2.2.1) | (exfalso; omega)
            refine lv_aload_n hx hb dX12_readArticle_168 rfl (lv_at hl 1 rfl) ?_
            refine q_getC E hC113 g0 fa_RX12_35 uc dX12_readArticle_169 ?_
            refine lv_sipush (v := 2098) hx hb dX12_readArticle_172 rfl ?_
            refine lv_iload_n hx hb dX12_readArticle_175 rfl (lv_at hl 0 rfl) ?_
            refine lv_iadd hx hb dX12_readArticle_176 (lv_topi (fun v124 ev124 => ?_))
            have ev124i : v124.toInt = (2098 + 0) := i_add ev124 (by decide) (by decide) (by omega) (by omega)
            refine lv_iconst (v := 1) hx hb dX12_readArticle_177 rfl ?_
            refine q_cast E hC113 hS113 gca (a := (2098 + 0)) ev124i (by omega) (by omega) (cs_n16 (a := (2098 + 0)) (by omega) (by omega)) dX12_readArticle_178 (fun H125 locs125 hC125 hS125 U125 => ?_)
            have hKp125 := Kp.upD gca rfl rfl (fun _ => ⟨fun _ => nd4 (by omega) (by omega), fun _ => by unfold dpu; omega, fun _ => by unfold dpn; omega⟩) U125 hKp113
            have mc := mc.ne U125 g0 gtq gca (by decide)
            have m126 : (sI H125 h0 (X.1.2 11 12)).toInt = (sI H113 h0 (X.1.2 11 12)).toInt := congrArg Int32.toInt (up_nI U125 (ne_k g0 gca (by decide)))
            have m127 : (sI H125 h0 (X.1.2 11 14)).toInt = (sI H113 h0 (X.1.2 11 14)).toInt := congrArg Int32.toInt (up_nI U125 (ne_k g0 gca (by decide)))
            have m128 := congrArg tk m127
            have m129 : (sI H125 h0 (X.1.2 11 16)).toInt = (sI H113 h0 (X.1.2 11 16)).toInt := congrArg Int32.toInt (up_nI U125 (ne_k g0 gca (by decide)))
            have m130 : (sI H125 h0 (X.1.2 11 18)).toInt = (sI H113 h0 (X.1.2 11 18)).toInt := congrArg Int32.toInt (up_nI U125 (ne_k g0 gca (by decide)))
            have m131 : (sI H125 h0 (X.1.2 11 17)).toInt = (sI H113 h0 (X.1.2 11 17)).toInt := congrArg Int32.toInt (up_nI U125 (ne_k g0 gca (by decide)))
            have ym := ym.art U125 g0 gca (w := 0) (z := zz) (by omega) (by omega) (by decide) hq9 hlz9
            have e132 := up_I U125
            have hz8 := tk_nn (sI H125 h0 (X.1.2 11 14)).toInt
            have hpost : ((sI H125 h0 (X.1.2 11 12)).toInt = 0 ∧ ∃ (S1 : YSt) (i1 : Nat), gArt kd vl S (i + 1) S1 i1 ∧ MC X H125 h0 tq kd vl w3 pos N i1 ∧ YSM X Γ H125 h0 ca kd vl w3 N S1) ∨ ((sI H125 h0 (X.1.2 11 12)).toInt ≠ 0 ∧ ∀ (S1 : YSt) (i1 : Nat), ¬ gArt kd vl S (i + 1) S1 i1) := by first | (exfalso; omega) | exact Or.inr ⟨by omega, hno⟩ | exact Or.inl ⟨by omega, _, _, Or.inl ⟨(mc1.word (j := 6) (by decide)).mp hw6, ha, hQ.1.2, hQ.2, rfl, by rw [hzz.2 (by decide)]⟩, mc, ym⟩ | exact Or.inl ⟨by omega, _, _, Or.inr (Or.inl ⟨(mc1.word (j := 12) (by decide)).mp hw12, ha, hQ.1.2, hQ.2, rfl, by rw [hzz.2 (by decide)]⟩), mc, ym⟩ | exact Or.inl ⟨by omega, _, _, Or.inr (Or.inr (Or.inl ⟨(mc1.word (j := 15) (by decide)).mp hw15, ha, hQ.1.2, hQ.2, rfl, by rw [hzz.2 (by decide)]⟩)), mc, ym⟩ | exact Or.inl ⟨by omega, _, _, Or.inr (Or.inr (Or.inr ⟨(mc1.word (j := 14) (by decide)).mp hw14, ha, rfl, by rw [hzz.1 rfl]⟩)), mc, ym⟩ | exact Or.inr ⟨by omega, fun S1 i1 q => by rcases q with ⟨q1, -, q3⟩ | ⟨q1, -, q3⟩ | ⟨q1, -, q3⟩ | ⟨q1, -, -⟩ <;> first | exact HD.no hd (by omega) ⟨⟨trivial, q3.1⟩, q3.2.1⟩ | exact HD.no hd (by omega) trivial | exact absurd (okW_j ((mc1.word (j := 6) (by decide)).mp hw6) q1 (by decide) (by decide)) (by decide) | exact absurd (okW_j ((mc1.word (j := 12) (by decide)).mp hw12) q1 (by decide) (by decide)) (by decide) | exact absurd (okW_j ((mc1.word (j := 15) (by decide)).mp hw15) q1 (by decide) (by decide)) (by decide) | exact absurd (okW_j ((mc1.word (j := 14) (by decide)).mp hw14) q1 (by decide) (by decide)) (by decide)⟩
            exact ret H125 locs125 _ _ dX12_readArticle_179 ⟨hKp125, ⟨by omega, by omega, by omega, by omega, hpost⟩⟩ hC125 hS125
  · have hw6 := hw
    refine q_if_eq hx hb (a := 0) (by decide) (tgt := 15) dX12_readArticle_8 rfl (fun c133 => ?_) (fun c133 => absurd c133 (by omega))
    refine lv_aload_n hx hb dX12_readArticle_15 rfl (lv_at hl 0 rfl) ?_
    refine q_goIp (q_runV (As := []) (rest := []) E hC21 hS22 (m_X12_isBuild l X Γ H21 hC21 h0 g0 ca gca uc) cw_X12_isBuild cl_RX12_153 g0 ⟨rfl, rfl⟩ rfl hl.1 rfl (Nat.zero_le _) (by decide) dX12_readArticle_16) hS22 (fun v134 locs134 hr134 hS134 => ?_)
    rcases hr134 with ⟨rfl, hw⟩ | ⟨rfl, hw⟩
    · have hw12 := hw
      refine q_if_eq hx hb (a := 1) (by decide) (tgt := 26) dX12_readArticle_19 rfl (fun c135 => absurd c135 (by omega)) (fun c135 => ?_)
      refine lv_iconst (v := 1) hx hb dX12_readArticle_22 rfl ?_
      refine lv_goto (tgt := 49) hx hb dX12_readArticle_23 rfl ?_
      refine lv_istore_n hx hb dX12_readArticle_49 rfl hl (by decide) rfl (fun ls hl => ?_)
      have hl : lv_has ls 2 [(1, .int 1), (0, .ref h0)] := hl
      refine lv_iload_n hx hb dX12_readArticle_50 rfl (lv_at hl 0 rfl) ?_
      refine q_if_ge hx hb (a := 1) (by decide) (tgt := 58) dX12_readArticle_51 rfl (fun c136 => ?_) (fun c136 => absurd c136 (by omega))
      refine lv_aload_n hx hb dX12_readArticle_58 rfl (lv_at hl 1 rfl) ?_
      refine q_getI E hC21 g0 fa_RX12_218 dX12_readArticle_59 (fun v137 ev137 lv137 uv137 => ?_)
      have m138 : (sI H21 h0 (X.1.2 11 12)).toInt = v137.toInt := (congrArg Int32.toInt ev137).trans rfl
      refine q_if_ne hx hb (a := v137.toInt) rfl (tgt := 88) dX12_readArticle_62 rfl (fun c139 => ?_) (fun c139 => ?_)
      · have mc1 := mc
        have ha : S.2.2.2.2.2 (1) = -1 := by first | (exfalso; omega) | (by_cases e : S.2.2.2.2.2 (1) = -1; exact e; exfalso; rw [if_neg e] at hta; omega)
        have hk2 : kd (i + 1) ≠ 0 := by first | (have := ((mc1.word (j := 6) (by decide)).mp hw6).1; omega) | (have := ((mc1.word (j := 12) (by decide)).mp hw12).1; omega) | (have := ((mc1.word (j := 14) (by decide)).mp hw14).1; omega) | (have := ((mc1.word (j := 15) (by decide)).mp hw15).1; omega)
        have hd := HD.of (by omega) mc ym
        refine lv_aload_n hx hb dX12_readArticle_88 rfl (lv_at hl 1 rfl) ?_
        refine lv_iconst (v := 1) hx hb dX12_readArticle_89 rfl ?_
        refine q_goV (q_runV (As := [.int 1]) (rest := []) E hC21 hS134 (m_X12_must l X Γ H21 hC21 h0 g0 1 (a1 := 1) (by decide) ca gca uc tq ((kp_R hKp21 g0 (ci := 11) (k := 7) rfl (by decide) rfl).trans htq) gtq (by omega) (by omega)) cw_X12_must cl_RX12_244 g0 ⟨rfl, rfl⟩ rfl hl.1 rfl (Nat.zero_le _) (by decide) dX12_readArticle_90) hS134 (fun H140 locs140 hr140 hC140 hS140 => ?_)
        obtain ⟨hp140, hr140⟩ := hr140
        have hKp140 := hKp21.tr (hp140.mono rfl)
        obtain ⟨f140_0, f140_1, f140_2, f140_3, f140_4, f140_5⟩ := hr140
        have hd := HD.go hd hp140 g0 gca (by first | exact fun q => q.elim | exact fun _ => hk2) f140_5 f140_2 (by omega) rfl rfl
        refine lv_aload_n hx hb dX12_readArticle_93 rfl (lv_at hl 1 rfl) ?_
        refine q_getI E hC140 g0 fa_RX12_218 dX12_readArticle_94 (fun v141 ev141 lv141 uv141 => ?_)
        have m142 : (sI H140 h0 (X.1.2 11 12)).toInt = v141.toInt := (congrArg Int32.toInt ev141).trans rfl
        refine q_if_ne hx hb (a := v141.toInt) rfl (tgt := 161) dX12_readArticle_97 rfl (fun c143 => ?_) (fun c143 => ?_)
        · refine lv_aload_n hx hb dX12_readArticle_161 rfl (lv_at hl 1 rfl) ?_
          refine q_getI E hC140 g0 fa_RX12_218 dX12_readArticle_162 (fun v144 ev144 lv144 uv144 => ?_)
          have qv144 := ev141.symm.trans ev144; subst qv144
          refine q_if_ne hx hb (a := v141.toInt) rfl (tgt := 179) dX12_readArticle_165 rfl (fun c145 => ?_) (fun c145 => absurd c145 (by omega))
          have hz8 := tk_nn (sI H140 h0 (X.1.2 11 14)).toInt
          have hpost : ((sI H140 h0 (X.1.2 11 12)).toInt = 0 ∧ ∃ (S1 : YSt) (i1 : Nat), gArt kd vl S (i + 1) S1 i1 ∧ MC X H140 h0 tq kd vl w3 pos N i1 ∧ YSM X Γ H140 h0 ca kd vl w3 N S1) ∨ ((sI H140 h0 (X.1.2 11 12)).toInt ≠ 0 ∧ ∀ (S1 : YSt) (i1 : Nat), ¬ gArt kd vl S (i + 1) S1 i1) := by first | (exfalso; omega) | exact Or.inr ⟨by omega, hno⟩ | exact Or.inl ⟨by omega, _, _, Or.inl ⟨(mc1.word (j := 6) (by decide)).mp hw6, ha, hQ.1.2, hQ.2, rfl, by rw [hzz.2 (by decide)]⟩, mc, ym⟩ | exact Or.inl ⟨by omega, _, _, Or.inr (Or.inl ⟨(mc1.word (j := 12) (by decide)).mp hw12, ha, hQ.1.2, hQ.2, rfl, by rw [hzz.2 (by decide)]⟩), mc, ym⟩ | exact Or.inl ⟨by omega, _, _, Or.inr (Or.inr (Or.inl ⟨(mc1.word (j := 15) (by decide)).mp hw15, ha, hQ.1.2, hQ.2, rfl, by rw [hzz.2 (by decide)]⟩)), mc, ym⟩ | exact Or.inl ⟨by omega, _, _, Or.inr (Or.inr (Or.inr ⟨(mc1.word (j := 14) (by decide)).mp hw14, ha, rfl, by rw [hzz.1 rfl]⟩)), mc, ym⟩ | exact Or.inr ⟨by omega, fun S1 i1 q => by rcases q with ⟨q1, -, q3⟩ | ⟨q1, -, q3⟩ | ⟨q1, -, q3⟩ | ⟨q1, -, -⟩ <;> first | exact HD.no hd (by omega) ⟨⟨trivial, q3.1⟩, q3.2.1⟩ | exact HD.no hd (by omega) trivial | exact absurd (okW_j ((mc1.word (j := 6) (by decide)).mp hw6) q1 (by decide) (by decide)) (by decide) | exact absurd (okW_j ((mc1.word (j := 12) (by decide)).mp hw12) q1 (by decide) (by decide)) (by decide) | exact absurd (okW_j ((mc1.word (j := 15) (by decide)).mp hw15) q1 (by decide) (by decide)) (by decide) | exact absurd (okW_j ((mc1.word (j := 14) (by decide)).mp hw14) q1 (by decide) (by decide)) (by decide)⟩
          exact ret H140 locs140 _ _ dX12_readArticle_179 ⟨hKp140, ⟨by omega, by omega, by omega, by omega, hpost⟩⟩ hC140 hS140
        · refine lv_iload_n hx hb dX12_readArticle_100 rfl (lv_at hl 0 rfl) ?_
          refine lv_iconst (v := 2) hx hb dX12_readArticle_101 rfl ?_
          refine q_icmp_eq hx hb (a := 1) (b := 2) (by decide) (by decide) (tgt := 161) dX12_readArticle_102 rfl (fun c146 => absurd c146 (by omega)) (fun c146 => ?_)
          refine lv_aload_n hx hb dX12_readArticle_105 rfl (lv_at hl 1 rfl) ?_
          refine lv_iload_n hx hb dX12_readArticle_106 rfl (lv_at hl 0 rfl) ?_
          refine lv_iconst (v := 1) hx hb dX12_readArticle_107 rfl ?_
          refine q_icmp_ne hx hb (a := 1) (b := 1) (by decide) (by decide) (tgt := 118) dX12_readArticle_108 rfl (fun c147 => absurd c147 (by omega)) (fun c147 => ?_)
          refine lv_aload_n hx hb dX12_readArticle_111 rfl (lv_at hl 1 rfl) ?_
          refine q_goIp (q_runV (As := []) (rest := [.ref h0]) E hC140 hS140 (m_X12_isBehind l X Γ H140 hC140 h0 g0 ca gca uc) cw_X12_isBehind cl_RX12_199 g0 ⟨rfl, rfl⟩ rfl hl.1 rfl (show _ ≤ _ from by simp [Value.category]) (by decide) dX12_readArticle_112) hS140 (fun v148 locs148 hr148 hS148 => ?_)
          rcases hr148 with ⟨rfl, hw⟩ | ⟨rfl, hw⟩
          · have hw13 := hw
            refine lv_goto (tgt := 122) hx hb dX12_readArticle_115 rfl ?_
            refine q_goV (q_runV (As := [.int 1]) (rest := []) E hC140 hS148 (m_X12_must l X Γ H140 hC140 h0 g0 1 (a1 := 1) (by decide) ca gca uc tq ((kp_R hKp140 g0 (ci := 11) (k := 7) rfl (by decide) rfl).trans htq) gtq (by omega) (by omega)) cw_X12_must cl_RX12_244 g0 ⟨rfl, rfl⟩ rfl hl.1 rfl (Nat.zero_le _) (by decide) dX12_readArticle_122) hS148 (fun H149 locs149 hr149 hC149 hS149 => ?_)
            obtain ⟨hp149, hr149⟩ := hr149
            have hKp149 := hKp140.tr (hp149.mono rfl)
            obtain ⟨f149_0, f149_1, f149_2, f149_3, f149_4, f149_5⟩ := hr149
            have hd := HD.must hd hp149 g0 gca (by first | exact hbz | exact Or.inl ⟨rfl, hw⟩ | exact Or.inr ⟨rfl, hw⟩) f149_5 f149_2 (by omega) rfl rfl (by decide)
            refine lv_aload_n hx hb dX12_readArticle_125 rfl (lv_at hl 1 rfl) ?_
            refine q_getC E hC149 g0 fa_RX12_35 uc dX12_readArticle_126 ?_
            refine lv_sipush (v := 2102) hx hb dX12_readArticle_129 rfl ?_
            refine lv_iload_n hx hb dX12_readArticle_132 rfl (lv_at hl 0 rfl) ?_
            refine lv_iadd hx hb dX12_readArticle_133 (lv_topi (fun v150 ev150 => ?_))
            have ev150i : v150.toInt = (2102 + 1) := i_add ev150 (by decide) (by decide) (by omega) (by omega)
            refine lv_aload_n hx hb dX12_readArticle_134 rfl (lv_at hl 1 rfl) ?_
            refine lv_iconst (v := 0) hx hb dX12_readArticle_135 rfl ?_
            refine lv_iload_n hx hb dX12_readArticle_136 rfl (lv_at hl 0 rfl) ?_
            refine q_if_ne hx hb (a := 1) (by decide) (tgt := 145) dX12_readArticle_137 rfl (fun c151 => ?_) (fun c151 => absurd c151 (by omega))
            refine lv_iload_n hx hb dX12_readArticle_145 rfl (lv_at hl 0 rfl) ?_
            refine lv_iconst (v := 1) hx hb dX12_readArticle_146 rfl ?_
            refine q_icmp_ne hx hb (a := 1) (b := 1) (by decide) (by decide) (tgt := 155) dX12_readArticle_147 rfl (fun c152 => absurd c152 (by omega)) (fun c152 => ?_)
            refine lv_bipush (v := 40) hx hb dX12_readArticle_150 rfl ?_
            refine lv_goto (tgt := 157) hx hb dX12_readArticle_152 rfl ?_
            refine q_goI (q_runV (As := [.int 0, .int 40]) (rest := [.int v150, .ref ca]) E hC149 hS149 (m_X12_count l X Γ H149 hC149 h0 g0 0 (a1 := 0) (by decide) 40 (a2 := 40) (by decide) ca gca uc tq ((kp_R hKp149 g0 (ci := 11) (k := 7) rfl (by decide) rfl).trans htq) gtq (by omega) (by omega) (by omega) (by omega)) cw_X12_count cl_RX12_248 g0 ⟨rfl, rfl⟩ rfl hl.1 rfl (show _ ≤ _ from by simp [Value.category]) (by decide) dX12_readArticle_157) hS149 (fun v153 H153 locs153 hr153 hC153 hS153 => ?_)
            obtain ⟨hp153, hr153⟩ := hr153
            have hKp153 := hKp149.tr (hp153.mono rfl)
            obtain ⟨f153_0, f153_1, f153_2, f153_3, f153_4, f153_5, f153_6, f153_7, f153_8⟩ := hr153
            have hdc := HD.count hd hp153 g0 gca f153_8 f153_2 (by omega) rfl rfl
            have hd := hdc.1
            have hcv9 := hdc.2
            refine q_cast E hC153 hS153 gca (a := (2102 + 1)) ev150i (by omega) (by omega) (cs_n16 (a := (2102 + 1)) (by omega) (by omega)) dX12_readArticle_160 (fun H154 locs154 hC154 hS154 U154 => ?_)
            have hKp154 := Kp.upD gca rfl rfl (fun _ => ⟨fun _ => nd4 (by omega) (by omega), fun _ => by unfold dpu; omega, fun _ => by unfold dpn; omega⟩) U154 hKp153
            have m155 : (sI H154 h0 (X.1.2 11 12)).toInt = (sI H153 h0 (X.1.2 11 12)).toInt := congrArg Int32.toInt (up_nI U154 (ne_k g0 gca (by decide)))
            have m156 : (sI H154 h0 (X.1.2 11 14)).toInt = (sI H153 h0 (X.1.2 11 14)).toInt := congrArg Int32.toInt (up_nI U154 (ne_k g0 gca (by decide)))
            have m157 := congrArg tk m156
            have m158 : (sI H154 h0 (X.1.2 11 16)).toInt = (sI H153 h0 (X.1.2 11 16)).toInt := congrArg Int32.toInt (up_nI U154 (ne_k g0 gca (by decide)))
            have m159 : (sI H154 h0 (X.1.2 11 18)).toInt = (sI H153 h0 (X.1.2 11 18)).toInt := congrArg Int32.toInt (up_nI U154 (ne_k g0 gca (by decide)))
            have m160 : (sI H154 h0 (X.1.2 11 17)).toInt = (sI H153 h0 (X.1.2 11 17)).toInt := congrArg Int32.toInt (up_nI U154 (ne_k g0 gca (by decide)))
            have hd := HD.map hd (congrArg Int32.toInt (up_nI U154 (ne_k g0 gca (by decide)))) (fun hb0 mc ym => ⟨mc.ne U154 g0 gtq gca (by decide), ym.lim U154 g0 gca (w := 1) (by omega) (by omega) (by first | exact ha | (exfalso; omega))⟩)
            have hlv9 : (sI H154 ca (2102 + 1 : Int).toNat).toInt = v153.toInt := by rw [show (2102 + 1 : Int).toNat = ((2102 + 1) : Int).toNat by omega]; exact (congrArg Int32.toInt (up_I U154)).trans rfl
            have e161 := up_I U154
            refine lv_aload_n hx hb dX12_readArticle_161 rfl (lv_at hl 1 rfl) ?_
            refine q_getI E hC154 g0 fa_RX12_218 dX12_readArticle_162 (fun v162 ev162 lv162 uv162 => ?_)
            have m163 : (sI H154 h0 (X.1.2 11 12)).toInt = v162.toInt := (congrArg Int32.toInt ev162).trans rfl
            refine q_if_ne hx hb (a := v162.toInt) rfl (tgt := 179) dX12_readArticle_165 rfl (fun c164 => ?_) (fun c164 => ?_)
            · have hz8 := tk_nn (sI H154 h0 (X.1.2 11 14)).toInt
              have hpost : ((sI H154 h0 (X.1.2 11 12)).toInt = 0 ∧ ∃ (S1 : YSt) (i1 : Nat), gArt kd vl S (i + 1) S1 i1 ∧ MC X H154 h0 tq kd vl w3 pos N i1 ∧ YSM X Γ H154 h0 ca kd vl w3 N S1) ∨ ((sI H154 h0 (X.1.2 11 12)).toInt ≠ 0 ∧ ∀ (S1 : YSt) (i1 : Nat), ¬ gArt kd vl S (i + 1) S1 i1) := by first | (exfalso; omega) | exact Or.inr ⟨by omega, hno⟩ | exact Or.inl ⟨by omega, _, _, Or.inl ⟨(mc1.word (j := 6) (by decide)).mp hw6, ha, hQ.1.2, hQ.2, rfl, by rw [hzz.2 (by decide)]⟩, mc, ym⟩ | exact Or.inl ⟨by omega, _, _, Or.inr (Or.inl ⟨(mc1.word (j := 12) (by decide)).mp hw12, ha, hQ.1.2, hQ.2, rfl, by rw [hzz.2 (by decide)]⟩), mc, ym⟩ | exact Or.inl ⟨by omega, _, _, Or.inr (Or.inr (Or.inl ⟨(mc1.word (j := 15) (by decide)).mp hw15, ha, hQ.1.2, hQ.2, rfl, by rw [hzz.2 (by decide)]⟩)), mc, ym⟩ | exact Or.inl ⟨by omega, _, _, Or.inr (Or.inr (Or.inr ⟨(mc1.word (j := 14) (by decide)).mp hw14, ha, rfl, by rw [hzz.1 rfl]⟩)), mc, ym⟩ | exact Or.inr ⟨by omega, fun S1 i1 q => by rcases q with ⟨q1, -, q3⟩ | ⟨q1, -, q3⟩ | ⟨q1, -, q3⟩ | ⟨q1, -, -⟩ <;> first | exact HD.no hd (by omega) ⟨⟨trivial, q3.1⟩, q3.2.1⟩ | exact HD.no hd (by omega) trivial | exact absurd (okW_j ((mc1.word (j := 6) (by decide)).mp hw6) q1 (by decide) (by decide)) (by decide) | exact absurd (okW_j ((mc1.word (j := 12) (by decide)).mp hw12) q1 (by decide) (by decide)) (by decide) | exact absurd (okW_j ((mc1.word (j := 15) (by decide)).mp hw15) q1 (by decide) (by decide)) (by decide) | exact absurd (okW_j ((mc1.word (j := 14) (by decide)).mp hw14) q1 (by decide) (by decide)) (by decide)⟩
              exact ret H154 locs154 _ _ dX12_readArticle_179 ⟨hKp154, ⟨by omega, by omega, by omega, by omega, hpost⟩⟩ hC154 hS154
            · obtain ⟨hQ, mc, ym⟩ := HD.live hd (by omega)
              have mc := mc
              have ym := ym
              obtain ⟨zz, hzz⟩ : ∃ z : Int, ((1 : Int) = 2 → z = 0) ∧ ((1 : Int) ≠ 2 → z = vl (i + 1 + 2)) := by first | exact ⟨0, fun _ => rfl, fun q => absurd rfl q⟩ | exact ⟨_, fun q => absurd q (by decide), fun _ => rfl⟩
              have hq9 : 0 ≤ zz := by first | (have := hzz.1 rfl; omega) | (have q1 := hzz.2 (by decide); have q2 : 0 ≤ vl (i + 1 + 2) := hQ.2.2.1; omega) | (exfalso; omega)
              have hlz9 : (sI H154 ca (2102 + 1 : Int).toNat).toInt = zz := by first | (rw [hzz.2 (by decide)]; exact hlv9.trans (hcv9 (by omega))) | (rw [hzz.1 rfl]; exact ym.2.2.2.2.2.2.1) | (exfalso; omega)
              refine lv_aload_n hx hb dX12_readArticle_168 rfl (lv_at hl 1 rfl) ?_
              refine q_getC E hC154 g0 fa_RX12_35 uc dX12_readArticle_169 ?_
              refine lv_sipush (v := 2098) hx hb dX12_readArticle_172 rfl ?_
              refine lv_iload_n hx hb dX12_readArticle_175 rfl (lv_at hl 0 rfl) ?_
              refine lv_iadd hx hb dX12_readArticle_176 (lv_topi (fun v165 ev165 => ?_))
              have ev165i : v165.toInt = (2098 + 1) := i_add ev165 (by decide) (by decide) (by omega) (by omega)
              refine lv_iconst (v := 1) hx hb dX12_readArticle_177 rfl ?_
              refine q_cast E hC154 hS154 gca (a := (2098 + 1)) ev165i (by omega) (by omega) (cs_n16 (a := (2098 + 1)) (by omega) (by omega)) dX12_readArticle_178 (fun H166 locs166 hC166 hS166 U166 => ?_)
              have hKp166 := Kp.upD gca rfl rfl (fun _ => ⟨fun _ => nd4 (by omega) (by omega), fun _ => by unfold dpu; omega, fun _ => by unfold dpn; omega⟩) U166 hKp154
              have mc := mc.ne U166 g0 gtq gca (by decide)
              have m167 : (sI H166 h0 (X.1.2 11 12)).toInt = (sI H154 h0 (X.1.2 11 12)).toInt := congrArg Int32.toInt (up_nI U166 (ne_k g0 gca (by decide)))
              have m168 : (sI H166 h0 (X.1.2 11 14)).toInt = (sI H154 h0 (X.1.2 11 14)).toInt := congrArg Int32.toInt (up_nI U166 (ne_k g0 gca (by decide)))
              have m169 := congrArg tk m168
              have m170 : (sI H166 h0 (X.1.2 11 16)).toInt = (sI H154 h0 (X.1.2 11 16)).toInt := congrArg Int32.toInt (up_nI U166 (ne_k g0 gca (by decide)))
              have m171 : (sI H166 h0 (X.1.2 11 18)).toInt = (sI H154 h0 (X.1.2 11 18)).toInt := congrArg Int32.toInt (up_nI U166 (ne_k g0 gca (by decide)))
              have m172 : (sI H166 h0 (X.1.2 11 17)).toInt = (sI H154 h0 (X.1.2 11 17)).toInt := congrArg Int32.toInt (up_nI U166 (ne_k g0 gca (by decide)))
              have ym := ym.art U166 g0 gca (w := 1) (z := zz) (by omega) (by omega) (by decide) hq9 hlz9
              have e173 := up_I U166
              have hz8 := tk_nn (sI H166 h0 (X.1.2 11 14)).toInt
              have hpost : ((sI H166 h0 (X.1.2 11 12)).toInt = 0 ∧ ∃ (S1 : YSt) (i1 : Nat), gArt kd vl S (i + 1) S1 i1 ∧ MC X H166 h0 tq kd vl w3 pos N i1 ∧ YSM X Γ H166 h0 ca kd vl w3 N S1) ∨ ((sI H166 h0 (X.1.2 11 12)).toInt ≠ 0 ∧ ∀ (S1 : YSt) (i1 : Nat), ¬ gArt kd vl S (i + 1) S1 i1) := by first | (exfalso; omega) | exact Or.inr ⟨by omega, hno⟩ | exact Or.inl ⟨by omega, _, _, Or.inl ⟨(mc1.word (j := 6) (by decide)).mp hw6, ha, hQ.1.2, hQ.2, rfl, by rw [hzz.2 (by decide)]⟩, mc, ym⟩ | exact Or.inl ⟨by omega, _, _, Or.inr (Or.inl ⟨(mc1.word (j := 12) (by decide)).mp hw12, ha, hQ.1.2, hQ.2, rfl, by rw [hzz.2 (by decide)]⟩), mc, ym⟩ | exact Or.inl ⟨by omega, _, _, Or.inr (Or.inr (Or.inl ⟨(mc1.word (j := 15) (by decide)).mp hw15, ha, hQ.1.2, hQ.2, rfl, by rw [hzz.2 (by decide)]⟩)), mc, ym⟩ | exact Or.inl ⟨by omega, _, _, Or.inr (Or.inr (Or.inr ⟨(mc1.word (j := 14) (by decide)).mp hw14, ha, rfl, by rw [hzz.1 rfl]⟩)), mc, ym⟩ | exact Or.inr ⟨by omega, fun S1 i1 q => by rcases q with ⟨q1, -, q3⟩ | ⟨q1, -, q3⟩ | ⟨q1, -, q3⟩ | ⟨q1, -, -⟩ <;> first | exact HD.no hd (by omega) ⟨⟨trivial, q3.1⟩, q3.2.1⟩ | exact HD.no hd (by omega) trivial | exact absurd (okW_j ((mc1.word (j := 6) (by decide)).mp hw6) q1 (by decide) (by decide)) (by decide) | exact absurd (okW_j ((mc1.word (j := 12) (by decide)).mp hw12) q1 (by decide) (by decide)) (by decide) | exact absurd (okW_j ((mc1.word (j := 15) (by decide)).mp hw15) q1 (by decide) (by decide)) (by decide) | exact absurd (okW_j ((mc1.word (j := 14) (by decide)).mp hw14) q1 (by decide) (by decide)) (by decide)⟩
              exact ret H166 locs166 _ _ dX12_readArticle_179 ⟨hKp166, ⟨by omega, by omega, by omega, by omega, hpost⟩⟩ hC166 hS166
          · have hw13 := hw
            refine lv_goto (tgt := 122) hx hb dX12_readArticle_115 rfl ?_
            refine q_goV (q_runV (As := [.int 0]) (rest := []) E hC140 hS148 (m_X12_must l X Γ H140 hC140 h0 g0 0 (a1 := 0) (by decide) ca gca uc tq ((kp_R hKp140 g0 (ci := 11) (k := 7) rfl (by decide) rfl).trans htq) gtq (by omega) (by omega)) cw_X12_must cl_RX12_244 g0 ⟨rfl, rfl⟩ rfl hl.1 rfl (Nat.zero_le _) (by decide) dX12_readArticle_122) hS148 (fun H174 locs174 hr174 hC174 hS174 => ?_)
            obtain ⟨hp174, hr174⟩ := hr174
            have hKp174 := hKp140.tr (hp174.mono rfl)
            obtain ⟨f174_0, f174_1, f174_2, f174_3, f174_4, f174_5⟩ := hr174
            have hd := HD.must hd hp174 g0 gca (by first | exact hbz | exact Or.inl ⟨rfl, hw⟩ | exact Or.inr ⟨rfl, hw⟩) f174_5 f174_2 (by omega) rfl rfl (by decide)
            refine lv_aload_n hx hb dX12_readArticle_125 rfl (lv_at hl 1 rfl) ?_
            refine q_getC E hC174 g0 fa_RX12_35 uc dX12_readArticle_126 ?_
            refine lv_sipush (v := 2102) hx hb dX12_readArticle_129 rfl ?_
            refine lv_iload_n hx hb dX12_readArticle_132 rfl (lv_at hl 0 rfl) ?_
            refine lv_iadd hx hb dX12_readArticle_133 (lv_topi (fun v175 ev175 => ?_))
            have ev175i : v175.toInt = (2102 + 1) := i_add ev175 (by decide) (by decide) (by omega) (by omega)
            refine lv_aload_n hx hb dX12_readArticle_134 rfl (lv_at hl 1 rfl) ?_
            refine lv_iconst (v := 0) hx hb dX12_readArticle_135 rfl ?_
            refine lv_iload_n hx hb dX12_readArticle_136 rfl (lv_at hl 0 rfl) ?_
            refine q_if_ne hx hb (a := 1) (by decide) (tgt := 145) dX12_readArticle_137 rfl (fun c176 => ?_) (fun c176 => absurd c176 (by omega))
            refine lv_iload_n hx hb dX12_readArticle_145 rfl (lv_at hl 0 rfl) ?_
            refine lv_iconst (v := 1) hx hb dX12_readArticle_146 rfl ?_
            refine q_icmp_ne hx hb (a := 1) (b := 1) (by decide) (by decide) (tgt := 155) dX12_readArticle_147 rfl (fun c177 => absurd c177 (by omega)) (fun c177 => ?_)
            refine lv_bipush (v := 40) hx hb dX12_readArticle_150 rfl ?_
            refine lv_goto (tgt := 157) hx hb dX12_readArticle_152 rfl ?_
            refine q_goI (q_runV (As := [.int 0, .int 40]) (rest := [.int v175, .ref ca]) E hC174 hS174 (m_X12_count l X Γ H174 hC174 h0 g0 0 (a1 := 0) (by decide) 40 (a2 := 40) (by decide) ca gca uc tq ((kp_R hKp174 g0 (ci := 11) (k := 7) rfl (by decide) rfl).trans htq) gtq (by omega) (by omega) (by omega) (by omega)) cw_X12_count cl_RX12_248 g0 ⟨rfl, rfl⟩ rfl hl.1 rfl (show _ ≤ _ from by simp [Value.category]) (by decide) dX12_readArticle_157) hS174 (fun v178 H178 locs178 hr178 hC178 hS178 => ?_)
            obtain ⟨hp178, hr178⟩ := hr178
            have hKp178 := hKp174.tr (hp178.mono rfl)
            obtain ⟨f178_0, f178_1, f178_2, f178_3, f178_4, f178_5, f178_6, f178_7, f178_8⟩ := hr178
            have hdc := HD.count hd hp178 g0 gca f178_8 f178_2 (by omega) rfl rfl
            have hd := hdc.1
            have hcv9 := hdc.2
            refine q_cast E hC178 hS178 gca (a := (2102 + 1)) ev175i (by omega) (by omega) (cs_n16 (a := (2102 + 1)) (by omega) (by omega)) dX12_readArticle_160 (fun H179 locs179 hC179 hS179 U179 => ?_)
            have hKp179 := Kp.upD gca rfl rfl (fun _ => ⟨fun _ => nd4 (by omega) (by omega), fun _ => by unfold dpu; omega, fun _ => by unfold dpn; omega⟩) U179 hKp178
            have m180 : (sI H179 h0 (X.1.2 11 12)).toInt = (sI H178 h0 (X.1.2 11 12)).toInt := congrArg Int32.toInt (up_nI U179 (ne_k g0 gca (by decide)))
            have m181 : (sI H179 h0 (X.1.2 11 14)).toInt = (sI H178 h0 (X.1.2 11 14)).toInt := congrArg Int32.toInt (up_nI U179 (ne_k g0 gca (by decide)))
            have m182 := congrArg tk m181
            have m183 : (sI H179 h0 (X.1.2 11 16)).toInt = (sI H178 h0 (X.1.2 11 16)).toInt := congrArg Int32.toInt (up_nI U179 (ne_k g0 gca (by decide)))
            have m184 : (sI H179 h0 (X.1.2 11 18)).toInt = (sI H178 h0 (X.1.2 11 18)).toInt := congrArg Int32.toInt (up_nI U179 (ne_k g0 gca (by decide)))
            have m185 : (sI H179 h0 (X.1.2 11 17)).toInt = (sI H178 h0 (X.1.2 11 17)).toInt := congrArg Int32.toInt (up_nI U179 (ne_k g0 gca (by decide)))
            have hd := HD.map hd (congrArg Int32.toInt (up_nI U179 (ne_k g0 gca (by decide)))) (fun hb0 mc ym => ⟨mc.ne U179 g0 gtq gca (by decide), ym.lim U179 g0 gca (w := 1) (by omega) (by omega) (by first | exact ha | (exfalso; omega))⟩)
            have hlv9 : (sI H179 ca (2102 + 1 : Int).toNat).toInt = v178.toInt := by rw [show (2102 + 1 : Int).toNat = ((2102 + 1) : Int).toNat by omega]; exact (congrArg Int32.toInt (up_I U179)).trans rfl
            have e186 := up_I U179
            refine lv_aload_n hx hb dX12_readArticle_161 rfl (lv_at hl 1 rfl) ?_
            refine q_getI E hC179 g0 fa_RX12_218 dX12_readArticle_162 (fun v187 ev187 lv187 uv187 => ?_)
            have m188 : (sI H179 h0 (X.1.2 11 12)).toInt = v187.toInt := (congrArg Int32.toInt ev187).trans rfl
            refine q_if_ne hx hb (a := v187.toInt) rfl (tgt := 179) dX12_readArticle_165 rfl (fun c189 => ?_) (fun c189 => ?_)
            · have hz8 := tk_nn (sI H179 h0 (X.1.2 11 14)).toInt
              have hpost : ((sI H179 h0 (X.1.2 11 12)).toInt = 0 ∧ ∃ (S1 : YSt) (i1 : Nat), gArt kd vl S (i + 1) S1 i1 ∧ MC X H179 h0 tq kd vl w3 pos N i1 ∧ YSM X Γ H179 h0 ca kd vl w3 N S1) ∨ ((sI H179 h0 (X.1.2 11 12)).toInt ≠ 0 ∧ ∀ (S1 : YSt) (i1 : Nat), ¬ gArt kd vl S (i + 1) S1 i1) := by first | (exfalso; omega) | exact Or.inr ⟨by omega, hno⟩ | exact Or.inl ⟨by omega, _, _, Or.inl ⟨(mc1.word (j := 6) (by decide)).mp hw6, ha, hQ.1.2, hQ.2, rfl, by rw [hzz.2 (by decide)]⟩, mc, ym⟩ | exact Or.inl ⟨by omega, _, _, Or.inr (Or.inl ⟨(mc1.word (j := 12) (by decide)).mp hw12, ha, hQ.1.2, hQ.2, rfl, by rw [hzz.2 (by decide)]⟩), mc, ym⟩ | exact Or.inl ⟨by omega, _, _, Or.inr (Or.inr (Or.inl ⟨(mc1.word (j := 15) (by decide)).mp hw15, ha, hQ.1.2, hQ.2, rfl, by rw [hzz.2 (by decide)]⟩)), mc, ym⟩ | exact Or.inl ⟨by omega, _, _, Or.inr (Or.inr (Or.inr ⟨(mc1.word (j := 14) (by decide)).mp hw14, ha, rfl, by rw [hzz.1 rfl]⟩)), mc, ym⟩ | exact Or.inr ⟨by omega, fun S1 i1 q => by rcases q with ⟨q1, -, q3⟩ | ⟨q1, -, q3⟩ | ⟨q1, -, q3⟩ | ⟨q1, -, -⟩ <;> first | exact HD.no hd (by omega) ⟨⟨trivial, q3.1⟩, q3.2.1⟩ | exact HD.no hd (by omega) trivial | exact absurd (okW_j ((mc1.word (j := 6) (by decide)).mp hw6) q1 (by decide) (by decide)) (by decide) | exact absurd (okW_j ((mc1.word (j := 12) (by decide)).mp hw12) q1 (by decide) (by decide)) (by decide) | exact absurd (okW_j ((mc1.word (j := 15) (by decide)).mp hw15) q1 (by decide) (by decide)) (by decide) | exact absurd (okW_j ((mc1.word (j := 14) (by decide)).mp hw14) q1 (by decide) (by decide)) (by decide)⟩
              exact ret H179 locs179 _ _ dX12_readArticle_179 ⟨hKp179, ⟨by omega, by omega, by omega, by omega, hpost⟩⟩ hC179 hS179
            · obtain ⟨hQ, mc, ym⟩ := HD.live hd (by omega)
              have mc := mc
              have ym := ym
              obtain ⟨zz, hzz⟩ : ∃ z : Int, ((1 : Int) = 2 → z = 0) ∧ ((1 : Int) ≠ 2 → z = vl (i + 1 + 2)) := by first | exact ⟨0, fun _ => rfl, fun q => absurd rfl q⟩ | exact ⟨_, fun q => absurd q (by decide), fun _ => rfl⟩
              have hq9 : 0 ≤ zz := by first | (have := hzz.1 rfl; omega) | (have q1 := hzz.2 (by decide); have q2 : 0 ≤ vl (i + 1 + 2) := hQ.2.2.1; omega) | (exfalso; omega)
              have hlz9 : (sI H179 ca (2102 + 1 : Int).toNat).toInt = zz := by first | (rw [hzz.2 (by decide)]; exact hlv9.trans (hcv9 (by omega))) | (rw [hzz.1 rfl]; exact ym.2.2.2.2.2.2.1) | (exfalso; omega)
              refine lv_aload_n hx hb dX12_readArticle_168 rfl (lv_at hl 1 rfl) ?_
              refine q_getC E hC179 g0 fa_RX12_35 uc dX12_readArticle_169 ?_
              refine lv_sipush (v := 2098) hx hb dX12_readArticle_172 rfl ?_
              refine lv_iload_n hx hb dX12_readArticle_175 rfl (lv_at hl 0 rfl) ?_
              refine lv_iadd hx hb dX12_readArticle_176 (lv_topi (fun v190 ev190 => ?_))
              have ev190i : v190.toInt = (2098 + 1) := i_add ev190 (by decide) (by decide) (by omega) (by omega)
              refine lv_iconst (v := 1) hx hb dX12_readArticle_177 rfl ?_
              refine q_cast E hC179 hS179 gca (a := (2098 + 1)) ev190i (by omega) (by omega) (cs_n16 (a := (2098 + 1)) (by omega) (by omega)) dX12_readArticle_178 (fun H191 locs191 hC191 hS191 U191 => ?_)
              have hKp191 := Kp.upD gca rfl rfl (fun _ => ⟨fun _ => nd4 (by omega) (by omega), fun _ => by unfold dpu; omega, fun _ => by unfold dpn; omega⟩) U191 hKp179
              have mc := mc.ne U191 g0 gtq gca (by decide)
              have m192 : (sI H191 h0 (X.1.2 11 12)).toInt = (sI H179 h0 (X.1.2 11 12)).toInt := congrArg Int32.toInt (up_nI U191 (ne_k g0 gca (by decide)))
              have m193 : (sI H191 h0 (X.1.2 11 14)).toInt = (sI H179 h0 (X.1.2 11 14)).toInt := congrArg Int32.toInt (up_nI U191 (ne_k g0 gca (by decide)))
              have m194 := congrArg tk m193
              have m195 : (sI H191 h0 (X.1.2 11 16)).toInt = (sI H179 h0 (X.1.2 11 16)).toInt := congrArg Int32.toInt (up_nI U191 (ne_k g0 gca (by decide)))
              have m196 : (sI H191 h0 (X.1.2 11 18)).toInt = (sI H179 h0 (X.1.2 11 18)).toInt := congrArg Int32.toInt (up_nI U191 (ne_k g0 gca (by decide)))
              have m197 : (sI H191 h0 (X.1.2 11 17)).toInt = (sI H179 h0 (X.1.2 11 17)).toInt := congrArg Int32.toInt (up_nI U191 (ne_k g0 gca (by decide)))
              have ym := ym.art U191 g0 gca (w := 1) (z := zz) (by omega) (by omega) (by decide) hq9 hlz9
              have e198 := up_I U191
              have hz8 := tk_nn (sI H191 h0 (X.1.2 11 14)).toInt
              have hpost : ((sI H191 h0 (X.1.2 11 12)).toInt = 0 ∧ ∃ (S1 : YSt) (i1 : Nat), gArt kd vl S (i + 1) S1 i1 ∧ MC X H191 h0 tq kd vl w3 pos N i1 ∧ YSM X Γ H191 h0 ca kd vl w3 N S1) ∨ ((sI H191 h0 (X.1.2 11 12)).toInt ≠ 0 ∧ ∀ (S1 : YSt) (i1 : Nat), ¬ gArt kd vl S (i + 1) S1 i1) := by first | (exfalso; omega) | exact Or.inr ⟨by omega, hno⟩ | exact Or.inl ⟨by omega, _, _, Or.inl ⟨(mc1.word (j := 6) (by decide)).mp hw6, ha, hQ.1.2, hQ.2, rfl, by rw [hzz.2 (by decide)]⟩, mc, ym⟩ | exact Or.inl ⟨by omega, _, _, Or.inr (Or.inl ⟨(mc1.word (j := 12) (by decide)).mp hw12, ha, hQ.1.2, hQ.2, rfl, by rw [hzz.2 (by decide)]⟩), mc, ym⟩ | exact Or.inl ⟨by omega, _, _, Or.inr (Or.inr (Or.inl ⟨(mc1.word (j := 15) (by decide)).mp hw15, ha, hQ.1.2, hQ.2, rfl, by rw [hzz.2 (by decide)]⟩)), mc, ym⟩ | exact Or.inl ⟨by omega, _, _, Or.inr (Or.inr (Or.inr ⟨(mc1.word (j := 14) (by decide)).mp hw14, ha, rfl, by rw [hzz.1 rfl]⟩)), mc, ym⟩ | exact Or.inr ⟨by omega, fun S1 i1 q => by rcases q with ⟨q1, -, q3⟩ | ⟨q1, -, q3⟩ | ⟨q1, -, q3⟩ | ⟨q1, -, -⟩ <;> first | exact HD.no hd (by omega) ⟨⟨trivial, q3.1⟩, q3.2.1⟩ | exact HD.no hd (by omega) trivial | exact absurd (okW_j ((mc1.word (j := 6) (by decide)).mp hw6) q1 (by decide) (by decide)) (by decide) | exact absurd (okW_j ((mc1.word (j := 12) (by decide)).mp hw12) q1 (by decide) (by decide)) (by decide) | exact absurd (okW_j ((mc1.word (j := 15) (by decide)).mp hw15) q1 (by decide) (by decide)) (by decide) | exact absurd (okW_j ((mc1.word (j := 14) (by decide)).mp hw14) q1 (by decide) (by decide)) (by decide)⟩
              exact ret H191 locs191 _ _ dX12_readArticle_179 ⟨hKp191, ⟨by omega, by omega, by omega, by omega, hpost⟩⟩ hC191 hS191
      · refine lv_aload_n hx hb dX12_readArticle_65 rfl (lv_at hl 1 rfl) ?_
        refine q_getC E hC21 g0 fa_RX12_35 uc dX12_readArticle_66 ?_
        refine lv_sipush (v := 2098) hx hb dX12_readArticle_69 rfl ?_
        refine lv_iload_n hx hb dX12_readArticle_72 rfl (lv_at hl 0 rfl) ?_
        refine lv_iadd hx hb dX12_readArticle_73 (lv_topi (fun v199 ev199 => ?_))
        have ev199i : v199.toInt = (2098 + 1) := i_add ev199 (by decide) (by decide) (by omega) (by omega)
        refine q_cald E hC21 (lo := -2147483648) (hi := 2147483647) gca (a := (2098 + 1)) ev199i (by omega) (by omega) (cr_n16 (by omega) (by omega)) dX12_readArticle_74 (fun v200 ev200 _ _ => ?_)
        have m201 : (sI H21 ca ((2098 + 1) : Int).toNat).toInt = v200.toInt := congrArg Int32.toInt ev200
        have hta := ym.article (z := (2098 + 1)) (w := 1) (by omega) (by omega)
        refine lv_iconst (v := 1) hx hb dX12_readArticle_75 rfl ?_
        refine q_icmp_ne hx hb (a := v200.toInt) (b := 1) rfl (by decide) (tgt := 88) dX12_readArticle_76 rfl (fun c202 => ?_) (fun c202 => ?_)
        · have mc1 := mc
          have ha : S.2.2.2.2.2 (1) = -1 := by first | (exfalso; omega) | (by_cases e : S.2.2.2.2.2 (1) = -1; exact e; exfalso; rw [if_neg e] at hta; omega)
          have hk2 : kd (i + 1) ≠ 0 := by first | (have := ((mc1.word (j := 6) (by decide)).mp hw6).1; omega) | (have := ((mc1.word (j := 12) (by decide)).mp hw12).1; omega) | (have := ((mc1.word (j := 14) (by decide)).mp hw14).1; omega) | (have := ((mc1.word (j := 15) (by decide)).mp hw15).1; omega)
          have hd := HD.of (by omega) mc ym
          refine lv_aload_n hx hb dX12_readArticle_88 rfl (lv_at hl 1 rfl) ?_
          refine lv_iconst (v := 1) hx hb dX12_readArticle_89 rfl ?_
          refine q_goV (q_runV (As := [.int 1]) (rest := []) E hC21 hS134 (m_X12_must l X Γ H21 hC21 h0 g0 1 (a1 := 1) (by decide) ca gca uc tq ((kp_R hKp21 g0 (ci := 11) (k := 7) rfl (by decide) rfl).trans htq) gtq (by omega) (by omega)) cw_X12_must cl_RX12_244 g0 ⟨rfl, rfl⟩ rfl hl.1 rfl (Nat.zero_le _) (by decide) dX12_readArticle_90) hS134 (fun H203 locs203 hr203 hC203 hS203 => ?_)
          obtain ⟨hp203, hr203⟩ := hr203
          have hKp203 := hKp21.tr (hp203.mono rfl)
          obtain ⟨f203_0, f203_1, f203_2, f203_3, f203_4, f203_5⟩ := hr203
          have hd := HD.go hd hp203 g0 gca (by first | exact fun q => q.elim | exact fun _ => hk2) f203_5 f203_2 (by omega) rfl rfl
          refine lv_aload_n hx hb dX12_readArticle_93 rfl (lv_at hl 1 rfl) ?_
          refine q_getI E hC203 g0 fa_RX12_218 dX12_readArticle_94 (fun v204 ev204 lv204 uv204 => ?_)
          have m205 : (sI H203 h0 (X.1.2 11 12)).toInt = v204.toInt := (congrArg Int32.toInt ev204).trans rfl
          refine q_if_ne hx hb (a := v204.toInt) rfl (tgt := 161) dX12_readArticle_97 rfl (fun c206 => ?_) (fun c206 => ?_)
          · refine lv_aload_n hx hb dX12_readArticle_161 rfl (lv_at hl 1 rfl) ?_
            refine q_getI E hC203 g0 fa_RX12_218 dX12_readArticle_162 (fun v207 ev207 lv207 uv207 => ?_)
            have qv207 := ev204.symm.trans ev207; subst qv207
            refine q_if_ne hx hb (a := v204.toInt) rfl (tgt := 179) dX12_readArticle_165 rfl (fun c208 => ?_) (fun c208 => absurd c208 (by omega))
            have hz8 := tk_nn (sI H203 h0 (X.1.2 11 14)).toInt
            have hpost : ((sI H203 h0 (X.1.2 11 12)).toInt = 0 ∧ ∃ (S1 : YSt) (i1 : Nat), gArt kd vl S (i + 1) S1 i1 ∧ MC X H203 h0 tq kd vl w3 pos N i1 ∧ YSM X Γ H203 h0 ca kd vl w3 N S1) ∨ ((sI H203 h0 (X.1.2 11 12)).toInt ≠ 0 ∧ ∀ (S1 : YSt) (i1 : Nat), ¬ gArt kd vl S (i + 1) S1 i1) := by first | (exfalso; omega) | exact Or.inr ⟨by omega, hno⟩ | exact Or.inl ⟨by omega, _, _, Or.inl ⟨(mc1.word (j := 6) (by decide)).mp hw6, ha, hQ.1.2, hQ.2, rfl, by rw [hzz.2 (by decide)]⟩, mc, ym⟩ | exact Or.inl ⟨by omega, _, _, Or.inr (Or.inl ⟨(mc1.word (j := 12) (by decide)).mp hw12, ha, hQ.1.2, hQ.2, rfl, by rw [hzz.2 (by decide)]⟩), mc, ym⟩ | exact Or.inl ⟨by omega, _, _, Or.inr (Or.inr (Or.inl ⟨(mc1.word (j := 15) (by decide)).mp hw15, ha, hQ.1.2, hQ.2, rfl, by rw [hzz.2 (by decide)]⟩)), mc, ym⟩ | exact Or.inl ⟨by omega, _, _, Or.inr (Or.inr (Or.inr ⟨(mc1.word (j := 14) (by decide)).mp hw14, ha, rfl, by rw [hzz.1 rfl]⟩)), mc, ym⟩ | exact Or.inr ⟨by omega, fun S1 i1 q => by rcases q with ⟨q1, -, q3⟩ | ⟨q1, -, q3⟩ | ⟨q1, -, q3⟩ | ⟨q1, -, -⟩ <;> first | exact HD.no hd (by omega) ⟨⟨trivial, q3.1⟩, q3.2.1⟩ | exact HD.no hd (by omega) trivial | exact absurd (okW_j ((mc1.word (j := 6) (by decide)).mp hw6) q1 (by decide) (by decide)) (by decide) | exact absurd (okW_j ((mc1.word (j := 12) (by decide)).mp hw12) q1 (by decide) (by decide)) (by decide) | exact absurd (okW_j ((mc1.word (j := 15) (by decide)).mp hw15) q1 (by decide) (by decide)) (by decide) | exact absurd (okW_j ((mc1.word (j := 14) (by decide)).mp hw14) q1 (by decide) (by decide)) (by decide)⟩
            exact ret H203 locs203 _ _ dX12_readArticle_179 ⟨hKp203, ⟨by omega, by omega, by omega, by omega, hpost⟩⟩ hC203 hS203
          · refine lv_iload_n hx hb dX12_readArticle_100 rfl (lv_at hl 0 rfl) ?_
            refine lv_iconst (v := 2) hx hb dX12_readArticle_101 rfl ?_
            refine q_icmp_eq hx hb (a := 1) (b := 2) (by decide) (by decide) (tgt := 161) dX12_readArticle_102 rfl (fun c209 => absurd c209 (by omega)) (fun c209 => ?_)
            refine lv_aload_n hx hb dX12_readArticle_105 rfl (lv_at hl 1 rfl) ?_
            refine lv_iload_n hx hb dX12_readArticle_106 rfl (lv_at hl 0 rfl) ?_
            refine lv_iconst (v := 1) hx hb dX12_readArticle_107 rfl ?_
            refine q_icmp_ne hx hb (a := 1) (b := 1) (by decide) (by decide) (tgt := 118) dX12_readArticle_108 rfl (fun c210 => absurd c210 (by omega)) (fun c210 => ?_)
            refine lv_aload_n hx hb dX12_readArticle_111 rfl (lv_at hl 1 rfl) ?_
            refine q_goIp (q_runV (As := []) (rest := [.ref h0]) E hC203 hS203 (m_X12_isBehind l X Γ H203 hC203 h0 g0 ca gca uc) cw_X12_isBehind cl_RX12_199 g0 ⟨rfl, rfl⟩ rfl hl.1 rfl (show _ ≤ _ from by simp [Value.category]) (by decide) dX12_readArticle_112) hS203 (fun v211 locs211 hr211 hS211 => ?_)
            rcases hr211 with ⟨rfl, hw⟩ | ⟨rfl, hw⟩
            · have hw13 := hw
              refine lv_goto (tgt := 122) hx hb dX12_readArticle_115 rfl ?_
              refine q_goV (q_runV (As := [.int 1]) (rest := []) E hC203 hS211 (m_X12_must l X Γ H203 hC203 h0 g0 1 (a1 := 1) (by decide) ca gca uc tq ((kp_R hKp203 g0 (ci := 11) (k := 7) rfl (by decide) rfl).trans htq) gtq (by omega) (by omega)) cw_X12_must cl_RX12_244 g0 ⟨rfl, rfl⟩ rfl hl.1 rfl (Nat.zero_le _) (by decide) dX12_readArticle_122) hS211 (fun H212 locs212 hr212 hC212 hS212 => ?_)
              obtain ⟨hp212, hr212⟩ := hr212
              have hKp212 := hKp203.tr (hp212.mono rfl)
              obtain ⟨f212_0, f212_1, f212_2, f212_3, f212_4, f212_5⟩ := hr212
              have hd := HD.must hd hp212 g0 gca (by first | exact hbz | exact Or.inl ⟨rfl, hw⟩ | exact Or.inr ⟨rfl, hw⟩) f212_5 f212_2 (by omega) rfl rfl (by decide)
              refine lv_aload_n hx hb dX12_readArticle_125 rfl (lv_at hl 1 rfl) ?_
              refine q_getC E hC212 g0 fa_RX12_35 uc dX12_readArticle_126 ?_
              refine lv_sipush (v := 2102) hx hb dX12_readArticle_129 rfl ?_
              refine lv_iload_n hx hb dX12_readArticle_132 rfl (lv_at hl 0 rfl) ?_
              refine lv_iadd hx hb dX12_readArticle_133 (lv_topi (fun v213 ev213 => ?_))
              have ev213i : v213.toInt = (2102 + 1) := i_add ev213 (by decide) (by decide) (by omega) (by omega)
              refine lv_aload_n hx hb dX12_readArticle_134 rfl (lv_at hl 1 rfl) ?_
              refine lv_iconst (v := 0) hx hb dX12_readArticle_135 rfl ?_
              refine lv_iload_n hx hb dX12_readArticle_136 rfl (lv_at hl 0 rfl) ?_
              refine q_if_ne hx hb (a := 1) (by decide) (tgt := 145) dX12_readArticle_137 rfl (fun c214 => ?_) (fun c214 => absurd c214 (by omega))
              refine lv_iload_n hx hb dX12_readArticle_145 rfl (lv_at hl 0 rfl) ?_
              refine lv_iconst (v := 1) hx hb dX12_readArticle_146 rfl ?_
              refine q_icmp_ne hx hb (a := 1) (b := 1) (by decide) (by decide) (tgt := 155) dX12_readArticle_147 rfl (fun c215 => absurd c215 (by omega)) (fun c215 => ?_)
              refine lv_bipush (v := 40) hx hb dX12_readArticle_150 rfl ?_
              refine lv_goto (tgt := 157) hx hb dX12_readArticle_152 rfl ?_
              refine q_goI (q_runV (As := [.int 0, .int 40]) (rest := [.int v213, .ref ca]) E hC212 hS212 (m_X12_count l X Γ H212 hC212 h0 g0 0 (a1 := 0) (by decide) 40 (a2 := 40) (by decide) ca gca uc tq ((kp_R hKp212 g0 (ci := 11) (k := 7) rfl (by decide) rfl).trans htq) gtq (by omega) (by omega) (by omega) (by omega)) cw_X12_count cl_RX12_248 g0 ⟨rfl, rfl⟩ rfl hl.1 rfl (show _ ≤ _ from by simp [Value.category]) (by decide) dX12_readArticle_157) hS212 (fun v216 H216 locs216 hr216 hC216 hS216 => ?_)
              obtain ⟨hp216, hr216⟩ := hr216
              have hKp216 := hKp212.tr (hp216.mono rfl)
              obtain ⟨f216_0, f216_1, f216_2, f216_3, f216_4, f216_5, f216_6, f216_7, f216_8⟩ := hr216
              have hdc := HD.count hd hp216 g0 gca f216_8 f216_2 (by omega) rfl rfl
              have hd := hdc.1
              have hcv9 := hdc.2
              refine q_cast E hC216 hS216 gca (a := (2102 + 1)) ev213i (by omega) (by omega) (cs_n16 (a := (2102 + 1)) (by omega) (by omega)) dX12_readArticle_160 (fun H217 locs217 hC217 hS217 U217 => ?_)
              have hKp217 := Kp.upD gca rfl rfl (fun _ => ⟨fun _ => nd4 (by omega) (by omega), fun _ => by unfold dpu; omega, fun _ => by unfold dpn; omega⟩) U217 hKp216
              have m218 : (sI H217 h0 (X.1.2 11 12)).toInt = (sI H216 h0 (X.1.2 11 12)).toInt := congrArg Int32.toInt (up_nI U217 (ne_k g0 gca (by decide)))
              have m219 : (sI H217 h0 (X.1.2 11 14)).toInt = (sI H216 h0 (X.1.2 11 14)).toInt := congrArg Int32.toInt (up_nI U217 (ne_k g0 gca (by decide)))
              have m220 := congrArg tk m219
              have m221 : (sI H217 h0 (X.1.2 11 16)).toInt = (sI H216 h0 (X.1.2 11 16)).toInt := congrArg Int32.toInt (up_nI U217 (ne_k g0 gca (by decide)))
              have m222 : (sI H217 h0 (X.1.2 11 18)).toInt = (sI H216 h0 (X.1.2 11 18)).toInt := congrArg Int32.toInt (up_nI U217 (ne_k g0 gca (by decide)))
              have m223 : (sI H217 h0 (X.1.2 11 17)).toInt = (sI H216 h0 (X.1.2 11 17)).toInt := congrArg Int32.toInt (up_nI U217 (ne_k g0 gca (by decide)))
              have hd := HD.map hd (congrArg Int32.toInt (up_nI U217 (ne_k g0 gca (by decide)))) (fun hb0 mc ym => ⟨mc.ne U217 g0 gtq gca (by decide), ym.lim U217 g0 gca (w := 1) (by omega) (by omega) (by first | exact ha | (exfalso; omega))⟩)
              have hlv9 : (sI H217 ca (2102 + 1 : Int).toNat).toInt = v216.toInt := by rw [show (2102 + 1 : Int).toNat = ((2102 + 1) : Int).toNat by omega]; exact (congrArg Int32.toInt (up_I U217)).trans rfl
              have e224 := up_I U217
              refine lv_aload_n hx hb dX12_readArticle_161 rfl (lv_at hl 1 rfl) ?_
              refine q_getI E hC217 g0 fa_RX12_218 dX12_readArticle_162 (fun v225 ev225 lv225 uv225 => ?_)
              have m226 : (sI H217 h0 (X.1.2 11 12)).toInt = v225.toInt := (congrArg Int32.toInt ev225).trans rfl
              refine q_if_ne hx hb (a := v225.toInt) rfl (tgt := 179) dX12_readArticle_165 rfl (fun c227 => ?_) (fun c227 => ?_)
              · have hz8 := tk_nn (sI H217 h0 (X.1.2 11 14)).toInt
                have hpost : ((sI H217 h0 (X.1.2 11 12)).toInt = 0 ∧ ∃ (S1 : YSt) (i1 : Nat), gArt kd vl S (i + 1) S1 i1 ∧ MC X H217 h0 tq kd vl w3 pos N i1 ∧ YSM X Γ H217 h0 ca kd vl w3 N S1) ∨ ((sI H217 h0 (X.1.2 11 12)).toInt ≠ 0 ∧ ∀ (S1 : YSt) (i1 : Nat), ¬ gArt kd vl S (i + 1) S1 i1) := by first | (exfalso; omega) | exact Or.inr ⟨by omega, hno⟩ | exact Or.inl ⟨by omega, _, _, Or.inl ⟨(mc1.word (j := 6) (by decide)).mp hw6, ha, hQ.1.2, hQ.2, rfl, by rw [hzz.2 (by decide)]⟩, mc, ym⟩ | exact Or.inl ⟨by omega, _, _, Or.inr (Or.inl ⟨(mc1.word (j := 12) (by decide)).mp hw12, ha, hQ.1.2, hQ.2, rfl, by rw [hzz.2 (by decide)]⟩), mc, ym⟩ | exact Or.inl ⟨by omega, _, _, Or.inr (Or.inr (Or.inl ⟨(mc1.word (j := 15) (by decide)).mp hw15, ha, hQ.1.2, hQ.2, rfl, by rw [hzz.2 (by decide)]⟩)), mc, ym⟩ | exact Or.inl ⟨by omega, _, _, Or.inr (Or.inr (Or.inr ⟨(mc1.word (j := 14) (by decide)).mp hw14, ha, rfl, by rw [hzz.1 rfl]⟩)), mc, ym⟩ | exact Or.inr ⟨by omega, fun S1 i1 q => by rcases q with ⟨q1, -, q3⟩ | ⟨q1, -, q3⟩ | ⟨q1, -, q3⟩ | ⟨q1, -, -⟩ <;> first | exact HD.no hd (by omega) ⟨⟨trivial, q3.1⟩, q3.2.1⟩ | exact HD.no hd (by omega) trivial | exact absurd (okW_j ((mc1.word (j := 6) (by decide)).mp hw6) q1 (by decide) (by decide)) (by decide) | exact absurd (okW_j ((mc1.word (j := 12) (by decide)).mp hw12) q1 (by decide) (by decide)) (by decide) | exact absurd (okW_j ((mc1.word (j := 15) (by decide)).mp hw15) q1 (by decide) (by decide)) (by decide) | exact absurd (okW_j ((mc1.word (j := 14) (by decide)).mp hw14) q1 (by decide) (by decide)) (by decide)⟩
                exact ret H217 locs217 _ _ dX12_readArticle_179 ⟨hKp217, ⟨by omega, by omega, by omega, by omega, hpost⟩⟩ hC217 hS217
              · obtain ⟨hQ, mc, ym⟩ := HD.live hd (by omega)
                have mc := mc
                have ym := ym
                obtain ⟨zz, hzz⟩ : ∃ z : Int, ((1 : Int) = 2 → z = 0) ∧ ((1 : Int) ≠ 2 → z = vl (i + 1 + 2)) := by first | exact ⟨0, fun _ => rfl, fun q => absurd rfl q⟩ | exact ⟨_, fun q => absurd q (by decide), fun _ => rfl⟩
                have hq9 : 0 ≤ zz := by first | (have := hzz.1 rfl; omega) | (have q1 := hzz.2 (by decide); have q2 : 0 ≤ vl (i + 1 + 2) := hQ.2.2.1; omega) | (exfalso; omega)
                have hlz9 : (sI H217 ca (2102 + 1 : Int).toNat).toInt = zz := by first | (rw [hzz.2 (by decide)]; exact hlv9.trans (hcv9 (by omega))) | (rw [hzz.1 rfl]; exact ym.2.2.2.2.2.2.1) | (exfalso; omega)
                refine lv_aload_n hx hb dX12_readArticle_168 rfl (lv_at hl 1 rfl) ?_
                refine q_getC E hC217 g0 fa_RX12_35 uc dX12_readArticle_169 ?_
                refine lv_sipush (v := 2098) hx hb dX12_readArticle_172 rfl ?_
                refine lv_iload_n hx hb dX12_readArticle_175 rfl (lv_at hl 0 rfl) ?_
                refine lv_iadd hx hb dX12_readArticle_176 (lv_topi (fun v228 ev228 => ?_))
                have ev228i : v228.toInt = (2098 + 1) := i_add ev228 (by decide) (by decide) (by omega) (by omega)
                refine lv_iconst (v := 1) hx hb dX12_readArticle_177 rfl ?_
                refine q_cast E hC217 hS217 gca (a := (2098 + 1)) ev228i (by omega) (by omega) (cs_n16 (a := (2098 + 1)) (by omega) (by omega)) dX12_readArticle_178 (fun H229 locs229 hC229 hS229 U229 => ?_)
                have hKp229 := Kp.upD gca rfl rfl (fun _ => ⟨fun _ => nd4 (by omega) (by omega), fun _ => by unfold dpu; omega, fun _ => by unfold dpn; omega⟩) U229 hKp217
                have mc := mc.ne U229 g0 gtq gca (by decide)
                have m230 : (sI H229 h0 (X.1.2 11 12)).toInt = (sI H217 h0 (X.1.2 11 12)).toInt := congrArg Int32.toInt (up_nI U229 (ne_k g0 gca (by decide)))
                have m231 : (sI H229 h0 (X.1.2 11 14)).toInt = (sI H217 h0 (X.1.2 11 14)).toInt := congrArg Int32.toInt (up_nI U229 (ne_k g0 gca (by decide)))
                have m232 := congrArg tk m231
                have m233 : (sI H229 h0 (X.1.2 11 16)).toInt = (sI H217 h0 (X.1.2 11 16)).toInt := congrArg Int32.toInt (up_nI U229 (ne_k g0 gca (by decide)))
                have m234 : (sI H229 h0 (X.1.2 11 18)).toInt = (sI H217 h0 (X.1.2 11 18)).toInt := congrArg Int32.toInt (up_nI U229 (ne_k g0 gca (by decide)))
                have m235 : (sI H229 h0 (X.1.2 11 17)).toInt = (sI H217 h0 (X.1.2 11 17)).toInt := congrArg Int32.toInt (up_nI U229 (ne_k g0 gca (by decide)))
                have ym := ym.art U229 g0 gca (w := 1) (z := zz) (by omega) (by omega) (by decide) hq9 hlz9
                have e236 := up_I U229
                have hz8 := tk_nn (sI H229 h0 (X.1.2 11 14)).toInt
                have hpost : ((sI H229 h0 (X.1.2 11 12)).toInt = 0 ∧ ∃ (S1 : YSt) (i1 : Nat), gArt kd vl S (i + 1) S1 i1 ∧ MC X H229 h0 tq kd vl w3 pos N i1 ∧ YSM X Γ H229 h0 ca kd vl w3 N S1) ∨ ((sI H229 h0 (X.1.2 11 12)).toInt ≠ 0 ∧ ∀ (S1 : YSt) (i1 : Nat), ¬ gArt kd vl S (i + 1) S1 i1) := by first | (exfalso; omega) | exact Or.inr ⟨by omega, hno⟩ | exact Or.inl ⟨by omega, _, _, Or.inl ⟨(mc1.word (j := 6) (by decide)).mp hw6, ha, hQ.1.2, hQ.2, rfl, by rw [hzz.2 (by decide)]⟩, mc, ym⟩ | exact Or.inl ⟨by omega, _, _, Or.inr (Or.inl ⟨(mc1.word (j := 12) (by decide)).mp hw12, ha, hQ.1.2, hQ.2, rfl, by rw [hzz.2 (by decide)]⟩), mc, ym⟩ | exact Or.inl ⟨by omega, _, _, Or.inr (Or.inr (Or.inl ⟨(mc1.word (j := 15) (by decide)).mp hw15, ha, hQ.1.2, hQ.2, rfl, by rw [hzz.2 (by decide)]⟩)), mc, ym⟩ | exact Or.inl ⟨by omega, _, _, Or.inr (Or.inr (Or.inr ⟨(mc1.word (j := 14) (by decide)).mp hw14, ha, rfl, by rw [hzz.1 rfl]⟩)), mc, ym⟩ | exact Or.inr ⟨by omega, fun S1 i1 q => by rcases q with ⟨q1, -, q3⟩ | ⟨q1, -, q3⟩ | ⟨q1, -, q3⟩ | ⟨q1, -, -⟩ <;> first | exact HD.no hd (by omega) ⟨⟨trivial, q3.1⟩, q3.2.1⟩ | exact HD.no hd (by omega) trivial | exact absurd (okW_j ((mc1.word (j := 6) (by decide)).mp hw6) q1 (by decide) (by decide)) (by decide) | exact absurd (okW_j ((mc1.word (j := 12) (by decide)).mp hw12) q1 (by decide) (by decide)) (by decide) | exact absurd (okW_j ((mc1.word (j := 15) (by decide)).mp hw15) q1 (by decide) (by decide)) (by decide) | exact absurd (okW_j ((mc1.word (j := 14) (by decide)).mp hw14) q1 (by decide) (by decide)) (by decide)⟩
                exact ret H229 locs229 _ _ dX12_readArticle_179 ⟨hKp229, ⟨by omega, by omega, by omega, by omega, hpost⟩⟩ hC229 hS229
            · have hw13 := hw
              refine lv_goto (tgt := 122) hx hb dX12_readArticle_115 rfl ?_
              refine q_goV (q_runV (As := [.int 0]) (rest := []) E hC203 hS211 (m_X12_must l X Γ H203 hC203 h0 g0 0 (a1 := 0) (by decide) ca gca uc tq ((kp_R hKp203 g0 (ci := 11) (k := 7) rfl (by decide) rfl).trans htq) gtq (by omega) (by omega)) cw_X12_must cl_RX12_244 g0 ⟨rfl, rfl⟩ rfl hl.1 rfl (Nat.zero_le _) (by decide) dX12_readArticle_122) hS211 (fun H237 locs237 hr237 hC237 hS237 => ?_)
              obtain ⟨hp237, hr237⟩ := hr237
              have hKp237 := hKp203.tr (hp237.mono rfl)
              obtain ⟨f237_0, f237_1, f237_2, f237_3, f237_4, f237_5⟩ := hr237
              have hd := HD.must hd hp237 g0 gca (by first | exact hbz | exact Or.inl ⟨rfl, hw⟩ | exact Or.inr ⟨rfl, hw⟩) f237_5 f237_2 (by omega) rfl rfl (by decide)
              refine lv_aload_n hx hb dX12_readArticle_125 rfl (lv_at hl 1 rfl) ?_
              refine q_getC E hC237 g0 fa_RX12_35 uc dX12_readArticle_126 ?_
              refine lv_sipush (v := 2102) hx hb dX12_readArticle_129 rfl ?_
              refine lv_iload_n hx hb dX12_readArticle_132 rfl (lv_at hl 0 rfl) ?_
              refine lv_iadd hx hb dX12_readArticle_133 (lv_topi (fun v238 ev238 => ?_))
              have ev238i : v238.toInt = (2102 + 1) := i_add ev238 (by decide) (by decide) (by omega) (by omega)
              refine lv_aload_n hx hb dX12_readArticle_134 rfl (lv_at hl 1 rfl) ?_
              refine lv_iconst (v := 0) hx hb dX12_readArticle_135 rfl ?_
              refine lv_iload_n hx hb dX12_readArticle_136 rfl (lv_at hl 0 rfl) ?_
              refine q_if_ne hx hb (a := 1) (by decide) (tgt := 145) dX12_readArticle_137 rfl (fun c239 => ?_) (fun c239 => absurd c239 (by omega))
              refine lv_iload_n hx hb dX12_readArticle_145 rfl (lv_at hl 0 rfl) ?_
              refine lv_iconst (v := 1) hx hb dX12_readArticle_146 rfl ?_
              refine q_icmp_ne hx hb (a := 1) (b := 1) (by decide) (by decide) (tgt := 155) dX12_readArticle_147 rfl (fun c240 => absurd c240 (by omega)) (fun c240 => ?_)
              refine lv_bipush (v := 40) hx hb dX12_readArticle_150 rfl ?_
              refine lv_goto (tgt := 157) hx hb dX12_readArticle_152 rfl ?_
              refine q_goI (q_runV (As := [.int 0, .int 40]) (rest := [.int v238, .ref ca]) E hC237 hS237 (m_X12_count l X Γ H237 hC237 h0 g0 0 (a1 := 0) (by decide) 40 (a2 := 40) (by decide) ca gca uc tq ((kp_R hKp237 g0 (ci := 11) (k := 7) rfl (by decide) rfl).trans htq) gtq (by omega) (by omega) (by omega) (by omega)) cw_X12_count cl_RX12_248 g0 ⟨rfl, rfl⟩ rfl hl.1 rfl (show _ ≤ _ from by simp [Value.category]) (by decide) dX12_readArticle_157) hS237 (fun v241 H241 locs241 hr241 hC241 hS241 => ?_)
              obtain ⟨hp241, hr241⟩ := hr241
              have hKp241 := hKp237.tr (hp241.mono rfl)
              obtain ⟨f241_0, f241_1, f241_2, f241_3, f241_4, f241_5, f241_6, f241_7, f241_8⟩ := hr241
              have hdc := HD.count hd hp241 g0 gca f241_8 f241_2 (by omega) rfl rfl
              have hd := hdc.1
              have hcv9 := hdc.2
              refine q_cast E hC241 hS241 gca (a := (2102 + 1)) ev238i (by omega) (by omega) (cs_n16 (a := (2102 + 1)) (by omega) (by omega)) dX12_readArticle_160 (fun H242 locs242 hC242 hS242 U242 => ?_)
              have hKp242 := Kp.upD gca rfl rfl (fun _ => ⟨fun _ => nd4 (by omega) (by omega), fun _ => by unfold dpu; omega, fun _ => by unfold dpn; omega⟩) U242 hKp241
              have m243 : (sI H242 h0 (X.1.2 11 12)).toInt = (sI H241 h0 (X.1.2 11 12)).toInt := congrArg Int32.toInt (up_nI U242 (ne_k g0 gca (by decide)))
              have m244 : (sI H242 h0 (X.1.2 11 14)).toInt = (sI H241 h0 (X.1.2 11 14)).toInt := congrArg Int32.toInt (up_nI U242 (ne_k g0 gca (by decide)))
              have m245 := congrArg tk m244
              have m246 : (sI H242 h0 (X.1.2 11 16)).toInt = (sI H241 h0 (X.1.2 11 16)).toInt := congrArg Int32.toInt (up_nI U242 (ne_k g0 gca (by decide)))
              have m247 : (sI H242 h0 (X.1.2 11 18)).toInt = (sI H241 h0 (X.1.2 11 18)).toInt := congrArg Int32.toInt (up_nI U242 (ne_k g0 gca (by decide)))
              have m248 : (sI H242 h0 (X.1.2 11 17)).toInt = (sI H241 h0 (X.1.2 11 17)).toInt := congrArg Int32.toInt (up_nI U242 (ne_k g0 gca (by decide)))
              have hd := HD.map hd (congrArg Int32.toInt (up_nI U242 (ne_k g0 gca (by decide)))) (fun hb0 mc ym => ⟨mc.ne U242 g0 gtq gca (by decide), ym.lim U242 g0 gca (w := 1) (by omega) (by omega) (by first | exact ha | (exfalso; omega))⟩)
              have hlv9 : (sI H242 ca (2102 + 1 : Int).toNat).toInt = v241.toInt := by rw [show (2102 + 1 : Int).toNat = ((2102 + 1) : Int).toNat by omega]; exact (congrArg Int32.toInt (up_I U242)).trans rfl
              have e249 := up_I U242
              refine lv_aload_n hx hb dX12_readArticle_161 rfl (lv_at hl 1 rfl) ?_
              refine q_getI E hC242 g0 fa_RX12_218 dX12_readArticle_162 (fun v250 ev250 lv250 uv250 => ?_)
              have m251 : (sI H242 h0 (X.1.2 11 12)).toInt = v250.toInt := (congrArg Int32.toInt ev250).trans rfl
              refine q_if_ne hx hb (a := v250.toInt) rfl (tgt := 179) dX12_readArticle_165 rfl (fun c252 => ?_) (fun c252 => ?_)
              · have hz8 := tk_nn (sI H242 h0 (X.1.2 11 14)).toInt
                have hpost : ((sI H242 h0 (X.1.2 11 12)).toInt = 0 ∧ ∃ (S1 : YSt) (i1 : Nat), gArt kd vl S (i + 1) S1 i1 ∧ MC X H242 h0 tq kd vl w3 pos N i1 ∧ YSM X Γ H242 h0 ca kd vl w3 N S1) ∨ ((sI H242 h0 (X.1.2 11 12)).toInt ≠ 0 ∧ ∀ (S1 : YSt) (i1 : Nat), ¬ gArt kd vl S (i + 1) S1 i1) := by first | (exfalso; omega) | exact Or.inr ⟨by omega, hno⟩ | exact Or.inl ⟨by omega, _, _, Or.inl ⟨(mc1.word (j := 6) (by decide)).mp hw6, ha, hQ.1.2, hQ.2, rfl, by rw [hzz.2 (by decide)]⟩, mc, ym⟩ | exact Or.inl ⟨by omega, _, _, Or.inr (Or.inl ⟨(mc1.word (j := 12) (by decide)).mp hw12, ha, hQ.1.2, hQ.2, rfl, by rw [hzz.2 (by decide)]⟩), mc, ym⟩ | exact Or.inl ⟨by omega, _, _, Or.inr (Or.inr (Or.inl ⟨(mc1.word (j := 15) (by decide)).mp hw15, ha, hQ.1.2, hQ.2, rfl, by rw [hzz.2 (by decide)]⟩)), mc, ym⟩ | exact Or.inl ⟨by omega, _, _, Or.inr (Or.inr (Or.inr ⟨(mc1.word (j := 14) (by decide)).mp hw14, ha, rfl, by rw [hzz.1 rfl]⟩)), mc, ym⟩ | exact Or.inr ⟨by omega, fun S1 i1 q => by rcases q with ⟨q1, -, q3⟩ | ⟨q1, -, q3⟩ | ⟨q1, -, q3⟩ | ⟨q1, -, -⟩ <;> first | exact HD.no hd (by omega) ⟨⟨trivial, q3.1⟩, q3.2.1⟩ | exact HD.no hd (by omega) trivial | exact absurd (okW_j ((mc1.word (j := 6) (by decide)).mp hw6) q1 (by decide) (by decide)) (by decide) | exact absurd (okW_j ((mc1.word (j := 12) (by decide)).mp hw12) q1 (by decide) (by decide)) (by decide) | exact absurd (okW_j ((mc1.word (j := 15) (by decide)).mp hw15) q1 (by decide) (by decide)) (by decide) | exact absurd (okW_j ((mc1.word (j := 14) (by decide)).mp hw14) q1 (by decide) (by decide)) (by decide)⟩
                exact ret H242 locs242 _ _ dX12_readArticle_179 ⟨hKp242, ⟨by omega, by omega, by omega, by omega, hpost⟩⟩ hC242 hS242
              · obtain ⟨hQ, mc, ym⟩ := HD.live hd (by omega)
                have mc := mc
                have ym := ym
                obtain ⟨zz, hzz⟩ : ∃ z : Int, ((1 : Int) = 2 → z = 0) ∧ ((1 : Int) ≠ 2 → z = vl (i + 1 + 2)) := by first | exact ⟨0, fun _ => rfl, fun q => absurd rfl q⟩ | exact ⟨_, fun q => absurd q (by decide), fun _ => rfl⟩
                have hq9 : 0 ≤ zz := by first | (have := hzz.1 rfl; omega) | (have q1 := hzz.2 (by decide); have q2 : 0 ≤ vl (i + 1 + 2) := hQ.2.2.1; omega) | (exfalso; omega)
                have hlz9 : (sI H242 ca (2102 + 1 : Int).toNat).toInt = zz := by first | (rw [hzz.2 (by decide)]; exact hlv9.trans (hcv9 (by omega))) | (rw [hzz.1 rfl]; exact ym.2.2.2.2.2.2.1) | (exfalso; omega)
                refine lv_aload_n hx hb dX12_readArticle_168 rfl (lv_at hl 1 rfl) ?_
                refine q_getC E hC242 g0 fa_RX12_35 uc dX12_readArticle_169 ?_
                refine lv_sipush (v := 2098) hx hb dX12_readArticle_172 rfl ?_
                refine lv_iload_n hx hb dX12_readArticle_175 rfl (lv_at hl 0 rfl) ?_
                refine lv_iadd hx hb dX12_readArticle_176 (lv_topi (fun v253 ev253 => ?_))
                have ev253i : v253.toInt = (2098 + 1) := i_add ev253 (by decide) (by decide) (by omega) (by omega)
                refine lv_iconst (v := 1) hx hb dX12_readArticle_177 rfl ?_
                refine q_cast E hC242 hS242 gca (a := (2098 + 1)) ev253i (by omega) (by omega) (cs_n16 (a := (2098 + 1)) (by omega) (by omega)) dX12_readArticle_178 (fun H254 locs254 hC254 hS254 U254 => ?_)
                have hKp254 := Kp.upD gca rfl rfl (fun _ => ⟨fun _ => nd4 (by omega) (by omega), fun _ => by unfold dpu; omega, fun _ => by unfold dpn; omega⟩) U254 hKp242
                have mc := mc.ne U254 g0 gtq gca (by decide)
                have m255 : (sI H254 h0 (X.1.2 11 12)).toInt = (sI H242 h0 (X.1.2 11 12)).toInt := congrArg Int32.toInt (up_nI U254 (ne_k g0 gca (by decide)))
                have m256 : (sI H254 h0 (X.1.2 11 14)).toInt = (sI H242 h0 (X.1.2 11 14)).toInt := congrArg Int32.toInt (up_nI U254 (ne_k g0 gca (by decide)))
                have m257 := congrArg tk m256
                have m258 : (sI H254 h0 (X.1.2 11 16)).toInt = (sI H242 h0 (X.1.2 11 16)).toInt := congrArg Int32.toInt (up_nI U254 (ne_k g0 gca (by decide)))
                have m259 : (sI H254 h0 (X.1.2 11 18)).toInt = (sI H242 h0 (X.1.2 11 18)).toInt := congrArg Int32.toInt (up_nI U254 (ne_k g0 gca (by decide)))
                have m260 : (sI H254 h0 (X.1.2 11 17)).toInt = (sI H242 h0 (X.1.2 11 17)).toInt := congrArg Int32.toInt (up_nI U254 (ne_k g0 gca (by decide)))
                have ym := ym.art U254 g0 gca (w := 1) (z := zz) (by omega) (by omega) (by decide) hq9 hlz9
                have e261 := up_I U254
                have hz8 := tk_nn (sI H254 h0 (X.1.2 11 14)).toInt
                have hpost : ((sI H254 h0 (X.1.2 11 12)).toInt = 0 ∧ ∃ (S1 : YSt) (i1 : Nat), gArt kd vl S (i + 1) S1 i1 ∧ MC X H254 h0 tq kd vl w3 pos N i1 ∧ YSM X Γ H254 h0 ca kd vl w3 N S1) ∨ ((sI H254 h0 (X.1.2 11 12)).toInt ≠ 0 ∧ ∀ (S1 : YSt) (i1 : Nat), ¬ gArt kd vl S (i + 1) S1 i1) := by first | (exfalso; omega) | exact Or.inr ⟨by omega, hno⟩ | exact Or.inl ⟨by omega, _, _, Or.inl ⟨(mc1.word (j := 6) (by decide)).mp hw6, ha, hQ.1.2, hQ.2, rfl, by rw [hzz.2 (by decide)]⟩, mc, ym⟩ | exact Or.inl ⟨by omega, _, _, Or.inr (Or.inl ⟨(mc1.word (j := 12) (by decide)).mp hw12, ha, hQ.1.2, hQ.2, rfl, by rw [hzz.2 (by decide)]⟩), mc, ym⟩ | exact Or.inl ⟨by omega, _, _, Or.inr (Or.inr (Or.inl ⟨(mc1.word (j := 15) (by decide)).mp hw15, ha, hQ.1.2, hQ.2, rfl, by rw [hzz.2 (by decide)]⟩)), mc, ym⟩ | exact Or.inl ⟨by omega, _, _, Or.inr (Or.inr (Or.inr ⟨(mc1.word (j := 14) (by decide)).mp hw14, ha, rfl, by rw [hzz.1 rfl]⟩)), mc, ym⟩ | exact Or.inr ⟨by omega, fun S1 i1 q => by rcases q with ⟨q1, -, q3⟩ | ⟨q1, -, q3⟩ | ⟨q1, -, q3⟩ | ⟨q1, -, -⟩ <;> first | exact HD.no hd (by omega) ⟨⟨trivial, q3.1⟩, q3.2.1⟩ | exact HD.no hd (by omega) trivial | exact absurd (okW_j ((mc1.word (j := 6) (by decide)).mp hw6) q1 (by decide) (by decide)) (by decide) | exact absurd (okW_j ((mc1.word (j := 12) (by decide)).mp hw12) q1 (by decide) (by decide)) (by decide) | exact absurd (okW_j ((mc1.word (j := 15) (by decide)).mp hw15) q1 (by decide) (by decide)) (by decide) | exact absurd (okW_j ((mc1.word (j := 14) (by decide)).mp hw14) q1 (by decide) (by decide)) (by decide)⟩
                exact ret H254 locs254 _ _ dX12_readArticle_179 ⟨hKp254, ⟨by omega, by omega, by omega, by omega, hpost⟩⟩ hC254 hS254
        · have hno : ∀ (S1 : YSt) (i1 : Nat), ¬ gArt kd vl S (i + 1) S1 i1 := fun S1 i1 q => by rcases q with ⟨q1, q2, -⟩ | ⟨q1, q2, -⟩ | ⟨q1, q2, -⟩ | ⟨q1, q2, -⟩ <;> first | exact absurd ((mc.word (by decide)).mpr q1) (by assumption) | exact absurd (okW_j ((mc.word (j := 6) (by decide)).mp hw6) q1 (by decide) (by decide)) (by decide) | exact absurd (okW_j ((mc.word (j := 12) (by decide)).mp hw12) q1 (by decide) (by decide)) (by decide) | exact absurd (okW_j ((mc.word (j := 15) (by decide)).mp hw15) q1 (by decide) (by decide)) (by decide) | exact absurd (okW_j ((mc.word (j := 14) (by decide)).mp hw14) q1 (by decide) (by decide)) (by decide) | (rw [if_pos q2] at hta; omega)
          refine lv_aload_n hx hb dX12_readArticle_79 rfl (lv_at hl 1 rfl) ?_
          refine lv_iconst (v := 5) hx hb dX12_readArticle_80 rfl ?_
          refine lv_aload_n hx hb dX12_readArticle_81 rfl (lv_at hl 1 rfl) ?_
          refine q_getI E hC21 g0 fa_RX12_114 dX12_readArticle_82 (fun v262 ev262 lv262 uv262 => ?_)
          refine q_goV (q_runV (As := [.int 5, .int v262]) (rest := []) E hC21 hS134 (m_X12_fail l X Γ H21 hC21 h0 g0 5 (a1 := 5) (by decide) v262 (a2 := v262.toInt) rfl ca gca uc (by omega) (by omega)) cw_X12_fail cl_RX12_224 g0 ⟨rfl, rfl⟩ rfl hl.1 rfl (Nat.zero_le _) (by decide) dX12_readArticle_85) hS134 (fun H263 locs263 hr263 hC263 hS263 => ?_)
          obtain ⟨hp263, hr263⟩ := hr263
          have hKp263 := hKp21.tr (hp263.mono rfl)
          have ym := ym.kp hp263 g0 gca rfl rfl
          obtain ⟨f263_0, f263_1, f263_2, f263_3⟩ := hr263
          have hd := HD.dead (i := 0) (S := S) (kd := kd) (vl := vl) (w3 := w3) (pos := pos) (N := N) (tq := tq) (ca := ca) (X := X) (Γ := Γ) (H := H263) (r := h0) (by omega)
          refine lv_aload_n hx hb dX12_readArticle_88 rfl (lv_at hl 1 rfl) ?_
          refine lv_iconst (v := 1) hx hb dX12_readArticle_89 rfl ?_
          refine q_goV (q_runV (As := [.int 1]) (rest := []) E hC263 hS263 (m_X12_must l X Γ H263 hC263 h0 g0 1 (a1 := 1) (by decide) ca gca uc tq ((kp_R hKp263 g0 (ci := 11) (k := 7) rfl (by decide) rfl).trans htq) gtq (by omega) (by omega)) cw_X12_must cl_RX12_244 g0 ⟨rfl, rfl⟩ rfl hl.1 rfl (Nat.zero_le _) (by decide) dX12_readArticle_90) hS263 (fun H264 locs264 hr264 hC264 hS264 => ?_)
          obtain ⟨hp264, hr264⟩ := hr264
          have hKp264 := hKp263.tr (hp264.mono rfl)
          obtain ⟨f264_0, f264_1, f264_2, f264_3, f264_4, f264_5⟩ := hr264
          have hd := HD.go hd hp264 g0 gca (by first | exact fun q => q.elim | exact fun _ => hk2) f264_5 f264_2 (by omega) rfl rfl
          refine lv_aload_n hx hb dX12_readArticle_93 rfl (lv_at hl 1 rfl) ?_
          refine q_getI E hC264 g0 fa_RX12_218 dX12_readArticle_94 (fun v265 ev265 lv265 uv265 => ?_)
          have m266 : (sI H264 h0 (X.1.2 11 12)).toInt = v265.toInt := (congrArg Int32.toInt ev265).trans rfl
          refine q_if_ne hx hb (a := v265.toInt) rfl (tgt := 161) dX12_readArticle_97 rfl (fun c267 => ?_) (fun c267 => ?_)
          · refine lv_aload_n hx hb dX12_readArticle_161 rfl (lv_at hl 1 rfl) ?_
            refine q_getI E hC264 g0 fa_RX12_218 dX12_readArticle_162 (fun v268 ev268 lv268 uv268 => ?_)
            have qv268 := ev265.symm.trans ev268; subst qv268
            refine q_if_ne hx hb (a := v265.toInt) rfl (tgt := 179) dX12_readArticle_165 rfl (fun c269 => ?_) (fun c269 => absurd c269 (by omega))
            have hz8 := tk_nn (sI H264 h0 (X.1.2 11 14)).toInt
            have hpost : ((sI H264 h0 (X.1.2 11 12)).toInt = 0 ∧ ∃ (S1 : YSt) (i1 : Nat), gArt kd vl S (i + 1) S1 i1 ∧ MC X H264 h0 tq kd vl w3 pos N i1 ∧ YSM X Γ H264 h0 ca kd vl w3 N S1) ∨ ((sI H264 h0 (X.1.2 11 12)).toInt ≠ 0 ∧ ∀ (S1 : YSt) (i1 : Nat), ¬ gArt kd vl S (i + 1) S1 i1) := by first | (exfalso; omega) | exact Or.inr ⟨by omega, hno⟩ | exact Or.inl ⟨by omega, _, _, Or.inl ⟨(mc1.word (j := 6) (by decide)).mp hw6, ha, hQ.1.2, hQ.2, rfl, by rw [hzz.2 (by decide)]⟩, mc, ym⟩ | exact Or.inl ⟨by omega, _, _, Or.inr (Or.inl ⟨(mc1.word (j := 12) (by decide)).mp hw12, ha, hQ.1.2, hQ.2, rfl, by rw [hzz.2 (by decide)]⟩), mc, ym⟩ | exact Or.inl ⟨by omega, _, _, Or.inr (Or.inr (Or.inl ⟨(mc1.word (j := 15) (by decide)).mp hw15, ha, hQ.1.2, hQ.2, rfl, by rw [hzz.2 (by decide)]⟩)), mc, ym⟩ | exact Or.inl ⟨by omega, _, _, Or.inr (Or.inr (Or.inr ⟨(mc1.word (j := 14) (by decide)).mp hw14, ha, rfl, by rw [hzz.1 rfl]⟩)), mc, ym⟩ | exact Or.inr ⟨by omega, fun S1 i1 q => by rcases q with ⟨q1, -, q3⟩ | ⟨q1, -, q3⟩ | ⟨q1, -, q3⟩ | ⟨q1, -, -⟩ <;> first | exact HD.no hd (by omega) ⟨⟨trivial, q3.1⟩, q3.2.1⟩ | exact HD.no hd (by omega) trivial | exact absurd (okW_j ((mc1.word (j := 6) (by decide)).mp hw6) q1 (by decide) (by decide)) (by decide) | exact absurd (okW_j ((mc1.word (j := 12) (by decide)).mp hw12) q1 (by decide) (by decide)) (by decide) | exact absurd (okW_j ((mc1.word (j := 15) (by decide)).mp hw15) q1 (by decide) (by decide)) (by decide) | exact absurd (okW_j ((mc1.word (j := 14) (by decide)).mp hw14) q1 (by decide) (by decide)) (by decide)⟩
            exact ret H264 locs264 _ _ dX12_readArticle_179 ⟨hKp264, ⟨by omega, by omega, by omega, by omega, hpost⟩⟩ hC264 hS264
          · refine lv_iload_n hx hb dX12_readArticle_100 rfl (lv_at hl 0 rfl) ?_
            refine lv_iconst (v := 2) hx hb dX12_readArticle_101 rfl ?_
            refine q_icmp_eq hx hb (a := 1) (b := 2) (by decide) (by decide) (tgt := 161) dX12_readArticle_102 rfl (fun c270 => absurd c270 (by omega)) (fun c270 => ?_)
            refine lv_aload_n hx hb dX12_readArticle_105 rfl (lv_at hl 1 rfl) ?_
            refine lv_iload_n hx hb dX12_readArticle_106 rfl (lv_at hl 0 rfl) ?_
            refine lv_iconst (v := 1) hx hb dX12_readArticle_107 rfl ?_
            refine q_icmp_ne hx hb (a := 1) (b := 1) (by decide) (by decide) (tgt := 118) dX12_readArticle_108 rfl (fun c271 => absurd c271 (by omega)) (fun c271 => ?_)
            refine lv_aload_n hx hb dX12_readArticle_111 rfl (lv_at hl 1 rfl) ?_
            refine q_goIp (q_runV (As := []) (rest := [.ref h0]) E hC264 hS264 (m_X12_isBehind l X Γ H264 hC264 h0 g0 ca gca uc) cw_X12_isBehind cl_RX12_199 g0 ⟨rfl, rfl⟩ rfl hl.1 rfl (show _ ≤ _ from by simp [Value.category]) (by decide) dX12_readArticle_112) hS264 (fun v272 locs272 hr272 hS272 => ?_)
            rcases hr272 with ⟨rfl, hw⟩ | ⟨rfl, hw⟩
            · have hw13 := hw
              refine lv_goto (tgt := 122) hx hb dX12_readArticle_115 rfl ?_
              refine q_goV (q_runV (As := [.int 1]) (rest := []) E hC264 hS272 (m_X12_must l X Γ H264 hC264 h0 g0 1 (a1 := 1) (by decide) ca gca uc tq ((kp_R hKp264 g0 (ci := 11) (k := 7) rfl (by decide) rfl).trans htq) gtq (by omega) (by omega)) cw_X12_must cl_RX12_244 g0 ⟨rfl, rfl⟩ rfl hl.1 rfl (Nat.zero_le _) (by decide) dX12_readArticle_122) hS272 (fun H273 locs273 hr273 hC273 hS273 => ?_)
              obtain ⟨hp273, hr273⟩ := hr273
              have hKp273 := hKp264.tr (hp273.mono rfl)
              obtain ⟨f273_0, f273_1, f273_2, f273_3, f273_4, f273_5⟩ := hr273
              have hd := HD.must hd hp273 g0 gca (by first | exact hbz | exact Or.inl ⟨rfl, hw⟩ | exact Or.inr ⟨rfl, hw⟩) f273_5 f273_2 (by omega) rfl rfl (by decide)
              refine lv_aload_n hx hb dX12_readArticle_125 rfl (lv_at hl 1 rfl) ?_
              refine q_getC E hC273 g0 fa_RX12_35 uc dX12_readArticle_126 ?_
              refine lv_sipush (v := 2102) hx hb dX12_readArticle_129 rfl ?_
              refine lv_iload_n hx hb dX12_readArticle_132 rfl (lv_at hl 0 rfl) ?_
              refine lv_iadd hx hb dX12_readArticle_133 (lv_topi (fun v274 ev274 => ?_))
              have ev274i : v274.toInt = (2102 + 1) := i_add ev274 (by decide) (by decide) (by omega) (by omega)
              refine lv_aload_n hx hb dX12_readArticle_134 rfl (lv_at hl 1 rfl) ?_
              refine lv_iconst (v := 0) hx hb dX12_readArticle_135 rfl ?_
              refine lv_iload_n hx hb dX12_readArticle_136 rfl (lv_at hl 0 rfl) ?_
              refine q_if_ne hx hb (a := 1) (by decide) (tgt := 145) dX12_readArticle_137 rfl (fun c275 => ?_) (fun c275 => absurd c275 (by omega))
              refine lv_iload_n hx hb dX12_readArticle_145 rfl (lv_at hl 0 rfl) ?_
              refine lv_iconst (v := 1) hx hb dX12_readArticle_146 rfl ?_
              refine q_icmp_ne hx hb (a := 1) (b := 1) (by decide) (by decide) (tgt := 155) dX12_readArticle_147 rfl (fun c276 => absurd c276 (by omega)) (fun c276 => ?_)
              refine lv_bipush (v := 40) hx hb dX12_readArticle_150 rfl ?_
              refine lv_goto (tgt := 157) hx hb dX12_readArticle_152 rfl ?_
              refine q_goI (q_runV (As := [.int 0, .int 40]) (rest := [.int v274, .ref ca]) E hC273 hS273 (m_X12_count l X Γ H273 hC273 h0 g0 0 (a1 := 0) (by decide) 40 (a2 := 40) (by decide) ca gca uc tq ((kp_R hKp273 g0 (ci := 11) (k := 7) rfl (by decide) rfl).trans htq) gtq (by omega) (by omega) (by omega) (by omega)) cw_X12_count cl_RX12_248 g0 ⟨rfl, rfl⟩ rfl hl.1 rfl (show _ ≤ _ from by simp [Value.category]) (by decide) dX12_readArticle_157) hS273 (fun v277 H277 locs277 hr277 hC277 hS277 => ?_)
              obtain ⟨hp277, hr277⟩ := hr277
              have hKp277 := hKp273.tr (hp277.mono rfl)
              obtain ⟨f277_0, f277_1, f277_2, f277_3, f277_4, f277_5, f277_6, f277_7, f277_8⟩ := hr277
              have hdc := HD.count hd hp277 g0 gca f277_8 f277_2 (by omega) rfl rfl
              have hd := hdc.1
              have hcv9 := hdc.2
              refine q_cast E hC277 hS277 gca (a := (2102 + 1)) ev274i (by omega) (by omega) (cs_n16 (a := (2102 + 1)) (by omega) (by omega)) dX12_readArticle_160 (fun H278 locs278 hC278 hS278 U278 => ?_)
              have hKp278 := Kp.upD gca rfl rfl (fun _ => ⟨fun _ => nd4 (by omega) (by omega), fun _ => by unfold dpu; omega, fun _ => by unfold dpn; omega⟩) U278 hKp277
              have m279 : (sI H278 h0 (X.1.2 11 12)).toInt = (sI H277 h0 (X.1.2 11 12)).toInt := congrArg Int32.toInt (up_nI U278 (ne_k g0 gca (by decide)))
              have m280 : (sI H278 h0 (X.1.2 11 14)).toInt = (sI H277 h0 (X.1.2 11 14)).toInt := congrArg Int32.toInt (up_nI U278 (ne_k g0 gca (by decide)))
              have m281 := congrArg tk m280
              have m282 : (sI H278 h0 (X.1.2 11 16)).toInt = (sI H277 h0 (X.1.2 11 16)).toInt := congrArg Int32.toInt (up_nI U278 (ne_k g0 gca (by decide)))
              have m283 : (sI H278 h0 (X.1.2 11 18)).toInt = (sI H277 h0 (X.1.2 11 18)).toInt := congrArg Int32.toInt (up_nI U278 (ne_k g0 gca (by decide)))
              have m284 : (sI H278 h0 (X.1.2 11 17)).toInt = (sI H277 h0 (X.1.2 11 17)).toInt := congrArg Int32.toInt (up_nI U278 (ne_k g0 gca (by decide)))
              have hd := HD.map hd (congrArg Int32.toInt (up_nI U278 (ne_k g0 gca (by decide)))) (fun hb0 mc ym => ⟨mc.ne U278 g0 gtq gca (by decide), ym.lim U278 g0 gca (w := 1) (by omega) (by omega) (by first | exact ha | (exfalso; omega))⟩)
              have hlv9 : (sI H278 ca (2102 + 1 : Int).toNat).toInt = v277.toInt := by rw [show (2102 + 1 : Int).toNat = ((2102 + 1) : Int).toNat by omega]; exact (congrArg Int32.toInt (up_I U278)).trans rfl
              have e285 := up_I U278
              refine lv_aload_n hx hb dX12_readArticle_161 rfl (lv_at hl 1 rfl) ?_
              refine q_getI E hC278 g0 fa_RX12_218 dX12_readArticle_162 (fun v286 ev286 lv286 uv286 => ?_)
              have m287 : (sI H278 h0 (X.1.2 11 12)).toInt = v286.toInt := (congrArg Int32.toInt ev286).trans rfl
              refine q_if_ne hx hb (a := v286.toInt) rfl (tgt := 179) dX12_readArticle_165 rfl (fun c288 => ?_) (fun c288 => ?_)
              · have hz8 := tk_nn (sI H278 h0 (X.1.2 11 14)).toInt
                have hpost : ((sI H278 h0 (X.1.2 11 12)).toInt = 0 ∧ ∃ (S1 : YSt) (i1 : Nat), gArt kd vl S (i + 1) S1 i1 ∧ MC X H278 h0 tq kd vl w3 pos N i1 ∧ YSM X Γ H278 h0 ca kd vl w3 N S1) ∨ ((sI H278 h0 (X.1.2 11 12)).toInt ≠ 0 ∧ ∀ (S1 : YSt) (i1 : Nat), ¬ gArt kd vl S (i + 1) S1 i1) := by first | (exfalso; omega) | exact Or.inr ⟨by omega, hno⟩ | exact Or.inl ⟨by omega, _, _, Or.inl ⟨(mc1.word (j := 6) (by decide)).mp hw6, ha, hQ.1.2, hQ.2, rfl, by rw [hzz.2 (by decide)]⟩, mc, ym⟩ | exact Or.inl ⟨by omega, _, _, Or.inr (Or.inl ⟨(mc1.word (j := 12) (by decide)).mp hw12, ha, hQ.1.2, hQ.2, rfl, by rw [hzz.2 (by decide)]⟩), mc, ym⟩ | exact Or.inl ⟨by omega, _, _, Or.inr (Or.inr (Or.inl ⟨(mc1.word (j := 15) (by decide)).mp hw15, ha, hQ.1.2, hQ.2, rfl, by rw [hzz.2 (by decide)]⟩)), mc, ym⟩ | exact Or.inl ⟨by omega, _, _, Or.inr (Or.inr (Or.inr ⟨(mc1.word (j := 14) (by decide)).mp hw14, ha, rfl, by rw [hzz.1 rfl]⟩)), mc, ym⟩ | exact Or.inr ⟨by omega, fun S1 i1 q => by rcases q with ⟨q1, -, q3⟩ | ⟨q1, -, q3⟩ | ⟨q1, -, q3⟩ | ⟨q1, -, -⟩ <;> first | exact HD.no hd (by omega) ⟨⟨trivial, q3.1⟩, q3.2.1⟩ | exact HD.no hd (by omega) trivial | exact absurd (okW_j ((mc1.word (j := 6) (by decide)).mp hw6) q1 (by decide) (by decide)) (by decide) | exact absurd (okW_j ((mc1.word (j := 12) (by decide)).mp hw12) q1 (by decide) (by decide)) (by decide) | exact absurd (okW_j ((mc1.word (j := 15) (by decide)).mp hw15) q1 (by decide) (by decide)) (by decide) | exact absurd (okW_j ((mc1.word (j := 14) (by decide)).mp hw14) q1 (by decide) (by decide)) (by decide)⟩
                exact ret H278 locs278 _ _ dX12_readArticle_179 ⟨hKp278, ⟨by omega, by omega, by omega, by omega, hpost⟩⟩ hC278 hS278
              · obtain ⟨hQ, mc, ym⟩ := HD.live hd (by omega)
                have mc := mc
                have ym := ym
                obtain ⟨zz, hzz⟩ : ∃ z : Int, ((1 : Int) = 2 → z = 0) ∧ ((1 : Int) ≠ 2 → z = vl (i + 1 + 2)) := by first | exact ⟨0, fun _ => rfl, fun q => absurd rfl q⟩ | exact ⟨_, fun q => absurd q (by decide), fun _ => rfl⟩
                have hq9 : 0 ≤ zz := by first | (have := hzz.1 rfl; omega) | (have q1 := hzz.2 (by decide); have q2 : 0 ≤ vl (i + 1 + 2) := hQ.2.2.1; omega) | (exfalso; omega)
                have hlz9 : (sI H278 ca (2102 + 1 : Int).toNat).toInt = zz := by first | (rw [hzz.2 (by decide)]; exact hlv9.trans (hcv9 (by omega))) | (rw [hzz.1 rfl]; exact ym.2.2.2.2.2.2.1) | (exfalso; omega)
                refine lv_aload_n hx hb dX12_readArticle_168 rfl (lv_at hl 1 rfl) ?_
                refine q_getC E hC278 g0 fa_RX12_35 uc dX12_readArticle_169 ?_
                refine lv_sipush (v := 2098) hx hb dX12_readArticle_172 rfl ?_
                refine lv_iload_n hx hb dX12_readArticle_175 rfl (lv_at hl 0 rfl) ?_
                refine lv_iadd hx hb dX12_readArticle_176 (lv_topi (fun v289 ev289 => ?_))
                have ev289i : v289.toInt = (2098 + 1) := i_add ev289 (by decide) (by decide) (by omega) (by omega)
                refine lv_iconst (v := 1) hx hb dX12_readArticle_177 rfl ?_
                refine q_cast E hC278 hS278 gca (a := (2098 + 1)) ev289i (by omega) (by omega) (cs_n16 (a := (2098 + 1)) (by omega) (by omega)) dX12_readArticle_178 (fun H290 locs290 hC290 hS290 U290 => ?_)
                have hKp290 := Kp.upD gca rfl rfl (fun _ => ⟨fun _ => nd4 (by omega) (by omega), fun _ => by unfold dpu; omega, fun _ => by unfold dpn; omega⟩) U290 hKp278
                have mc := mc.ne U290 g0 gtq gca (by decide)
                have m291 : (sI H290 h0 (X.1.2 11 12)).toInt = (sI H278 h0 (X.1.2 11 12)).toInt := congrArg Int32.toInt (up_nI U290 (ne_k g0 gca (by decide)))
                have m292 : (sI H290 h0 (X.1.2 11 14)).toInt = (sI H278 h0 (X.1.2 11 14)).toInt := congrArg Int32.toInt (up_nI U290 (ne_k g0 gca (by decide)))
                have m293 := congrArg tk m292
                have m294 : (sI H290 h0 (X.1.2 11 16)).toInt = (sI H278 h0 (X.1.2 11 16)).toInt := congrArg Int32.toInt (up_nI U290 (ne_k g0 gca (by decide)))
                have m295 : (sI H290 h0 (X.1.2 11 18)).toInt = (sI H278 h0 (X.1.2 11 18)).toInt := congrArg Int32.toInt (up_nI U290 (ne_k g0 gca (by decide)))
                have m296 : (sI H290 h0 (X.1.2 11 17)).toInt = (sI H278 h0 (X.1.2 11 17)).toInt := congrArg Int32.toInt (up_nI U290 (ne_k g0 gca (by decide)))
                have ym := ym.art U290 g0 gca (w := 1) (z := zz) (by omega) (by omega) (by decide) hq9 hlz9
                have e297 := up_I U290
                have hz8 := tk_nn (sI H290 h0 (X.1.2 11 14)).toInt
                have hpost : ((sI H290 h0 (X.1.2 11 12)).toInt = 0 ∧ ∃ (S1 : YSt) (i1 : Nat), gArt kd vl S (i + 1) S1 i1 ∧ MC X H290 h0 tq kd vl w3 pos N i1 ∧ YSM X Γ H290 h0 ca kd vl w3 N S1) ∨ ((sI H290 h0 (X.1.2 11 12)).toInt ≠ 0 ∧ ∀ (S1 : YSt) (i1 : Nat), ¬ gArt kd vl S (i + 1) S1 i1) := by first | (exfalso; omega) | exact Or.inr ⟨by omega, hno⟩ | exact Or.inl ⟨by omega, _, _, Or.inl ⟨(mc1.word (j := 6) (by decide)).mp hw6, ha, hQ.1.2, hQ.2, rfl, by rw [hzz.2 (by decide)]⟩, mc, ym⟩ | exact Or.inl ⟨by omega, _, _, Or.inr (Or.inl ⟨(mc1.word (j := 12) (by decide)).mp hw12, ha, hQ.1.2, hQ.2, rfl, by rw [hzz.2 (by decide)]⟩), mc, ym⟩ | exact Or.inl ⟨by omega, _, _, Or.inr (Or.inr (Or.inl ⟨(mc1.word (j := 15) (by decide)).mp hw15, ha, hQ.1.2, hQ.2, rfl, by rw [hzz.2 (by decide)]⟩)), mc, ym⟩ | exact Or.inl ⟨by omega, _, _, Or.inr (Or.inr (Or.inr ⟨(mc1.word (j := 14) (by decide)).mp hw14, ha, rfl, by rw [hzz.1 rfl]⟩)), mc, ym⟩ | exact Or.inr ⟨by omega, fun S1 i1 q => by rcases q with ⟨q1, -, q3⟩ | ⟨q1, -, q3⟩ | ⟨q1, -, q3⟩ | ⟨q1, -, -⟩ <;> first | exact HD.no hd (by omega) ⟨⟨trivial, q3.1⟩, q3.2.1⟩ | exact HD.no hd (by omega) trivial | exact absurd (okW_j ((mc1.word (j := 6) (by decide)).mp hw6) q1 (by decide) (by decide)) (by decide) | exact absurd (okW_j ((mc1.word (j := 12) (by decide)).mp hw12) q1 (by decide) (by decide)) (by decide) | exact absurd (okW_j ((mc1.word (j := 15) (by decide)).mp hw15) q1 (by decide) (by decide)) (by decide) | exact absurd (okW_j ((mc1.word (j := 14) (by decide)).mp hw14) q1 (by decide) (by decide)) (by decide)⟩
                exact ret H290 locs290 _ _ dX12_readArticle_179 ⟨hKp290, ⟨by omega, by omega, by omega, by omega, hpost⟩⟩ hC290 hS290
            · have hw13 := hw
              refine lv_goto (tgt := 122) hx hb dX12_readArticle_115 rfl ?_
              refine q_goV (q_runV (As := [.int 0]) (rest := []) E hC264 hS272 (m_X12_must l X Γ H264 hC264 h0 g0 0 (a1 := 0) (by decide) ca gca uc tq ((kp_R hKp264 g0 (ci := 11) (k := 7) rfl (by decide) rfl).trans htq) gtq (by omega) (by omega)) cw_X12_must cl_RX12_244 g0 ⟨rfl, rfl⟩ rfl hl.1 rfl (Nat.zero_le _) (by decide) dX12_readArticle_122) hS272 (fun H298 locs298 hr298 hC298 hS298 => ?_)
              obtain ⟨hp298, hr298⟩ := hr298
              have hKp298 := hKp264.tr (hp298.mono rfl)
              obtain ⟨f298_0, f298_1, f298_2, f298_3, f298_4, f298_5⟩ := hr298
              have hd := HD.must hd hp298 g0 gca (by first | exact hbz | exact Or.inl ⟨rfl, hw⟩ | exact Or.inr ⟨rfl, hw⟩) f298_5 f298_2 (by omega) rfl rfl (by decide)
              refine lv_aload_n hx hb dX12_readArticle_125 rfl (lv_at hl 1 rfl) ?_
              refine q_getC E hC298 g0 fa_RX12_35 uc dX12_readArticle_126 ?_
              refine lv_sipush (v := 2102) hx hb dX12_readArticle_129 rfl ?_
              refine lv_iload_n hx hb dX12_readArticle_132 rfl (lv_at hl 0 rfl) ?_
              refine lv_iadd hx hb dX12_readArticle_133 (lv_topi (fun v299 ev299 => ?_))
              have ev299i : v299.toInt = (2102 + 1) := i_add ev299 (by decide) (by decide) (by omega) (by omega)
              refine lv_aload_n hx hb dX12_readArticle_134 rfl (lv_at hl 1 rfl) ?_
              refine lv_iconst (v := 0) hx hb dX12_readArticle_135 rfl ?_
              refine lv_iload_n hx hb dX12_readArticle_136 rfl (lv_at hl 0 rfl) ?_
              refine q_if_ne hx hb (a := 1) (by decide) (tgt := 145) dX12_readArticle_137 rfl (fun c300 => ?_) (fun c300 => absurd c300 (by omega))
              refine lv_iload_n hx hb dX12_readArticle_145 rfl (lv_at hl 0 rfl) ?_
              refine lv_iconst (v := 1) hx hb dX12_readArticle_146 rfl ?_
              refine q_icmp_ne hx hb (a := 1) (b := 1) (by decide) (by decide) (tgt := 155) dX12_readArticle_147 rfl (fun c301 => absurd c301 (by omega)) (fun c301 => ?_)
              refine lv_bipush (v := 40) hx hb dX12_readArticle_150 rfl ?_
              refine lv_goto (tgt := 157) hx hb dX12_readArticle_152 rfl ?_
              refine q_goI (q_runV (As := [.int 0, .int 40]) (rest := [.int v299, .ref ca]) E hC298 hS298 (m_X12_count l X Γ H298 hC298 h0 g0 0 (a1 := 0) (by decide) 40 (a2 := 40) (by decide) ca gca uc tq ((kp_R hKp298 g0 (ci := 11) (k := 7) rfl (by decide) rfl).trans htq) gtq (by omega) (by omega) (by omega) (by omega)) cw_X12_count cl_RX12_248 g0 ⟨rfl, rfl⟩ rfl hl.1 rfl (show _ ≤ _ from by simp [Value.category]) (by decide) dX12_readArticle_157) hS298 (fun v302 H302 locs302 hr302 hC302 hS302 => ?_)
              obtain ⟨hp302, hr302⟩ := hr302
              have hKp302 := hKp298.tr (hp302.mono rfl)
              obtain ⟨f302_0, f302_1, f302_2, f302_3, f302_4, f302_5, f302_6, f302_7, f302_8⟩ := hr302
              have hdc := HD.count hd hp302 g0 gca f302_8 f302_2 (by omega) rfl rfl
              have hd := hdc.1
              have hcv9 := hdc.2
              refine q_cast E hC302 hS302 gca (a := (2102 + 1)) ev299i (by omega) (by omega) (cs_n16 (a := (2102 + 1)) (by omega) (by omega)) dX12_readArticle_160 (fun H303 locs303 hC303 hS303 U303 => ?_)
              have hKp303 := Kp.upD gca rfl rfl (fun _ => ⟨fun _ => nd4 (by omega) (by omega), fun _ => by unfold dpu; omega, fun _ => by unfold dpn; omega⟩) U303 hKp302
              have m304 : (sI H303 h0 (X.1.2 11 12)).toInt = (sI H302 h0 (X.1.2 11 12)).toInt := congrArg Int32.toInt (up_nI U303 (ne_k g0 gca (by decide)))
              have m305 : (sI H303 h0 (X.1.2 11 14)).toInt = (sI H302 h0 (X.1.2 11 14)).toInt := congrArg Int32.toInt (up_nI U303 (ne_k g0 gca (by decide)))
              have m306 := congrArg tk m305
              have m307 : (sI H303 h0 (X.1.2 11 16)).toInt = (sI H302 h0 (X.1.2 11 16)).toInt := congrArg Int32.toInt (up_nI U303 (ne_k g0 gca (by decide)))
              have m308 : (sI H303 h0 (X.1.2 11 18)).toInt = (sI H302 h0 (X.1.2 11 18)).toInt := congrArg Int32.toInt (up_nI U303 (ne_k g0 gca (by decide)))
              have m309 : (sI H303 h0 (X.1.2 11 17)).toInt = (sI H302 h0 (X.1.2 11 17)).toInt := congrArg Int32.toInt (up_nI U303 (ne_k g0 gca (by decide)))
              have hd := HD.map hd (congrArg Int32.toInt (up_nI U303 (ne_k g0 gca (by decide)))) (fun hb0 mc ym => ⟨mc.ne U303 g0 gtq gca (by decide), ym.lim U303 g0 gca (w := 1) (by omega) (by omega) (by first | exact ha | (exfalso; omega))⟩)
              have hlv9 : (sI H303 ca (2102 + 1 : Int).toNat).toInt = v302.toInt := by rw [show (2102 + 1 : Int).toNat = ((2102 + 1) : Int).toNat by omega]; exact (congrArg Int32.toInt (up_I U303)).trans rfl
              have e310 := up_I U303
              refine lv_aload_n hx hb dX12_readArticle_161 rfl (lv_at hl 1 rfl) ?_
              refine q_getI E hC303 g0 fa_RX12_218 dX12_readArticle_162 (fun v311 ev311 lv311 uv311 => ?_)
              have m312 : (sI H303 h0 (X.1.2 11 12)).toInt = v311.toInt := (congrArg Int32.toInt ev311).trans rfl
              refine q_if_ne hx hb (a := v311.toInt) rfl (tgt := 179) dX12_readArticle_165 rfl (fun c313 => ?_) (fun c313 => ?_)
              · have hz8 := tk_nn (sI H303 h0 (X.1.2 11 14)).toInt
                have hpost : ((sI H303 h0 (X.1.2 11 12)).toInt = 0 ∧ ∃ (S1 : YSt) (i1 : Nat), gArt kd vl S (i + 1) S1 i1 ∧ MC X H303 h0 tq kd vl w3 pos N i1 ∧ YSM X Γ H303 h0 ca kd vl w3 N S1) ∨ ((sI H303 h0 (X.1.2 11 12)).toInt ≠ 0 ∧ ∀ (S1 : YSt) (i1 : Nat), ¬ gArt kd vl S (i + 1) S1 i1) := by first | (exfalso; omega) | exact Or.inr ⟨by omega, hno⟩ | exact Or.inl ⟨by omega, _, _, Or.inl ⟨(mc1.word (j := 6) (by decide)).mp hw6, ha, hQ.1.2, hQ.2, rfl, by rw [hzz.2 (by decide)]⟩, mc, ym⟩ | exact Or.inl ⟨by omega, _, _, Or.inr (Or.inl ⟨(mc1.word (j := 12) (by decide)).mp hw12, ha, hQ.1.2, hQ.2, rfl, by rw [hzz.2 (by decide)]⟩), mc, ym⟩ | exact Or.inl ⟨by omega, _, _, Or.inr (Or.inr (Or.inl ⟨(mc1.word (j := 15) (by decide)).mp hw15, ha, hQ.1.2, hQ.2, rfl, by rw [hzz.2 (by decide)]⟩)), mc, ym⟩ | exact Or.inl ⟨by omega, _, _, Or.inr (Or.inr (Or.inr ⟨(mc1.word (j := 14) (by decide)).mp hw14, ha, rfl, by rw [hzz.1 rfl]⟩)), mc, ym⟩ | exact Or.inr ⟨by omega, fun S1 i1 q => by rcases q with ⟨q1, -, q3⟩ | ⟨q1, -, q3⟩ | ⟨q1, -, q3⟩ | ⟨q1, -, -⟩ <;> first | exact HD.no hd (by omega) ⟨⟨trivial, q3.1⟩, q3.2.1⟩ | exact HD.no hd (by omega) trivial | exact absurd (okW_j ((mc1.word (j := 6) (by decide)).mp hw6) q1 (by decide) (by decide)) (by decide) | exact absurd (okW_j ((mc1.word (j := 12) (by decide)).mp hw12) q1 (by decide) (by decide)) (by decide) | exact absurd (okW_j ((mc1.word (j := 15) (by decide)).mp hw15) q1 (by decide) (by decide)) (by decide) | exact absurd (okW_j ((mc1.word (j := 14) (by decide)).mp hw14) q1 (by decide) (by decide)) (by decide)⟩
                exact ret H303 locs303 _ _ dX12_readArticle_179 ⟨hKp303, ⟨by omega, by omega, by omega, by omega, hpost⟩⟩ hC303 hS303
              · obtain ⟨hQ, mc, ym⟩ := HD.live hd (by omega)
                have mc := mc
                have ym := ym
                obtain ⟨zz, hzz⟩ : ∃ z : Int, ((1 : Int) = 2 → z = 0) ∧ ((1 : Int) ≠ 2 → z = vl (i + 1 + 2)) := by first | exact ⟨0, fun _ => rfl, fun q => absurd rfl q⟩ | exact ⟨_, fun q => absurd q (by decide), fun _ => rfl⟩
                have hq9 : 0 ≤ zz := by first | (have := hzz.1 rfl; omega) | (have q1 := hzz.2 (by decide); have q2 : 0 ≤ vl (i + 1 + 2) := hQ.2.2.1; omega) | (exfalso; omega)
                have hlz9 : (sI H303 ca (2102 + 1 : Int).toNat).toInt = zz := by first | (rw [hzz.2 (by decide)]; exact hlv9.trans (hcv9 (by omega))) | (rw [hzz.1 rfl]; exact ym.2.2.2.2.2.2.1) | (exfalso; omega)
                refine lv_aload_n hx hb dX12_readArticle_168 rfl (lv_at hl 1 rfl) ?_
                refine q_getC E hC303 g0 fa_RX12_35 uc dX12_readArticle_169 ?_
                refine lv_sipush (v := 2098) hx hb dX12_readArticle_172 rfl ?_
                refine lv_iload_n hx hb dX12_readArticle_175 rfl (lv_at hl 0 rfl) ?_
                refine lv_iadd hx hb dX12_readArticle_176 (lv_topi (fun v314 ev314 => ?_))
                have ev314i : v314.toInt = (2098 + 1) := i_add ev314 (by decide) (by decide) (by omega) (by omega)
                refine lv_iconst (v := 1) hx hb dX12_readArticle_177 rfl ?_
                refine q_cast E hC303 hS303 gca (a := (2098 + 1)) ev314i (by omega) (by omega) (cs_n16 (a := (2098 + 1)) (by omega) (by omega)) dX12_readArticle_178 (fun H315 locs315 hC315 hS315 U315 => ?_)
                have hKp315 := Kp.upD gca rfl rfl (fun _ => ⟨fun _ => nd4 (by omega) (by omega), fun _ => by unfold dpu; omega, fun _ => by unfold dpn; omega⟩) U315 hKp303
                have mc := mc.ne U315 g0 gtq gca (by decide)
                have m316 : (sI H315 h0 (X.1.2 11 12)).toInt = (sI H303 h0 (X.1.2 11 12)).toInt := congrArg Int32.toInt (up_nI U315 (ne_k g0 gca (by decide)))
                have m317 : (sI H315 h0 (X.1.2 11 14)).toInt = (sI H303 h0 (X.1.2 11 14)).toInt := congrArg Int32.toInt (up_nI U315 (ne_k g0 gca (by decide)))
                have m318 := congrArg tk m317
                have m319 : (sI H315 h0 (X.1.2 11 16)).toInt = (sI H303 h0 (X.1.2 11 16)).toInt := congrArg Int32.toInt (up_nI U315 (ne_k g0 gca (by decide)))
                have m320 : (sI H315 h0 (X.1.2 11 18)).toInt = (sI H303 h0 (X.1.2 11 18)).toInt := congrArg Int32.toInt (up_nI U315 (ne_k g0 gca (by decide)))
                have m321 : (sI H315 h0 (X.1.2 11 17)).toInt = (sI H303 h0 (X.1.2 11 17)).toInt := congrArg Int32.toInt (up_nI U315 (ne_k g0 gca (by decide)))
                have ym := ym.art U315 g0 gca (w := 1) (z := zz) (by omega) (by omega) (by decide) hq9 hlz9
                have e322 := up_I U315
                have hz8 := tk_nn (sI H315 h0 (X.1.2 11 14)).toInt
                have hpost : ((sI H315 h0 (X.1.2 11 12)).toInt = 0 ∧ ∃ (S1 : YSt) (i1 : Nat), gArt kd vl S (i + 1) S1 i1 ∧ MC X H315 h0 tq kd vl w3 pos N i1 ∧ YSM X Γ H315 h0 ca kd vl w3 N S1) ∨ ((sI H315 h0 (X.1.2 11 12)).toInt ≠ 0 ∧ ∀ (S1 : YSt) (i1 : Nat), ¬ gArt kd vl S (i + 1) S1 i1) := by first | (exfalso; omega) | exact Or.inr ⟨by omega, hno⟩ | exact Or.inl ⟨by omega, _, _, Or.inl ⟨(mc1.word (j := 6) (by decide)).mp hw6, ha, hQ.1.2, hQ.2, rfl, by rw [hzz.2 (by decide)]⟩, mc, ym⟩ | exact Or.inl ⟨by omega, _, _, Or.inr (Or.inl ⟨(mc1.word (j := 12) (by decide)).mp hw12, ha, hQ.1.2, hQ.2, rfl, by rw [hzz.2 (by decide)]⟩), mc, ym⟩ | exact Or.inl ⟨by omega, _, _, Or.inr (Or.inr (Or.inl ⟨(mc1.word (j := 15) (by decide)).mp hw15, ha, hQ.1.2, hQ.2, rfl, by rw [hzz.2 (by decide)]⟩)), mc, ym⟩ | exact Or.inl ⟨by omega, _, _, Or.inr (Or.inr (Or.inr ⟨(mc1.word (j := 14) (by decide)).mp hw14, ha, rfl, by rw [hzz.1 rfl]⟩)), mc, ym⟩ | exact Or.inr ⟨by omega, fun S1 i1 q => by rcases q with ⟨q1, -, q3⟩ | ⟨q1, -, q3⟩ | ⟨q1, -, q3⟩ | ⟨q1, -, -⟩ <;> first | exact HD.no hd (by omega) ⟨⟨trivial, q3.1⟩, q3.2.1⟩ | exact HD.no hd (by omega) trivial | exact absurd (okW_j ((mc1.word (j := 6) (by decide)).mp hw6) q1 (by decide) (by decide)) (by decide) | exact absurd (okW_j ((mc1.word (j := 12) (by decide)).mp hw12) q1 (by decide) (by decide)) (by decide) | exact absurd (okW_j ((mc1.word (j := 15) (by decide)).mp hw15) q1 (by decide) (by decide)) (by decide) | exact absurd (okW_j ((mc1.word (j := 14) (by decide)).mp hw14) q1 (by decide) (by decide)) (by decide)⟩
                exact ret H315 locs315 _ _ dX12_readArticle_179 ⟨hKp315, ⟨by omega, by omega, by omega, by omega, hpost⟩⟩ hC315 hS315
    · have hw12 := hw
      refine q_if_eq hx hb (a := 0) (by decide) (tgt := 26) dX12_readArticle_19 rfl (fun c323 => ?_) (fun c323 => absurd c323 (by omega))
      refine lv_aload_n hx hb dX12_readArticle_26 rfl (lv_at hl 0 rfl) ?_
      refine q_goIp (q_runV (As := []) (rest := []) E hC21 hS134 (m_X12_isSteal l X Γ H21 hC21 h0 g0 ca gca uc) cw_X12_isSteal cl_RX12_160 g0 ⟨rfl, rfl⟩ rfl hl.1 rfl (Nat.zero_le _) (by decide) dX12_readArticle_27) hS134 (fun v324 locs324 hr324 hS324 => ?_)
      rcases hr324 with ⟨rfl, hw⟩ | ⟨rfl, hw⟩
      · have hw14 := hw
        refine q_if_eq hx hb (a := 1) (by decide) (tgt := 37) dX12_readArticle_30 rfl (fun c325 => absurd c325 (by omega)) (fun c325 => ?_)
        refine lv_iconst (v := 2) hx hb dX12_readArticle_33 rfl ?_
        refine lv_goto (tgt := 49) hx hb dX12_readArticle_34 rfl ?_
        refine lv_istore_n hx hb dX12_readArticle_49 rfl hl (by decide) rfl (fun ls hl => ?_)
        have hl : lv_has ls 2 [(1, .int 2), (0, .ref h0)] := hl
        refine lv_iload_n hx hb dX12_readArticle_50 rfl (lv_at hl 0 rfl) ?_
        refine q_if_ge hx hb (a := 2) (by decide) (tgt := 58) dX12_readArticle_51 rfl (fun c326 => ?_) (fun c326 => absurd c326 (by omega))
        refine lv_aload_n hx hb dX12_readArticle_58 rfl (lv_at hl 1 rfl) ?_
        refine q_getI E hC21 g0 fa_RX12_218 dX12_readArticle_59 (fun v327 ev327 lv327 uv327 => ?_)
        have m328 : (sI H21 h0 (X.1.2 11 12)).toInt = v327.toInt := (congrArg Int32.toInt ev327).trans rfl
        refine q_if_ne hx hb (a := v327.toInt) rfl (tgt := 88) dX12_readArticle_62 rfl (fun c329 => ?_) (fun c329 => ?_)
        · have mc1 := mc
          have ha : S.2.2.2.2.2 (2) = -1 := by first | (exfalso; omega) | (by_cases e : S.2.2.2.2.2 (2) = -1; exact e; exfalso; rw [if_neg e] at hta; omega)
          have hk2 : kd (i + 1) ≠ 0 := by first | (have := ((mc1.word (j := 6) (by decide)).mp hw6).1; omega) | (have := ((mc1.word (j := 12) (by decide)).mp hw12).1; omega) | (have := ((mc1.word (j := 14) (by decide)).mp hw14).1; omega) | (have := ((mc1.word (j := 15) (by decide)).mp hw15).1; omega)
          have hd := HD.of (by omega) mc ym
          refine lv_aload_n hx hb dX12_readArticle_88 rfl (lv_at hl 1 rfl) ?_
          refine lv_iconst (v := 1) hx hb dX12_readArticle_89 rfl ?_
          refine q_goV (q_runV (As := [.int 1]) (rest := []) E hC21 hS324 (m_X12_must l X Γ H21 hC21 h0 g0 1 (a1 := 1) (by decide) ca gca uc tq ((kp_R hKp21 g0 (ci := 11) (k := 7) rfl (by decide) rfl).trans htq) gtq (by omega) (by omega)) cw_X12_must cl_RX12_244 g0 ⟨rfl, rfl⟩ rfl hl.1 rfl (Nat.zero_le _) (by decide) dX12_readArticle_90) hS324 (fun H330 locs330 hr330 hC330 hS330 => ?_)
          obtain ⟨hp330, hr330⟩ := hr330
          have hKp330 := hKp21.tr (hp330.mono rfl)
          obtain ⟨f330_0, f330_1, f330_2, f330_3, f330_4, f330_5⟩ := hr330
          have hd := HD.go hd hp330 g0 gca (by first | exact fun q => q.elim | exact fun _ => hk2) f330_5 f330_2 (by omega) rfl rfl
          refine lv_aload_n hx hb dX12_readArticle_93 rfl (lv_at hl 1 rfl) ?_
          refine q_getI E hC330 g0 fa_RX12_218 dX12_readArticle_94 (fun v331 ev331 lv331 uv331 => ?_)
          have m332 : (sI H330 h0 (X.1.2 11 12)).toInt = v331.toInt := (congrArg Int32.toInt ev331).trans rfl
          refine q_if_ne hx hb (a := v331.toInt) rfl (tgt := 161) dX12_readArticle_97 rfl (fun c333 => ?_) (fun c333 => ?_)
          · refine lv_aload_n hx hb dX12_readArticle_161 rfl (lv_at hl 1 rfl) ?_
            refine q_getI E hC330 g0 fa_RX12_218 dX12_readArticle_162 (fun v334 ev334 lv334 uv334 => ?_)
            have qv334 := ev331.symm.trans ev334; subst qv334
            refine q_if_ne hx hb (a := v331.toInt) rfl (tgt := 179) dX12_readArticle_165 rfl (fun c335 => ?_) (fun c335 => absurd c335 (by omega))
            have hz8 := tk_nn (sI H330 h0 (X.1.2 11 14)).toInt
            have hpost : ((sI H330 h0 (X.1.2 11 12)).toInt = 0 ∧ ∃ (S1 : YSt) (i1 : Nat), gArt kd vl S (i + 1) S1 i1 ∧ MC X H330 h0 tq kd vl w3 pos N i1 ∧ YSM X Γ H330 h0 ca kd vl w3 N S1) ∨ ((sI H330 h0 (X.1.2 11 12)).toInt ≠ 0 ∧ ∀ (S1 : YSt) (i1 : Nat), ¬ gArt kd vl S (i + 1) S1 i1) := by first | (exfalso; omega) | exact Or.inr ⟨by omega, hno⟩ | exact Or.inl ⟨by omega, _, _, Or.inl ⟨(mc1.word (j := 6) (by decide)).mp hw6, ha, hQ.1.2, hQ.2, rfl, by rw [hzz.2 (by decide)]⟩, mc, ym⟩ | exact Or.inl ⟨by omega, _, _, Or.inr (Or.inl ⟨(mc1.word (j := 12) (by decide)).mp hw12, ha, hQ.1.2, hQ.2, rfl, by rw [hzz.2 (by decide)]⟩), mc, ym⟩ | exact Or.inl ⟨by omega, _, _, Or.inr (Or.inr (Or.inl ⟨(mc1.word (j := 15) (by decide)).mp hw15, ha, hQ.1.2, hQ.2, rfl, by rw [hzz.2 (by decide)]⟩)), mc, ym⟩ | exact Or.inl ⟨by omega, _, _, Or.inr (Or.inr (Or.inr ⟨(mc1.word (j := 14) (by decide)).mp hw14, ha, rfl, by rw [hzz.1 rfl]⟩)), mc, ym⟩ | exact Or.inr ⟨by omega, fun S1 i1 q => by rcases q with ⟨q1, -, q3⟩ | ⟨q1, -, q3⟩ | ⟨q1, -, q3⟩ | ⟨q1, -, -⟩ <;> first | exact HD.no hd (by omega) ⟨⟨trivial, q3.1⟩, q3.2.1⟩ | exact HD.no hd (by omega) trivial | exact absurd (okW_j ((mc1.word (j := 6) (by decide)).mp hw6) q1 (by decide) (by decide)) (by decide) | exact absurd (okW_j ((mc1.word (j := 12) (by decide)).mp hw12) q1 (by decide) (by decide)) (by decide) | exact absurd (okW_j ((mc1.word (j := 15) (by decide)).mp hw15) q1 (by decide) (by decide)) (by decide) | exact absurd (okW_j ((mc1.word (j := 14) (by decide)).mp hw14) q1 (by decide) (by decide)) (by decide)⟩
            exact ret H330 locs330 _ _ dX12_readArticle_179 ⟨hKp330, ⟨by omega, by omega, by omega, by omega, hpost⟩⟩ hC330 hS330
          · refine lv_iload_n hx hb dX12_readArticle_100 rfl (lv_at hl 0 rfl) ?_
            refine lv_iconst (v := 2) hx hb dX12_readArticle_101 rfl ?_
            refine q_icmp_eq hx hb (a := 2) (b := 2) (by decide) (by decide) (tgt := 161) dX12_readArticle_102 rfl (fun c336 => ?_) (fun c336 => absurd c336 (by omega))
            refine lv_aload_n hx hb dX12_readArticle_161 rfl (lv_at hl 1 rfl) ?_
            refine q_getI E hC330 g0 fa_RX12_218 dX12_readArticle_162 (fun v337 ev337 lv337 uv337 => ?_)
            have qv337 := ev331.symm.trans ev337; subst qv337
            refine q_if_ne hx hb (a := v331.toInt) rfl (tgt := 179) dX12_readArticle_165 rfl (fun c338 => absurd c338 (by omega)) (fun c338 => ?_)
            obtain ⟨hQ, mc, ym⟩ := HD.live hd (by omega)
            have mc := mc
            have ym := ym
            obtain ⟨zz, hzz⟩ : ∃ z : Int, ((2 : Int) = 2 → z = 0) ∧ ((2 : Int) ≠ 2 → z = vl (i + 1 + 2)) := by first | exact ⟨0, fun _ => rfl, fun q => absurd rfl q⟩ | exact ⟨_, fun q => absurd q (by decide), fun _ => rfl⟩
            have hq9 : 0 ≤ zz := by first | (have := hzz.1 rfl; omega) | (have q1 := hzz.2 (by decide); have q2 : 0 ≤ vl (i + 1 + 2) := hQ.2.2.1; omega) | (exfalso; omega)
            have hlz9 : (sI H330 ca (2102 + 2 : Int).toNat).toInt = zz := by first | (rw [hzz.2 (by decide)]; exact hlv9.trans (hcv9 (by omega))) | (rw [hzz.1 rfl]; exact ym.2.2.2.2.2.2.1) | (exfalso; omega)
            refine lv_aload_n hx hb dX12_readArticle_168 rfl (lv_at hl 1 rfl) ?_
            refine q_getC E hC330 g0 fa_RX12_35 uc dX12_readArticle_169 ?_
            refine lv_sipush (v := 2098) hx hb dX12_readArticle_172 rfl ?_
            refine lv_iload_n hx hb dX12_readArticle_175 rfl (lv_at hl 0 rfl) ?_
            refine lv_iadd hx hb dX12_readArticle_176 (lv_topi (fun v339 ev339 => ?_))
            have ev339i : v339.toInt = (2098 + 2) := i_add ev339 (by decide) (by decide) (by omega) (by omega)
            refine lv_iconst (v := 1) hx hb dX12_readArticle_177 rfl ?_
            refine q_cast E hC330 hS330 gca (a := (2098 + 2)) ev339i (by omega) (by omega) (cs_n16 (a := (2098 + 2)) (by omega) (by omega)) dX12_readArticle_178 (fun H340 locs340 hC340 hS340 U340 => ?_)
            have hKp340 := Kp.upD gca rfl rfl (fun _ => ⟨fun _ => nd4 (by omega) (by omega), fun _ => by unfold dpu; omega, fun _ => by unfold dpn; omega⟩) U340 hKp330
            have mc := mc.ne U340 g0 gtq gca (by decide)
            have m341 : (sI H340 h0 (X.1.2 11 12)).toInt = (sI H330 h0 (X.1.2 11 12)).toInt := congrArg Int32.toInt (up_nI U340 (ne_k g0 gca (by decide)))
            have m342 : (sI H340 h0 (X.1.2 11 14)).toInt = (sI H330 h0 (X.1.2 11 14)).toInt := congrArg Int32.toInt (up_nI U340 (ne_k g0 gca (by decide)))
            have m343 := congrArg tk m342
            have m344 : (sI H340 h0 (X.1.2 11 16)).toInt = (sI H330 h0 (X.1.2 11 16)).toInt := congrArg Int32.toInt (up_nI U340 (ne_k g0 gca (by decide)))
            have m345 : (sI H340 h0 (X.1.2 11 18)).toInt = (sI H330 h0 (X.1.2 11 18)).toInt := congrArg Int32.toInt (up_nI U340 (ne_k g0 gca (by decide)))
            have m346 : (sI H340 h0 (X.1.2 11 17)).toInt = (sI H330 h0 (X.1.2 11 17)).toInt := congrArg Int32.toInt (up_nI U340 (ne_k g0 gca (by decide)))
            have ym := ym.art U340 g0 gca (w := 2) (z := zz) (by omega) (by omega) (by decide) hq9 hlz9
            have e347 := up_I U340
            have hz8 := tk_nn (sI H340 h0 (X.1.2 11 14)).toInt
            have hpost : ((sI H340 h0 (X.1.2 11 12)).toInt = 0 ∧ ∃ (S1 : YSt) (i1 : Nat), gArt kd vl S (i + 1) S1 i1 ∧ MC X H340 h0 tq kd vl w3 pos N i1 ∧ YSM X Γ H340 h0 ca kd vl w3 N S1) ∨ ((sI H340 h0 (X.1.2 11 12)).toInt ≠ 0 ∧ ∀ (S1 : YSt) (i1 : Nat), ¬ gArt kd vl S (i + 1) S1 i1) := by first | (exfalso; omega) | exact Or.inr ⟨by omega, hno⟩ | exact Or.inl ⟨by omega, _, _, Or.inl ⟨(mc1.word (j := 6) (by decide)).mp hw6, ha, hQ.1.2, hQ.2, rfl, by rw [hzz.2 (by decide)]⟩, mc, ym⟩ | exact Or.inl ⟨by omega, _, _, Or.inr (Or.inl ⟨(mc1.word (j := 12) (by decide)).mp hw12, ha, hQ.1.2, hQ.2, rfl, by rw [hzz.2 (by decide)]⟩), mc, ym⟩ | exact Or.inl ⟨by omega, _, _, Or.inr (Or.inr (Or.inl ⟨(mc1.word (j := 15) (by decide)).mp hw15, ha, hQ.1.2, hQ.2, rfl, by rw [hzz.2 (by decide)]⟩)), mc, ym⟩ | exact Or.inl ⟨by omega, _, _, Or.inr (Or.inr (Or.inr ⟨(mc1.word (j := 14) (by decide)).mp hw14, ha, rfl, by rw [hzz.1 rfl]⟩)), mc, ym⟩ | exact Or.inr ⟨by omega, fun S1 i1 q => by rcases q with ⟨q1, -, q3⟩ | ⟨q1, -, q3⟩ | ⟨q1, -, q3⟩ | ⟨q1, -, -⟩ <;> first | exact HD.no hd (by omega) ⟨⟨trivial, q3.1⟩, q3.2.1⟩ | exact HD.no hd (by omega) trivial | exact absurd (okW_j ((mc1.word (j := 6) (by decide)).mp hw6) q1 (by decide) (by decide)) (by decide) | exact absurd (okW_j ((mc1.word (j := 12) (by decide)).mp hw12) q1 (by decide) (by decide)) (by decide) | exact absurd (okW_j ((mc1.word (j := 15) (by decide)).mp hw15) q1 (by decide) (by decide)) (by decide) | exact absurd (okW_j ((mc1.word (j := 14) (by decide)).mp hw14) q1 (by decide) (by decide)) (by decide)⟩
            exact ret H340 locs340 _ _ dX12_readArticle_179 ⟨hKp340, ⟨by omega, by omega, by omega, by omega, hpost⟩⟩ hC340 hS340
        · refine lv_aload_n hx hb dX12_readArticle_65 rfl (lv_at hl 1 rfl) ?_
          refine q_getC E hC21 g0 fa_RX12_35 uc dX12_readArticle_66 ?_
          refine lv_sipush (v := 2098) hx hb dX12_readArticle_69 rfl ?_
          refine lv_iload_n hx hb dX12_readArticle_72 rfl (lv_at hl 0 rfl) ?_
          refine lv_iadd hx hb dX12_readArticle_73 (lv_topi (fun v348 ev348 => ?_))
          have ev348i : v348.toInt = (2098 + 2) := i_add ev348 (by decide) (by decide) (by omega) (by omega)
          refine q_cald E hC21 (lo := -2147483648) (hi := 2147483647) gca (a := (2098 + 2)) ev348i (by omega) (by omega) (cr_n16 (by omega) (by omega)) dX12_readArticle_74 (fun v349 ev349 _ _ => ?_)
          have m350 : (sI H21 ca ((2098 + 2) : Int).toNat).toInt = v349.toInt := congrArg Int32.toInt ev349
          have hta := ym.article (z := (2098 + 2)) (w := 2) (by omega) (by omega)
          refine lv_iconst (v := 1) hx hb dX12_readArticle_75 rfl ?_
          refine q_icmp_ne hx hb (a := v349.toInt) (b := 1) rfl (by decide) (tgt := 88) dX12_readArticle_76 rfl (fun c351 => ?_) (fun c351 => ?_)
          · have mc1 := mc
            have ha : S.2.2.2.2.2 (2) = -1 := by first | (exfalso; omega) | (by_cases e : S.2.2.2.2.2 (2) = -1; exact e; exfalso; rw [if_neg e] at hta; omega)
            have hk2 : kd (i + 1) ≠ 0 := by first | (have := ((mc1.word (j := 6) (by decide)).mp hw6).1; omega) | (have := ((mc1.word (j := 12) (by decide)).mp hw12).1; omega) | (have := ((mc1.word (j := 14) (by decide)).mp hw14).1; omega) | (have := ((mc1.word (j := 15) (by decide)).mp hw15).1; omega)
            have hd := HD.of (by omega) mc ym
            refine lv_aload_n hx hb dX12_readArticle_88 rfl (lv_at hl 1 rfl) ?_
            refine lv_iconst (v := 1) hx hb dX12_readArticle_89 rfl ?_
            refine q_goV (q_runV (As := [.int 1]) (rest := []) E hC21 hS324 (m_X12_must l X Γ H21 hC21 h0 g0 1 (a1 := 1) (by decide) ca gca uc tq ((kp_R hKp21 g0 (ci := 11) (k := 7) rfl (by decide) rfl).trans htq) gtq (by omega) (by omega)) cw_X12_must cl_RX12_244 g0 ⟨rfl, rfl⟩ rfl hl.1 rfl (Nat.zero_le _) (by decide) dX12_readArticle_90) hS324 (fun H352 locs352 hr352 hC352 hS352 => ?_)
            obtain ⟨hp352, hr352⟩ := hr352
            have hKp352 := hKp21.tr (hp352.mono rfl)
            obtain ⟨f352_0, f352_1, f352_2, f352_3, f352_4, f352_5⟩ := hr352
            have hd := HD.go hd hp352 g0 gca (by first | exact fun q => q.elim | exact fun _ => hk2) f352_5 f352_2 (by omega) rfl rfl
            refine lv_aload_n hx hb dX12_readArticle_93 rfl (lv_at hl 1 rfl) ?_
            refine q_getI E hC352 g0 fa_RX12_218 dX12_readArticle_94 (fun v353 ev353 lv353 uv353 => ?_)
            have m354 : (sI H352 h0 (X.1.2 11 12)).toInt = v353.toInt := (congrArg Int32.toInt ev353).trans rfl
            refine q_if_ne hx hb (a := v353.toInt) rfl (tgt := 161) dX12_readArticle_97 rfl (fun c355 => ?_) (fun c355 => ?_)
            · refine lv_aload_n hx hb dX12_readArticle_161 rfl (lv_at hl 1 rfl) ?_
              refine q_getI E hC352 g0 fa_RX12_218 dX12_readArticle_162 (fun v356 ev356 lv356 uv356 => ?_)
              have qv356 := ev353.symm.trans ev356; subst qv356
              refine q_if_ne hx hb (a := v353.toInt) rfl (tgt := 179) dX12_readArticle_165 rfl (fun c357 => ?_) (fun c357 => absurd c357 (by omega))
              have hz8 := tk_nn (sI H352 h0 (X.1.2 11 14)).toInt
              have hpost : ((sI H352 h0 (X.1.2 11 12)).toInt = 0 ∧ ∃ (S1 : YSt) (i1 : Nat), gArt kd vl S (i + 1) S1 i1 ∧ MC X H352 h0 tq kd vl w3 pos N i1 ∧ YSM X Γ H352 h0 ca kd vl w3 N S1) ∨ ((sI H352 h0 (X.1.2 11 12)).toInt ≠ 0 ∧ ∀ (S1 : YSt) (i1 : Nat), ¬ gArt kd vl S (i + 1) S1 i1) := by first | (exfalso; omega) | exact Or.inr ⟨by omega, hno⟩ | exact Or.inl ⟨by omega, _, _, Or.inl ⟨(mc1.word (j := 6) (by decide)).mp hw6, ha, hQ.1.2, hQ.2, rfl, by rw [hzz.2 (by decide)]⟩, mc, ym⟩ | exact Or.inl ⟨by omega, _, _, Or.inr (Or.inl ⟨(mc1.word (j := 12) (by decide)).mp hw12, ha, hQ.1.2, hQ.2, rfl, by rw [hzz.2 (by decide)]⟩), mc, ym⟩ | exact Or.inl ⟨by omega, _, _, Or.inr (Or.inr (Or.inl ⟨(mc1.word (j := 15) (by decide)).mp hw15, ha, hQ.1.2, hQ.2, rfl, by rw [hzz.2 (by decide)]⟩)), mc, ym⟩ | exact Or.inl ⟨by omega, _, _, Or.inr (Or.inr (Or.inr ⟨(mc1.word (j := 14) (by decide)).mp hw14, ha, rfl, by rw [hzz.1 rfl]⟩)), mc, ym⟩ | exact Or.inr ⟨by omega, fun S1 i1 q => by rcases q with ⟨q1, -, q3⟩ | ⟨q1, -, q3⟩ | ⟨q1, -, q3⟩ | ⟨q1, -, -⟩ <;> first | exact HD.no hd (by omega) ⟨⟨trivial, q3.1⟩, q3.2.1⟩ | exact HD.no hd (by omega) trivial | exact absurd (okW_j ((mc1.word (j := 6) (by decide)).mp hw6) q1 (by decide) (by decide)) (by decide) | exact absurd (okW_j ((mc1.word (j := 12) (by decide)).mp hw12) q1 (by decide) (by decide)) (by decide) | exact absurd (okW_j ((mc1.word (j := 15) (by decide)).mp hw15) q1 (by decide) (by decide)) (by decide) | exact absurd (okW_j ((mc1.word (j := 14) (by decide)).mp hw14) q1 (by decide) (by decide)) (by decide)⟩
              exact ret H352 locs352 _ _ dX12_readArticle_179 ⟨hKp352, ⟨by omega, by omega, by omega, by omega, hpost⟩⟩ hC352 hS352
            · refine lv_iload_n hx hb dX12_readArticle_100 rfl (lv_at hl 0 rfl) ?_
              refine lv_iconst (v := 2) hx hb dX12_readArticle_101 rfl ?_
              refine q_icmp_eq hx hb (a := 2) (b := 2) (by decide) (by decide) (tgt := 161) dX12_readArticle_102 rfl (fun c358 => ?_) (fun c358 => absurd c358 (by omega))
              refine lv_aload_n hx hb dX12_readArticle_161 rfl (lv_at hl 1 rfl) ?_
              refine q_getI E hC352 g0 fa_RX12_218 dX12_readArticle_162 (fun v359 ev359 lv359 uv359 => ?_)
              have qv359 := ev353.symm.trans ev359; subst qv359
              refine q_if_ne hx hb (a := v353.toInt) rfl (tgt := 179) dX12_readArticle_165 rfl (fun c360 => absurd c360 (by omega)) (fun c360 => ?_)
              obtain ⟨hQ, mc, ym⟩ := HD.live hd (by omega)
              have mc := mc
              have ym := ym
              obtain ⟨zz, hzz⟩ : ∃ z : Int, ((2 : Int) = 2 → z = 0) ∧ ((2 : Int) ≠ 2 → z = vl (i + 1 + 2)) := by first | exact ⟨0, fun _ => rfl, fun q => absurd rfl q⟩ | exact ⟨_, fun q => absurd q (by decide), fun _ => rfl⟩
              have hq9 : 0 ≤ zz := by first | (have := hzz.1 rfl; omega) | (have q1 := hzz.2 (by decide); have q2 : 0 ≤ vl (i + 1 + 2) := hQ.2.2.1; omega) | (exfalso; omega)
              have hlz9 : (sI H352 ca (2102 + 2 : Int).toNat).toInt = zz := by first | (rw [hzz.2 (by decide)]; exact hlv9.trans (hcv9 (by omega))) | (rw [hzz.1 rfl]; exact ym.2.2.2.2.2.2.1) | (exfalso; omega)
              refine lv_aload_n hx hb dX12_readArticle_168 rfl (lv_at hl 1 rfl) ?_
              refine q_getC E hC352 g0 fa_RX12_35 uc dX12_readArticle_169 ?_
              refine lv_sipush (v := 2098) hx hb dX12_readArticle_172 rfl ?_
              refine lv_iload_n hx hb dX12_readArticle_175 rfl (lv_at hl 0 rfl) ?_
              refine lv_iadd hx hb dX12_readArticle_176 (lv_topi (fun v361 ev361 => ?_))
              have ev361i : v361.toInt = (2098 + 2) := i_add ev361 (by decide) (by decide) (by omega) (by omega)
              refine lv_iconst (v := 1) hx hb dX12_readArticle_177 rfl ?_
              refine q_cast E hC352 hS352 gca (a := (2098 + 2)) ev361i (by omega) (by omega) (cs_n16 (a := (2098 + 2)) (by omega) (by omega)) dX12_readArticle_178 (fun H362 locs362 hC362 hS362 U362 => ?_)
              have hKp362 := Kp.upD gca rfl rfl (fun _ => ⟨fun _ => nd4 (by omega) (by omega), fun _ => by unfold dpu; omega, fun _ => by unfold dpn; omega⟩) U362 hKp352
              have mc := mc.ne U362 g0 gtq gca (by decide)
              have m363 : (sI H362 h0 (X.1.2 11 12)).toInt = (sI H352 h0 (X.1.2 11 12)).toInt := congrArg Int32.toInt (up_nI U362 (ne_k g0 gca (by decide)))
              have m364 : (sI H362 h0 (X.1.2 11 14)).toInt = (sI H352 h0 (X.1.2 11 14)).toInt := congrArg Int32.toInt (up_nI U362 (ne_k g0 gca (by decide)))
              have m365 := congrArg tk m364
              have m366 : (sI H362 h0 (X.1.2 11 16)).toInt = (sI H352 h0 (X.1.2 11 16)).toInt := congrArg Int32.toInt (up_nI U362 (ne_k g0 gca (by decide)))
              have m367 : (sI H362 h0 (X.1.2 11 18)).toInt = (sI H352 h0 (X.1.2 11 18)).toInt := congrArg Int32.toInt (up_nI U362 (ne_k g0 gca (by decide)))
              have m368 : (sI H362 h0 (X.1.2 11 17)).toInt = (sI H352 h0 (X.1.2 11 17)).toInt := congrArg Int32.toInt (up_nI U362 (ne_k g0 gca (by decide)))
              have ym := ym.art U362 g0 gca (w := 2) (z := zz) (by omega) (by omega) (by decide) hq9 hlz9
              have e369 := up_I U362
              have hz8 := tk_nn (sI H362 h0 (X.1.2 11 14)).toInt
              have hpost : ((sI H362 h0 (X.1.2 11 12)).toInt = 0 ∧ ∃ (S1 : YSt) (i1 : Nat), gArt kd vl S (i + 1) S1 i1 ∧ MC X H362 h0 tq kd vl w3 pos N i1 ∧ YSM X Γ H362 h0 ca kd vl w3 N S1) ∨ ((sI H362 h0 (X.1.2 11 12)).toInt ≠ 0 ∧ ∀ (S1 : YSt) (i1 : Nat), ¬ gArt kd vl S (i + 1) S1 i1) := by first | (exfalso; omega) | exact Or.inr ⟨by omega, hno⟩ | exact Or.inl ⟨by omega, _, _, Or.inl ⟨(mc1.word (j := 6) (by decide)).mp hw6, ha, hQ.1.2, hQ.2, rfl, by rw [hzz.2 (by decide)]⟩, mc, ym⟩ | exact Or.inl ⟨by omega, _, _, Or.inr (Or.inl ⟨(mc1.word (j := 12) (by decide)).mp hw12, ha, hQ.1.2, hQ.2, rfl, by rw [hzz.2 (by decide)]⟩), mc, ym⟩ | exact Or.inl ⟨by omega, _, _, Or.inr (Or.inr (Or.inl ⟨(mc1.word (j := 15) (by decide)).mp hw15, ha, hQ.1.2, hQ.2, rfl, by rw [hzz.2 (by decide)]⟩)), mc, ym⟩ | exact Or.inl ⟨by omega, _, _, Or.inr (Or.inr (Or.inr ⟨(mc1.word (j := 14) (by decide)).mp hw14, ha, rfl, by rw [hzz.1 rfl]⟩)), mc, ym⟩ | exact Or.inr ⟨by omega, fun S1 i1 q => by rcases q with ⟨q1, -, q3⟩ | ⟨q1, -, q3⟩ | ⟨q1, -, q3⟩ | ⟨q1, -, -⟩ <;> first | exact HD.no hd (by omega) ⟨⟨trivial, q3.1⟩, q3.2.1⟩ | exact HD.no hd (by omega) trivial | exact absurd (okW_j ((mc1.word (j := 6) (by decide)).mp hw6) q1 (by decide) (by decide)) (by decide) | exact absurd (okW_j ((mc1.word (j := 12) (by decide)).mp hw12) q1 (by decide) (by decide)) (by decide) | exact absurd (okW_j ((mc1.word (j := 15) (by decide)).mp hw15) q1 (by decide) (by decide)) (by decide) | exact absurd (okW_j ((mc1.word (j := 14) (by decide)).mp hw14) q1 (by decide) (by decide)) (by decide)⟩
              exact ret H362 locs362 _ _ dX12_readArticle_179 ⟨hKp362, ⟨by omega, by omega, by omega, by omega, hpost⟩⟩ hC362 hS362
          · have hno : ∀ (S1 : YSt) (i1 : Nat), ¬ gArt kd vl S (i + 1) S1 i1 := fun S1 i1 q => by rcases q with ⟨q1, q2, -⟩ | ⟨q1, q2, -⟩ | ⟨q1, q2, -⟩ | ⟨q1, q2, -⟩ <;> first | exact absurd ((mc.word (by decide)).mpr q1) (by assumption) | exact absurd (okW_j ((mc.word (j := 6) (by decide)).mp hw6) q1 (by decide) (by decide)) (by decide) | exact absurd (okW_j ((mc.word (j := 12) (by decide)).mp hw12) q1 (by decide) (by decide)) (by decide) | exact absurd (okW_j ((mc.word (j := 15) (by decide)).mp hw15) q1 (by decide) (by decide)) (by decide) | exact absurd (okW_j ((mc.word (j := 14) (by decide)).mp hw14) q1 (by decide) (by decide)) (by decide) | (rw [if_pos q2] at hta; omega)
            refine lv_aload_n hx hb dX12_readArticle_79 rfl (lv_at hl 1 rfl) ?_
            refine lv_iconst (v := 5) hx hb dX12_readArticle_80 rfl ?_
            refine lv_aload_n hx hb dX12_readArticle_81 rfl (lv_at hl 1 rfl) ?_
            refine q_getI E hC21 g0 fa_RX12_114 dX12_readArticle_82 (fun v370 ev370 lv370 uv370 => ?_)
            refine q_goV (q_runV (As := [.int 5, .int v370]) (rest := []) E hC21 hS324 (m_X12_fail l X Γ H21 hC21 h0 g0 5 (a1 := 5) (by decide) v370 (a2 := v370.toInt) rfl ca gca uc (by omega) (by omega)) cw_X12_fail cl_RX12_224 g0 ⟨rfl, rfl⟩ rfl hl.1 rfl (Nat.zero_le _) (by decide) dX12_readArticle_85) hS324 (fun H371 locs371 hr371 hC371 hS371 => ?_)
            obtain ⟨hp371, hr371⟩ := hr371
            have hKp371 := hKp21.tr (hp371.mono rfl)
            have ym := ym.kp hp371 g0 gca rfl rfl
            obtain ⟨f371_0, f371_1, f371_2, f371_3⟩ := hr371
            have hd := HD.dead (i := 0) (S := S) (kd := kd) (vl := vl) (w3 := w3) (pos := pos) (N := N) (tq := tq) (ca := ca) (X := X) (Γ := Γ) (H := H371) (r := h0) (by omega)
            refine lv_aload_n hx hb dX12_readArticle_88 rfl (lv_at hl 1 rfl) ?_
            refine lv_iconst (v := 1) hx hb dX12_readArticle_89 rfl ?_
            refine q_goV (q_runV (As := [.int 1]) (rest := []) E hC371 hS371 (m_X12_must l X Γ H371 hC371 h0 g0 1 (a1 := 1) (by decide) ca gca uc tq ((kp_R hKp371 g0 (ci := 11) (k := 7) rfl (by decide) rfl).trans htq) gtq (by omega) (by omega)) cw_X12_must cl_RX12_244 g0 ⟨rfl, rfl⟩ rfl hl.1 rfl (Nat.zero_le _) (by decide) dX12_readArticle_90) hS371 (fun H372 locs372 hr372 hC372 hS372 => ?_)
            obtain ⟨hp372, hr372⟩ := hr372
            have hKp372 := hKp371.tr (hp372.mono rfl)
            obtain ⟨f372_0, f372_1, f372_2, f372_3, f372_4, f372_5⟩ := hr372
            have hd := HD.go hd hp372 g0 gca (by first | exact fun q => q.elim | exact fun _ => hk2) f372_5 f372_2 (by omega) rfl rfl
            refine lv_aload_n hx hb dX12_readArticle_93 rfl (lv_at hl 1 rfl) ?_
            refine q_getI E hC372 g0 fa_RX12_218 dX12_readArticle_94 (fun v373 ev373 lv373 uv373 => ?_)
            have m374 : (sI H372 h0 (X.1.2 11 12)).toInt = v373.toInt := (congrArg Int32.toInt ev373).trans rfl
            refine q_if_ne hx hb (a := v373.toInt) rfl (tgt := 161) dX12_readArticle_97 rfl (fun c375 => ?_) (fun c375 => ?_)
            · refine lv_aload_n hx hb dX12_readArticle_161 rfl (lv_at hl 1 rfl) ?_
              refine q_getI E hC372 g0 fa_RX12_218 dX12_readArticle_162 (fun v376 ev376 lv376 uv376 => ?_)
              have qv376 := ev373.symm.trans ev376; subst qv376
              refine q_if_ne hx hb (a := v373.toInt) rfl (tgt := 179) dX12_readArticle_165 rfl (fun c377 => ?_) (fun c377 => absurd c377 (by omega))
              have hz8 := tk_nn (sI H372 h0 (X.1.2 11 14)).toInt
              have hpost : ((sI H372 h0 (X.1.2 11 12)).toInt = 0 ∧ ∃ (S1 : YSt) (i1 : Nat), gArt kd vl S (i + 1) S1 i1 ∧ MC X H372 h0 tq kd vl w3 pos N i1 ∧ YSM X Γ H372 h0 ca kd vl w3 N S1) ∨ ((sI H372 h0 (X.1.2 11 12)).toInt ≠ 0 ∧ ∀ (S1 : YSt) (i1 : Nat), ¬ gArt kd vl S (i + 1) S1 i1) := by first | (exfalso; omega) | exact Or.inr ⟨by omega, hno⟩ | exact Or.inl ⟨by omega, _, _, Or.inl ⟨(mc1.word (j := 6) (by decide)).mp hw6, ha, hQ.1.2, hQ.2, rfl, by rw [hzz.2 (by decide)]⟩, mc, ym⟩ | exact Or.inl ⟨by omega, _, _, Or.inr (Or.inl ⟨(mc1.word (j := 12) (by decide)).mp hw12, ha, hQ.1.2, hQ.2, rfl, by rw [hzz.2 (by decide)]⟩), mc, ym⟩ | exact Or.inl ⟨by omega, _, _, Or.inr (Or.inr (Or.inl ⟨(mc1.word (j := 15) (by decide)).mp hw15, ha, hQ.1.2, hQ.2, rfl, by rw [hzz.2 (by decide)]⟩)), mc, ym⟩ | exact Or.inl ⟨by omega, _, _, Or.inr (Or.inr (Or.inr ⟨(mc1.word (j := 14) (by decide)).mp hw14, ha, rfl, by rw [hzz.1 rfl]⟩)), mc, ym⟩ | exact Or.inr ⟨by omega, fun S1 i1 q => by rcases q with ⟨q1, -, q3⟩ | ⟨q1, -, q3⟩ | ⟨q1, -, q3⟩ | ⟨q1, -, -⟩ <;> first | exact HD.no hd (by omega) ⟨⟨trivial, q3.1⟩, q3.2.1⟩ | exact HD.no hd (by omega) trivial | exact absurd (okW_j ((mc1.word (j := 6) (by decide)).mp hw6) q1 (by decide) (by decide)) (by decide) | exact absurd (okW_j ((mc1.word (j := 12) (by decide)).mp hw12) q1 (by decide) (by decide)) (by decide) | exact absurd (okW_j ((mc1.word (j := 15) (by decide)).mp hw15) q1 (by decide) (by decide)) (by decide) | exact absurd (okW_j ((mc1.word (j := 14) (by decide)).mp hw14) q1 (by decide) (by decide)) (by decide)⟩
              exact ret H372 locs372 _ _ dX12_readArticle_179 ⟨hKp372, ⟨by omega, by omega, by omega, by omega, hpost⟩⟩ hC372 hS372
            · refine lv_iload_n hx hb dX12_readArticle_100 rfl (lv_at hl 0 rfl) ?_
              refine lv_iconst (v := 2) hx hb dX12_readArticle_101 rfl ?_
              refine q_icmp_eq hx hb (a := 2) (b := 2) (by decide) (by decide) (tgt := 161) dX12_readArticle_102 rfl (fun c378 => ?_) (fun c378 => absurd c378 (by omega))
              refine lv_aload_n hx hb dX12_readArticle_161 rfl (lv_at hl 1 rfl) ?_
              refine q_getI E hC372 g0 fa_RX12_218 dX12_readArticle_162 (fun v379 ev379 lv379 uv379 => ?_)
              have qv379 := ev373.symm.trans ev379; subst qv379
              refine q_if_ne hx hb (a := v373.toInt) rfl (tgt := 179) dX12_readArticle_165 rfl (fun c380 => absurd c380 (by omega)) (fun c380 => ?_)
              obtain ⟨hQ, mc, ym⟩ := HD.live hd (by omega)
              have mc := mc
              have ym := ym
              obtain ⟨zz, hzz⟩ : ∃ z : Int, ((2 : Int) = 2 → z = 0) ∧ ((2 : Int) ≠ 2 → z = vl (i + 1 + 2)) := by first | exact ⟨0, fun _ => rfl, fun q => absurd rfl q⟩ | exact ⟨_, fun q => absurd q (by decide), fun _ => rfl⟩
              have hq9 : 0 ≤ zz := by first | (have := hzz.1 rfl; omega) | (have q1 := hzz.2 (by decide); have q2 : 0 ≤ vl (i + 1 + 2) := hQ.2.2.1; omega) | (exfalso; omega)
              have hlz9 : (sI H372 ca (2102 + 2 : Int).toNat).toInt = zz := by first | (rw [hzz.2 (by decide)]; exact hlv9.trans (hcv9 (by omega))) | (rw [hzz.1 rfl]; exact ym.2.2.2.2.2.2.1) | (exfalso; omega)
              refine lv_aload_n hx hb dX12_readArticle_168 rfl (lv_at hl 1 rfl) ?_
              refine q_getC E hC372 g0 fa_RX12_35 uc dX12_readArticle_169 ?_
              refine lv_sipush (v := 2098) hx hb dX12_readArticle_172 rfl ?_
              refine lv_iload_n hx hb dX12_readArticle_175 rfl (lv_at hl 0 rfl) ?_
              refine lv_iadd hx hb dX12_readArticle_176 (lv_topi (fun v381 ev381 => ?_))
              have ev381i : v381.toInt = (2098 + 2) := i_add ev381 (by decide) (by decide) (by omega) (by omega)
              refine lv_iconst (v := 1) hx hb dX12_readArticle_177 rfl ?_
              refine q_cast E hC372 hS372 gca (a := (2098 + 2)) ev381i (by omega) (by omega) (cs_n16 (a := (2098 + 2)) (by omega) (by omega)) dX12_readArticle_178 (fun H382 locs382 hC382 hS382 U382 => ?_)
              have hKp382 := Kp.upD gca rfl rfl (fun _ => ⟨fun _ => nd4 (by omega) (by omega), fun _ => by unfold dpu; omega, fun _ => by unfold dpn; omega⟩) U382 hKp372
              have mc := mc.ne U382 g0 gtq gca (by decide)
              have m383 : (sI H382 h0 (X.1.2 11 12)).toInt = (sI H372 h0 (X.1.2 11 12)).toInt := congrArg Int32.toInt (up_nI U382 (ne_k g0 gca (by decide)))
              have m384 : (sI H382 h0 (X.1.2 11 14)).toInt = (sI H372 h0 (X.1.2 11 14)).toInt := congrArg Int32.toInt (up_nI U382 (ne_k g0 gca (by decide)))
              have m385 := congrArg tk m384
              have m386 : (sI H382 h0 (X.1.2 11 16)).toInt = (sI H372 h0 (X.1.2 11 16)).toInt := congrArg Int32.toInt (up_nI U382 (ne_k g0 gca (by decide)))
              have m387 : (sI H382 h0 (X.1.2 11 18)).toInt = (sI H372 h0 (X.1.2 11 18)).toInt := congrArg Int32.toInt (up_nI U382 (ne_k g0 gca (by decide)))
              have m388 : (sI H382 h0 (X.1.2 11 17)).toInt = (sI H372 h0 (X.1.2 11 17)).toInt := congrArg Int32.toInt (up_nI U382 (ne_k g0 gca (by decide)))
              have ym := ym.art U382 g0 gca (w := 2) (z := zz) (by omega) (by omega) (by decide) hq9 hlz9
              have e389 := up_I U382
              have hz8 := tk_nn (sI H382 h0 (X.1.2 11 14)).toInt
              have hpost : ((sI H382 h0 (X.1.2 11 12)).toInt = 0 ∧ ∃ (S1 : YSt) (i1 : Nat), gArt kd vl S (i + 1) S1 i1 ∧ MC X H382 h0 tq kd vl w3 pos N i1 ∧ YSM X Γ H382 h0 ca kd vl w3 N S1) ∨ ((sI H382 h0 (X.1.2 11 12)).toInt ≠ 0 ∧ ∀ (S1 : YSt) (i1 : Nat), ¬ gArt kd vl S (i + 1) S1 i1) := by first | (exfalso; omega) | exact Or.inr ⟨by omega, hno⟩ | exact Or.inl ⟨by omega, _, _, Or.inl ⟨(mc1.word (j := 6) (by decide)).mp hw6, ha, hQ.1.2, hQ.2, rfl, by rw [hzz.2 (by decide)]⟩, mc, ym⟩ | exact Or.inl ⟨by omega, _, _, Or.inr (Or.inl ⟨(mc1.word (j := 12) (by decide)).mp hw12, ha, hQ.1.2, hQ.2, rfl, by rw [hzz.2 (by decide)]⟩), mc, ym⟩ | exact Or.inl ⟨by omega, _, _, Or.inr (Or.inr (Or.inl ⟨(mc1.word (j := 15) (by decide)).mp hw15, ha, hQ.1.2, hQ.2, rfl, by rw [hzz.2 (by decide)]⟩)), mc, ym⟩ | exact Or.inl ⟨by omega, _, _, Or.inr (Or.inr (Or.inr ⟨(mc1.word (j := 14) (by decide)).mp hw14, ha, rfl, by rw [hzz.1 rfl]⟩)), mc, ym⟩ | exact Or.inr ⟨by omega, fun S1 i1 q => by rcases q with ⟨q1, -, q3⟩ | ⟨q1, -, q3⟩ | ⟨q1, -, q3⟩ | ⟨q1, -, -⟩ <;> first | exact HD.no hd (by omega) ⟨⟨trivial, q3.1⟩, q3.2.1⟩ | exact HD.no hd (by omega) trivial | exact absurd (okW_j ((mc1.word (j := 6) (by decide)).mp hw6) q1 (by decide) (by decide)) (by decide) | exact absurd (okW_j ((mc1.word (j := 12) (by decide)).mp hw12) q1 (by decide) (by decide)) (by decide) | exact absurd (okW_j ((mc1.word (j := 15) (by decide)).mp hw15) q1 (by decide) (by decide)) (by decide) | exact absurd (okW_j ((mc1.word (j := 14) (by decide)).mp hw14) q1 (by decide) (by decide)) (by decide)⟩
              exact ret H382 locs382 _ _ dX12_readArticle_179 ⟨hKp382, ⟨by omega, by omega, by omega, by omega, hpost⟩⟩ hC382 hS382
      · have hw14 := hw
        refine q_if_eq hx hb (a := 0) (by decide) (tgt := 37) dX12_readArticle_30 rfl (fun c390 => ?_) (fun c390 => absurd c390 (by omega))
        refine lv_aload_n hx hb dX12_readArticle_37 rfl (lv_at hl 0 rfl) ?_
        refine q_goIp (q_runV (As := []) (rest := []) E hC21 hS324 (m_X12_isIce l X Γ H21 hC21 h0 g0 ca gca uc) cw_X12_isIce cl_RX12_157 g0 ⟨rfl, rfl⟩ rfl hl.1 rfl (Nat.zero_le _) (by decide) dX12_readArticle_38) hS324 (fun v391 locs391 hr391 hS391 => ?_)
        rcases hr391 with ⟨rfl, hw⟩ | ⟨rfl, hw⟩
        · have hw15 := hw
          refine q_if_eq hx hb (a := 1) (by decide) (tgt := 48) dX12_readArticle_41 rfl (fun c392 => absurd c392 (by omega)) (fun c392 => ?_)
          refine lv_iconst (v := 3) hx hb dX12_readArticle_44 rfl ?_
          refine lv_goto (tgt := 49) hx hb dX12_readArticle_45 rfl ?_
          refine lv_istore_n hx hb dX12_readArticle_49 rfl hl (by decide) rfl (fun ls hl => ?_)
          have hl : lv_has ls 2 [(1, .int 3), (0, .ref h0)] := hl
          refine lv_iload_n hx hb dX12_readArticle_50 rfl (lv_at hl 0 rfl) ?_
          refine q_if_ge hx hb (a := 3) (by decide) (tgt := 58) dX12_readArticle_51 rfl (fun c393 => ?_) (fun c393 => absurd c393 (by omega))
          refine lv_aload_n hx hb dX12_readArticle_58 rfl (lv_at hl 1 rfl) ?_
          refine q_getI E hC21 g0 fa_RX12_218 dX12_readArticle_59 (fun v394 ev394 lv394 uv394 => ?_)
          have m395 : (sI H21 h0 (X.1.2 11 12)).toInt = v394.toInt := (congrArg Int32.toInt ev394).trans rfl
          refine q_if_ne hx hb (a := v394.toInt) rfl (tgt := 88) dX12_readArticle_62 rfl (fun c396 => ?_) (fun c396 => ?_)
          · have mc1 := mc
            have ha : S.2.2.2.2.2 (3) = -1 := by first | (exfalso; omega) | (by_cases e : S.2.2.2.2.2 (3) = -1; exact e; exfalso; rw [if_neg e] at hta; omega)
            have hk2 : kd (i + 1) ≠ 0 := by first | (have := ((mc1.word (j := 6) (by decide)).mp hw6).1; omega) | (have := ((mc1.word (j := 12) (by decide)).mp hw12).1; omega) | (have := ((mc1.word (j := 14) (by decide)).mp hw14).1; omega) | (have := ((mc1.word (j := 15) (by decide)).mp hw15).1; omega)
            have hd := HD.of (by omega) mc ym
            refine lv_aload_n hx hb dX12_readArticle_88 rfl (lv_at hl 1 rfl) ?_
            refine lv_iconst (v := 1) hx hb dX12_readArticle_89 rfl ?_
            refine q_goV (q_runV (As := [.int 1]) (rest := []) E hC21 hS391 (m_X12_must l X Γ H21 hC21 h0 g0 1 (a1 := 1) (by decide) ca gca uc tq ((kp_R hKp21 g0 (ci := 11) (k := 7) rfl (by decide) rfl).trans htq) gtq (by omega) (by omega)) cw_X12_must cl_RX12_244 g0 ⟨rfl, rfl⟩ rfl hl.1 rfl (Nat.zero_le _) (by decide) dX12_readArticle_90) hS391 (fun H397 locs397 hr397 hC397 hS397 => ?_)
            obtain ⟨hp397, hr397⟩ := hr397
            have hKp397 := hKp21.tr (hp397.mono rfl)
            obtain ⟨f397_0, f397_1, f397_2, f397_3, f397_4, f397_5⟩ := hr397
            have hd := HD.go hd hp397 g0 gca (by first | exact fun q => q.elim | exact fun _ => hk2) f397_5 f397_2 (by omega) rfl rfl
            refine lv_aload_n hx hb dX12_readArticle_93 rfl (lv_at hl 1 rfl) ?_
            refine q_getI E hC397 g0 fa_RX12_218 dX12_readArticle_94 (fun v398 ev398 lv398 uv398 => ?_)
            have m399 : (sI H397 h0 (X.1.2 11 12)).toInt = v398.toInt := (congrArg Int32.toInt ev398).trans rfl
            refine q_if_ne hx hb (a := v398.toInt) rfl (tgt := 161) dX12_readArticle_97 rfl (fun c400 => ?_) (fun c400 => ?_)
            · refine lv_aload_n hx hb dX12_readArticle_161 rfl (lv_at hl 1 rfl) ?_
              refine q_getI E hC397 g0 fa_RX12_218 dX12_readArticle_162 (fun v401 ev401 lv401 uv401 => ?_)
              have qv401 := ev398.symm.trans ev401; subst qv401
              refine q_if_ne hx hb (a := v398.toInt) rfl (tgt := 179) dX12_readArticle_165 rfl (fun c402 => ?_) (fun c402 => absurd c402 (by omega))
              have hz8 := tk_nn (sI H397 h0 (X.1.2 11 14)).toInt
              have hpost : ((sI H397 h0 (X.1.2 11 12)).toInt = 0 ∧ ∃ (S1 : YSt) (i1 : Nat), gArt kd vl S (i + 1) S1 i1 ∧ MC X H397 h0 tq kd vl w3 pos N i1 ∧ YSM X Γ H397 h0 ca kd vl w3 N S1) ∨ ((sI H397 h0 (X.1.2 11 12)).toInt ≠ 0 ∧ ∀ (S1 : YSt) (i1 : Nat), ¬ gArt kd vl S (i + 1) S1 i1) := by first | (exfalso; omega) | exact Or.inr ⟨by omega, hno⟩ | exact Or.inl ⟨by omega, _, _, Or.inl ⟨(mc1.word (j := 6) (by decide)).mp hw6, ha, hQ.1.2, hQ.2, rfl, by rw [hzz.2 (by decide)]⟩, mc, ym⟩ | exact Or.inl ⟨by omega, _, _, Or.inr (Or.inl ⟨(mc1.word (j := 12) (by decide)).mp hw12, ha, hQ.1.2, hQ.2, rfl, by rw [hzz.2 (by decide)]⟩), mc, ym⟩ | exact Or.inl ⟨by omega, _, _, Or.inr (Or.inr (Or.inl ⟨(mc1.word (j := 15) (by decide)).mp hw15, ha, hQ.1.2, hQ.2, rfl, by rw [hzz.2 (by decide)]⟩)), mc, ym⟩ | exact Or.inl ⟨by omega, _, _, Or.inr (Or.inr (Or.inr ⟨(mc1.word (j := 14) (by decide)).mp hw14, ha, rfl, by rw [hzz.1 rfl]⟩)), mc, ym⟩ | exact Or.inr ⟨by omega, fun S1 i1 q => by rcases q with ⟨q1, -, q3⟩ | ⟨q1, -, q3⟩ | ⟨q1, -, q3⟩ | ⟨q1, -, -⟩ <;> first | exact HD.no hd (by omega) ⟨⟨trivial, q3.1⟩, q3.2.1⟩ | exact HD.no hd (by omega) trivial | exact absurd (okW_j ((mc1.word (j := 6) (by decide)).mp hw6) q1 (by decide) (by decide)) (by decide) | exact absurd (okW_j ((mc1.word (j := 12) (by decide)).mp hw12) q1 (by decide) (by decide)) (by decide) | exact absurd (okW_j ((mc1.word (j := 15) (by decide)).mp hw15) q1 (by decide) (by decide)) (by decide) | exact absurd (okW_j ((mc1.word (j := 14) (by decide)).mp hw14) q1 (by decide) (by decide)) (by decide)⟩
              exact ret H397 locs397 _ _ dX12_readArticle_179 ⟨hKp397, ⟨by omega, by omega, by omega, by omega, hpost⟩⟩ hC397 hS397
            · refine lv_iload_n hx hb dX12_readArticle_100 rfl (lv_at hl 0 rfl) ?_
              refine lv_iconst (v := 2) hx hb dX12_readArticle_101 rfl ?_
              refine q_icmp_eq hx hb (a := 3) (b := 2) (by decide) (by decide) (tgt := 161) dX12_readArticle_102 rfl (fun c403 => absurd c403 (by omega)) (fun c403 => ?_)
              refine lv_aload_n hx hb dX12_readArticle_105 rfl (lv_at hl 1 rfl) ?_
              refine lv_iload_n hx hb dX12_readArticle_106 rfl (lv_at hl 0 rfl) ?_
              refine lv_iconst (v := 1) hx hb dX12_readArticle_107 rfl ?_
              refine q_icmp_ne hx hb (a := 3) (b := 1) (by decide) (by decide) (tgt := 118) dX12_readArticle_108 rfl (fun c404 => ?_) (fun c404 => absurd c404 (by omega))
              refine lv_aload_n hx hb dX12_readArticle_118 rfl (lv_at hl 1 rfl) ?_
              refine q_goIp (q_runV (As := []) (rest := [.ref h0]) E hC397 hS397 (m_X12_isAbove l X Γ H397 hC397 h0 g0 ca gca uc) cw_X12_isAbove cl_RX12_196 g0 ⟨rfl, rfl⟩ rfl hl.1 rfl (show _ ≤ _ from by simp [Value.category]) (by decide) dX12_readArticle_119) hS397 (fun v405 locs405 hr405 hS405 => ?_)
              have b405 : (v405.toInt = 1 ∧ _) ∨ (v405.toInt = 0 ∧ _) := hr405.imp (fun h => ⟨by rw [h.1]; decide, h.2⟩) (fun h => ⟨by rw [h.1]; decide, h.2⟩)
              have hbz := b405
              refine q_goV (q_runV (As := [.int v405]) (rest := []) E hC397 hS405 (m_X12_must l X Γ H397 hC397 h0 g0 v405 (a1 := v405.toInt) rfl ca gca uc tq ((kp_R hKp397 g0 (ci := 11) (k := 7) rfl (by decide) rfl).trans htq) gtq (by omega) (by omega)) cw_X12_must cl_RX12_244 g0 ⟨rfl, rfl⟩ rfl hl.1 rfl (Nat.zero_le _) (by decide) dX12_readArticle_122) hS405 (fun H406 locs406 hr406 hC406 hS406 => ?_)
              obtain ⟨hp406, hr406⟩ := hr406
              have hKp406 := hKp397.tr (hp406.mono rfl)
              obtain ⟨f406_0, f406_1, f406_2, f406_3, f406_4, f406_5⟩ := hr406
              have hd := HD.must hd hp406 g0 gca (by first | exact hbz | exact Or.inl ⟨rfl, hw⟩ | exact Or.inr ⟨rfl, hw⟩) f406_5 f406_2 (by omega) rfl rfl (by decide)
              refine lv_aload_n hx hb dX12_readArticle_125 rfl (lv_at hl 1 rfl) ?_
              refine q_getC E hC406 g0 fa_RX12_35 uc dX12_readArticle_126 ?_
              refine lv_sipush (v := 2102) hx hb dX12_readArticle_129 rfl ?_
              refine lv_iload_n hx hb dX12_readArticle_132 rfl (lv_at hl 0 rfl) ?_
              refine lv_iadd hx hb dX12_readArticle_133 (lv_topi (fun v407 ev407 => ?_))
              have ev407i : v407.toInt = (2102 + 3) := i_add ev407 (by decide) (by decide) (by omega) (by omega)
              refine lv_aload_n hx hb dX12_readArticle_134 rfl (lv_at hl 1 rfl) ?_
              refine lv_iconst (v := 0) hx hb dX12_readArticle_135 rfl ?_
              refine lv_iload_n hx hb dX12_readArticle_136 rfl (lv_at hl 0 rfl) ?_
              refine q_if_ne hx hb (a := 3) (by decide) (tgt := 145) dX12_readArticle_137 rfl (fun c408 => ?_) (fun c408 => absurd c408 (by omega))
              refine lv_iload_n hx hb dX12_readArticle_145 rfl (lv_at hl 0 rfl) ?_
              refine lv_iconst (v := 1) hx hb dX12_readArticle_146 rfl ?_
              refine q_icmp_ne hx hb (a := 3) (b := 1) (by decide) (by decide) (tgt := 155) dX12_readArticle_147 rfl (fun c409 => ?_) (fun c409 => absurd c409 (by omega))
              refine lv_bipush (v := 18) hx hb dX12_readArticle_155 rfl ?_
              refine q_goI (q_runV (As := [.int 0, .int 18]) (rest := [.int v407, .ref ca]) E hC406 hS406 (m_X12_count l X Γ H406 hC406 h0 g0 0 (a1 := 0) (by decide) 18 (a2 := 18) (by decide) ca gca uc tq ((kp_R hKp406 g0 (ci := 11) (k := 7) rfl (by decide) rfl).trans htq) gtq (by omega) (by omega) (by omega) (by omega)) cw_X12_count cl_RX12_248 g0 ⟨rfl, rfl⟩ rfl hl.1 rfl (show _ ≤ _ from by simp [Value.category]) (by decide) dX12_readArticle_157) hS406 (fun v410 H410 locs410 hr410 hC410 hS410 => ?_)
              obtain ⟨hp410, hr410⟩ := hr410
              have hKp410 := hKp406.tr (hp410.mono rfl)
              obtain ⟨f410_0, f410_1, f410_2, f410_3, f410_4, f410_5, f410_6, f410_7, f410_8⟩ := hr410
              have hdc := HD.count hd hp410 g0 gca f410_8 f410_2 (by omega) rfl rfl
              have hd := hdc.1
              have hcv9 := hdc.2
              refine q_cast E hC410 hS410 gca (a := (2102 + 3)) ev407i (by omega) (by omega) (cs_n16 (a := (2102 + 3)) (by omega) (by omega)) dX12_readArticle_160 (fun H411 locs411 hC411 hS411 U411 => ?_)
              have hKp411 := Kp.upD gca rfl rfl (fun _ => ⟨fun _ => nd4 (by omega) (by omega), fun _ => by unfold dpu; omega, fun _ => by unfold dpn; omega⟩) U411 hKp410
              have m412 : (sI H411 h0 (X.1.2 11 12)).toInt = (sI H410 h0 (X.1.2 11 12)).toInt := congrArg Int32.toInt (up_nI U411 (ne_k g0 gca (by decide)))
              have m413 : (sI H411 h0 (X.1.2 11 14)).toInt = (sI H410 h0 (X.1.2 11 14)).toInt := congrArg Int32.toInt (up_nI U411 (ne_k g0 gca (by decide)))
              have m414 := congrArg tk m413
              have m415 : (sI H411 h0 (X.1.2 11 16)).toInt = (sI H410 h0 (X.1.2 11 16)).toInt := congrArg Int32.toInt (up_nI U411 (ne_k g0 gca (by decide)))
              have m416 : (sI H411 h0 (X.1.2 11 18)).toInt = (sI H410 h0 (X.1.2 11 18)).toInt := congrArg Int32.toInt (up_nI U411 (ne_k g0 gca (by decide)))
              have m417 : (sI H411 h0 (X.1.2 11 17)).toInt = (sI H410 h0 (X.1.2 11 17)).toInt := congrArg Int32.toInt (up_nI U411 (ne_k g0 gca (by decide)))
              have hd := HD.map hd (congrArg Int32.toInt (up_nI U411 (ne_k g0 gca (by decide)))) (fun hb0 mc ym => ⟨mc.ne U411 g0 gtq gca (by decide), ym.lim U411 g0 gca (w := 3) (by omega) (by omega) (by first | exact ha | (exfalso; omega))⟩)
              have hlv9 : (sI H411 ca (2102 + 3 : Int).toNat).toInt = v410.toInt := by rw [show (2102 + 3 : Int).toNat = ((2102 + 3) : Int).toNat by omega]; exact (congrArg Int32.toInt (up_I U411)).trans rfl
              have e418 := up_I U411
              refine lv_aload_n hx hb dX12_readArticle_161 rfl (lv_at hl 1 rfl) ?_
              refine q_getI E hC411 g0 fa_RX12_218 dX12_readArticle_162 (fun v419 ev419 lv419 uv419 => ?_)
              have m420 : (sI H411 h0 (X.1.2 11 12)).toInt = v419.toInt := (congrArg Int32.toInt ev419).trans rfl
              refine q_if_ne hx hb (a := v419.toInt) rfl (tgt := 179) dX12_readArticle_165 rfl (fun c421 => ?_) (fun c421 => ?_)
              · have hz8 := tk_nn (sI H411 h0 (X.1.2 11 14)).toInt
                have hpost : ((sI H411 h0 (X.1.2 11 12)).toInt = 0 ∧ ∃ (S1 : YSt) (i1 : Nat), gArt kd vl S (i + 1) S1 i1 ∧ MC X H411 h0 tq kd vl w3 pos N i1 ∧ YSM X Γ H411 h0 ca kd vl w3 N S1) ∨ ((sI H411 h0 (X.1.2 11 12)).toInt ≠ 0 ∧ ∀ (S1 : YSt) (i1 : Nat), ¬ gArt kd vl S (i + 1) S1 i1) := by first | (exfalso; omega) | exact Or.inr ⟨by omega, hno⟩ | exact Or.inl ⟨by omega, _, _, Or.inl ⟨(mc1.word (j := 6) (by decide)).mp hw6, ha, hQ.1.2, hQ.2, rfl, by rw [hzz.2 (by decide)]⟩, mc, ym⟩ | exact Or.inl ⟨by omega, _, _, Or.inr (Or.inl ⟨(mc1.word (j := 12) (by decide)).mp hw12, ha, hQ.1.2, hQ.2, rfl, by rw [hzz.2 (by decide)]⟩), mc, ym⟩ | exact Or.inl ⟨by omega, _, _, Or.inr (Or.inr (Or.inl ⟨(mc1.word (j := 15) (by decide)).mp hw15, ha, hQ.1.2, hQ.2, rfl, by rw [hzz.2 (by decide)]⟩)), mc, ym⟩ | exact Or.inl ⟨by omega, _, _, Or.inr (Or.inr (Or.inr ⟨(mc1.word (j := 14) (by decide)).mp hw14, ha, rfl, by rw [hzz.1 rfl]⟩)), mc, ym⟩ | exact Or.inr ⟨by omega, fun S1 i1 q => by rcases q with ⟨q1, -, q3⟩ | ⟨q1, -, q3⟩ | ⟨q1, -, q3⟩ | ⟨q1, -, -⟩ <;> first | exact HD.no hd (by omega) ⟨⟨trivial, q3.1⟩, q3.2.1⟩ | exact HD.no hd (by omega) trivial | exact absurd (okW_j ((mc1.word (j := 6) (by decide)).mp hw6) q1 (by decide) (by decide)) (by decide) | exact absurd (okW_j ((mc1.word (j := 12) (by decide)).mp hw12) q1 (by decide) (by decide)) (by decide) | exact absurd (okW_j ((mc1.word (j := 15) (by decide)).mp hw15) q1 (by decide) (by decide)) (by decide) | exact absurd (okW_j ((mc1.word (j := 14) (by decide)).mp hw14) q1 (by decide) (by decide)) (by decide)⟩
                exact ret H411 locs411 _ _ dX12_readArticle_179 ⟨hKp411, ⟨by omega, by omega, by omega, by omega, hpost⟩⟩ hC411 hS411
              · obtain ⟨hQ, mc, ym⟩ := HD.live hd (by omega)
                have mc := mc
                have ym := ym
                obtain ⟨zz, hzz⟩ : ∃ z : Int, ((3 : Int) = 2 → z = 0) ∧ ((3 : Int) ≠ 2 → z = vl (i + 1 + 2)) := by first | exact ⟨0, fun _ => rfl, fun q => absurd rfl q⟩ | exact ⟨_, fun q => absurd q (by decide), fun _ => rfl⟩
                have hq9 : 0 ≤ zz := by first | (have := hzz.1 rfl; omega) | (have q1 := hzz.2 (by decide); have q2 : 0 ≤ vl (i + 1 + 2) := hQ.2.2.1; omega) | (exfalso; omega)
                have hlz9 : (sI H411 ca (2102 + 3 : Int).toNat).toInt = zz := by first | (rw [hzz.2 (by decide)]; exact hlv9.trans (hcv9 (by omega))) | (rw [hzz.1 rfl]; exact ym.2.2.2.2.2.2.1) | (exfalso; omega)
                refine lv_aload_n hx hb dX12_readArticle_168 rfl (lv_at hl 1 rfl) ?_
                refine q_getC E hC411 g0 fa_RX12_35 uc dX12_readArticle_169 ?_
                refine lv_sipush (v := 2098) hx hb dX12_readArticle_172 rfl ?_
                refine lv_iload_n hx hb dX12_readArticle_175 rfl (lv_at hl 0 rfl) ?_
                refine lv_iadd hx hb dX12_readArticle_176 (lv_topi (fun v422 ev422 => ?_))
                have ev422i : v422.toInt = (2098 + 3) := i_add ev422 (by decide) (by decide) (by omega) (by omega)
                refine lv_iconst (v := 1) hx hb dX12_readArticle_177 rfl ?_
                refine q_cast E hC411 hS411 gca (a := (2098 + 3)) ev422i (by omega) (by omega) (cs_n16 (a := (2098 + 3)) (by omega) (by omega)) dX12_readArticle_178 (fun H423 locs423 hC423 hS423 U423 => ?_)
                have hKp423 := Kp.upD gca rfl rfl (fun _ => ⟨fun _ => nd4 (by omega) (by omega), fun _ => by unfold dpu; omega, fun _ => by unfold dpn; omega⟩) U423 hKp411
                have mc := mc.ne U423 g0 gtq gca (by decide)
                have m424 : (sI H423 h0 (X.1.2 11 12)).toInt = (sI H411 h0 (X.1.2 11 12)).toInt := congrArg Int32.toInt (up_nI U423 (ne_k g0 gca (by decide)))
                have m425 : (sI H423 h0 (X.1.2 11 14)).toInt = (sI H411 h0 (X.1.2 11 14)).toInt := congrArg Int32.toInt (up_nI U423 (ne_k g0 gca (by decide)))
                have m426 := congrArg tk m425
                have m427 : (sI H423 h0 (X.1.2 11 16)).toInt = (sI H411 h0 (X.1.2 11 16)).toInt := congrArg Int32.toInt (up_nI U423 (ne_k g0 gca (by decide)))
                have m428 : (sI H423 h0 (X.1.2 11 18)).toInt = (sI H411 h0 (X.1.2 11 18)).toInt := congrArg Int32.toInt (up_nI U423 (ne_k g0 gca (by decide)))
                have m429 : (sI H423 h0 (X.1.2 11 17)).toInt = (sI H411 h0 (X.1.2 11 17)).toInt := congrArg Int32.toInt (up_nI U423 (ne_k g0 gca (by decide)))
                have ym := ym.art U423 g0 gca (w := 3) (z := zz) (by omega) (by omega) (by decide) hq9 hlz9
                have e430 := up_I U423
                have hz8 := tk_nn (sI H423 h0 (X.1.2 11 14)).toInt
                have hpost : ((sI H423 h0 (X.1.2 11 12)).toInt = 0 ∧ ∃ (S1 : YSt) (i1 : Nat), gArt kd vl S (i + 1) S1 i1 ∧ MC X H423 h0 tq kd vl w3 pos N i1 ∧ YSM X Γ H423 h0 ca kd vl w3 N S1) ∨ ((sI H423 h0 (X.1.2 11 12)).toInt ≠ 0 ∧ ∀ (S1 : YSt) (i1 : Nat), ¬ gArt kd vl S (i + 1) S1 i1) := by first | (exfalso; omega) | exact Or.inr ⟨by omega, hno⟩ | exact Or.inl ⟨by omega, _, _, Or.inl ⟨(mc1.word (j := 6) (by decide)).mp hw6, ha, hQ.1.2, hQ.2, rfl, by rw [hzz.2 (by decide)]⟩, mc, ym⟩ | exact Or.inl ⟨by omega, _, _, Or.inr (Or.inl ⟨(mc1.word (j := 12) (by decide)).mp hw12, ha, hQ.1.2, hQ.2, rfl, by rw [hzz.2 (by decide)]⟩), mc, ym⟩ | exact Or.inl ⟨by omega, _, _, Or.inr (Or.inr (Or.inl ⟨(mc1.word (j := 15) (by decide)).mp hw15, ha, hQ.1.2, hQ.2, rfl, by rw [hzz.2 (by decide)]⟩)), mc, ym⟩ | exact Or.inl ⟨by omega, _, _, Or.inr (Or.inr (Or.inr ⟨(mc1.word (j := 14) (by decide)).mp hw14, ha, rfl, by rw [hzz.1 rfl]⟩)), mc, ym⟩ | exact Or.inr ⟨by omega, fun S1 i1 q => by rcases q with ⟨q1, -, q3⟩ | ⟨q1, -, q3⟩ | ⟨q1, -, q3⟩ | ⟨q1, -, -⟩ <;> first | exact HD.no hd (by omega) ⟨⟨trivial, q3.1⟩, q3.2.1⟩ | exact HD.no hd (by omega) trivial | exact absurd (okW_j ((mc1.word (j := 6) (by decide)).mp hw6) q1 (by decide) (by decide)) (by decide) | exact absurd (okW_j ((mc1.word (j := 12) (by decide)).mp hw12) q1 (by decide) (by decide)) (by decide) | exact absurd (okW_j ((mc1.word (j := 15) (by decide)).mp hw15) q1 (by decide) (by decide)) (by decide) | exact absurd (okW_j ((mc1.word (j := 14) (by decide)).mp hw14) q1 (by decide) (by decide)) (by decide)⟩
                exact ret H423 locs423 _ _ dX12_readArticle_179 ⟨hKp423, ⟨by omega, by omega, by omega, by omega, hpost⟩⟩ hC423 hS423
          · refine lv_aload_n hx hb dX12_readArticle_65 rfl (lv_at hl 1 rfl) ?_
            refine q_getC E hC21 g0 fa_RX12_35 uc dX12_readArticle_66 ?_
            refine lv_sipush (v := 2098) hx hb dX12_readArticle_69 rfl ?_
            refine lv_iload_n hx hb dX12_readArticle_72 rfl (lv_at hl 0 rfl) ?_
            refine lv_iadd hx hb dX12_readArticle_73 (lv_topi (fun v431 ev431 => ?_))
            have ev431i : v431.toInt = (2098 + 3) := i_add ev431 (by decide) (by decide) (by omega) (by omega)
            refine q_cald E hC21 (lo := -2147483648) (hi := 2147483647) gca (a := (2098 + 3)) ev431i (by omega) (by omega) (cr_n16 (by omega) (by omega)) dX12_readArticle_74 (fun v432 ev432 _ _ => ?_)
            have m433 : (sI H21 ca ((2098 + 3) : Int).toNat).toInt = v432.toInt := congrArg Int32.toInt ev432
            have hta := ym.article (z := (2098 + 3)) (w := 3) (by omega) (by omega)
            refine lv_iconst (v := 1) hx hb dX12_readArticle_75 rfl ?_
            refine q_icmp_ne hx hb (a := v432.toInt) (b := 1) rfl (by decide) (tgt := 88) dX12_readArticle_76 rfl (fun c434 => ?_) (fun c434 => ?_)
            · have mc1 := mc
              have ha : S.2.2.2.2.2 (3) = -1 := by first | (exfalso; omega) | (by_cases e : S.2.2.2.2.2 (3) = -1; exact e; exfalso; rw [if_neg e] at hta; omega)
              have hk2 : kd (i + 1) ≠ 0 := by first | (have := ((mc1.word (j := 6) (by decide)).mp hw6).1; omega) | (have := ((mc1.word (j := 12) (by decide)).mp hw12).1; omega) | (have := ((mc1.word (j := 14) (by decide)).mp hw14).1; omega) | (have := ((mc1.word (j := 15) (by decide)).mp hw15).1; omega)
              have hd := HD.of (by omega) mc ym
              refine lv_aload_n hx hb dX12_readArticle_88 rfl (lv_at hl 1 rfl) ?_
              refine lv_iconst (v := 1) hx hb dX12_readArticle_89 rfl ?_
              refine q_goV (q_runV (As := [.int 1]) (rest := []) E hC21 hS391 (m_X12_must l X Γ H21 hC21 h0 g0 1 (a1 := 1) (by decide) ca gca uc tq ((kp_R hKp21 g0 (ci := 11) (k := 7) rfl (by decide) rfl).trans htq) gtq (by omega) (by omega)) cw_X12_must cl_RX12_244 g0 ⟨rfl, rfl⟩ rfl hl.1 rfl (Nat.zero_le _) (by decide) dX12_readArticle_90) hS391 (fun H435 locs435 hr435 hC435 hS435 => ?_)
              obtain ⟨hp435, hr435⟩ := hr435
              have hKp435 := hKp21.tr (hp435.mono rfl)
              obtain ⟨f435_0, f435_1, f435_2, f435_3, f435_4, f435_5⟩ := hr435
              have hd := HD.go hd hp435 g0 gca (by first | exact fun q => q.elim | exact fun _ => hk2) f435_5 f435_2 (by omega) rfl rfl
              refine lv_aload_n hx hb dX12_readArticle_93 rfl (lv_at hl 1 rfl) ?_
              refine q_getI E hC435 g0 fa_RX12_218 dX12_readArticle_94 (fun v436 ev436 lv436 uv436 => ?_)
              have m437 : (sI H435 h0 (X.1.2 11 12)).toInt = v436.toInt := (congrArg Int32.toInt ev436).trans rfl
              refine q_if_ne hx hb (a := v436.toInt) rfl (tgt := 161) dX12_readArticle_97 rfl (fun c438 => ?_) (fun c438 => ?_)
              · refine lv_aload_n hx hb dX12_readArticle_161 rfl (lv_at hl 1 rfl) ?_
                refine q_getI E hC435 g0 fa_RX12_218 dX12_readArticle_162 (fun v439 ev439 lv439 uv439 => ?_)
                have qv439 := ev436.symm.trans ev439; subst qv439
                refine q_if_ne hx hb (a := v436.toInt) rfl (tgt := 179) dX12_readArticle_165 rfl (fun c440 => ?_) (fun c440 => absurd c440 (by omega))
                have hz8 := tk_nn (sI H435 h0 (X.1.2 11 14)).toInt
                have hpost : ((sI H435 h0 (X.1.2 11 12)).toInt = 0 ∧ ∃ (S1 : YSt) (i1 : Nat), gArt kd vl S (i + 1) S1 i1 ∧ MC X H435 h0 tq kd vl w3 pos N i1 ∧ YSM X Γ H435 h0 ca kd vl w3 N S1) ∨ ((sI H435 h0 (X.1.2 11 12)).toInt ≠ 0 ∧ ∀ (S1 : YSt) (i1 : Nat), ¬ gArt kd vl S (i + 1) S1 i1) := by first | (exfalso; omega) | exact Or.inr ⟨by omega, hno⟩ | exact Or.inl ⟨by omega, _, _, Or.inl ⟨(mc1.word (j := 6) (by decide)).mp hw6, ha, hQ.1.2, hQ.2, rfl, by rw [hzz.2 (by decide)]⟩, mc, ym⟩ | exact Or.inl ⟨by omega, _, _, Or.inr (Or.inl ⟨(mc1.word (j := 12) (by decide)).mp hw12, ha, hQ.1.2, hQ.2, rfl, by rw [hzz.2 (by decide)]⟩), mc, ym⟩ | exact Or.inl ⟨by omega, _, _, Or.inr (Or.inr (Or.inl ⟨(mc1.word (j := 15) (by decide)).mp hw15, ha, hQ.1.2, hQ.2, rfl, by rw [hzz.2 (by decide)]⟩)), mc, ym⟩ | exact Or.inl ⟨by omega, _, _, Or.inr (Or.inr (Or.inr ⟨(mc1.word (j := 14) (by decide)).mp hw14, ha, rfl, by rw [hzz.1 rfl]⟩)), mc, ym⟩ | exact Or.inr ⟨by omega, fun S1 i1 q => by rcases q with ⟨q1, -, q3⟩ | ⟨q1, -, q3⟩ | ⟨q1, -, q3⟩ | ⟨q1, -, -⟩ <;> first | exact HD.no hd (by omega) ⟨⟨trivial, q3.1⟩, q3.2.1⟩ | exact HD.no hd (by omega) trivial | exact absurd (okW_j ((mc1.word (j := 6) (by decide)).mp hw6) q1 (by decide) (by decide)) (by decide) | exact absurd (okW_j ((mc1.word (j := 12) (by decide)).mp hw12) q1 (by decide) (by decide)) (by decide) | exact absurd (okW_j ((mc1.word (j := 15) (by decide)).mp hw15) q1 (by decide) (by decide)) (by decide) | exact absurd (okW_j ((mc1.word (j := 14) (by decide)).mp hw14) q1 (by decide) (by decide)) (by decide)⟩
                exact ret H435 locs435 _ _ dX12_readArticle_179 ⟨hKp435, ⟨by omega, by omega, by omega, by omega, hpost⟩⟩ hC435 hS435
              · refine lv_iload_n hx hb dX12_readArticle_100 rfl (lv_at hl 0 rfl) ?_
                refine lv_iconst (v := 2) hx hb dX12_readArticle_101 rfl ?_
                refine q_icmp_eq hx hb (a := 3) (b := 2) (by decide) (by decide) (tgt := 161) dX12_readArticle_102 rfl (fun c441 => absurd c441 (by omega)) (fun c441 => ?_)
                refine lv_aload_n hx hb dX12_readArticle_105 rfl (lv_at hl 1 rfl) ?_
                refine lv_iload_n hx hb dX12_readArticle_106 rfl (lv_at hl 0 rfl) ?_
                refine lv_iconst (v := 1) hx hb dX12_readArticle_107 rfl ?_
                refine q_icmp_ne hx hb (a := 3) (b := 1) (by decide) (by decide) (tgt := 118) dX12_readArticle_108 rfl (fun c442 => ?_) (fun c442 => absurd c442 (by omega))
                refine lv_aload_n hx hb dX12_readArticle_118 rfl (lv_at hl 1 rfl) ?_
                refine q_goIp (q_runV (As := []) (rest := [.ref h0]) E hC435 hS435 (m_X12_isAbove l X Γ H435 hC435 h0 g0 ca gca uc) cw_X12_isAbove cl_RX12_196 g0 ⟨rfl, rfl⟩ rfl hl.1 rfl (show _ ≤ _ from by simp [Value.category]) (by decide) dX12_readArticle_119) hS435 (fun v443 locs443 hr443 hS443 => ?_)
                have b443 : (v443.toInt = 1 ∧ _) ∨ (v443.toInt = 0 ∧ _) := hr443.imp (fun h => ⟨by rw [h.1]; decide, h.2⟩) (fun h => ⟨by rw [h.1]; decide, h.2⟩)
                have hbz := b443
                refine q_goV (q_runV (As := [.int v443]) (rest := []) E hC435 hS443 (m_X12_must l X Γ H435 hC435 h0 g0 v443 (a1 := v443.toInt) rfl ca gca uc tq ((kp_R hKp435 g0 (ci := 11) (k := 7) rfl (by decide) rfl).trans htq) gtq (by omega) (by omega)) cw_X12_must cl_RX12_244 g0 ⟨rfl, rfl⟩ rfl hl.1 rfl (Nat.zero_le _) (by decide) dX12_readArticle_122) hS443 (fun H444 locs444 hr444 hC444 hS444 => ?_)
                obtain ⟨hp444, hr444⟩ := hr444
                have hKp444 := hKp435.tr (hp444.mono rfl)
                obtain ⟨f444_0, f444_1, f444_2, f444_3, f444_4, f444_5⟩ := hr444
                have hd := HD.must hd hp444 g0 gca (by first | exact hbz | exact Or.inl ⟨rfl, hw⟩ | exact Or.inr ⟨rfl, hw⟩) f444_5 f444_2 (by omega) rfl rfl (by decide)
                refine lv_aload_n hx hb dX12_readArticle_125 rfl (lv_at hl 1 rfl) ?_
                refine q_getC E hC444 g0 fa_RX12_35 uc dX12_readArticle_126 ?_
                refine lv_sipush (v := 2102) hx hb dX12_readArticle_129 rfl ?_
                refine lv_iload_n hx hb dX12_readArticle_132 rfl (lv_at hl 0 rfl) ?_
                refine lv_iadd hx hb dX12_readArticle_133 (lv_topi (fun v445 ev445 => ?_))
                have ev445i : v445.toInt = (2102 + 3) := i_add ev445 (by decide) (by decide) (by omega) (by omega)
                refine lv_aload_n hx hb dX12_readArticle_134 rfl (lv_at hl 1 rfl) ?_
                refine lv_iconst (v := 0) hx hb dX12_readArticle_135 rfl ?_
                refine lv_iload_n hx hb dX12_readArticle_136 rfl (lv_at hl 0 rfl) ?_
                refine q_if_ne hx hb (a := 3) (by decide) (tgt := 145) dX12_readArticle_137 rfl (fun c446 => ?_) (fun c446 => absurd c446 (by omega))
                refine lv_iload_n hx hb dX12_readArticle_145 rfl (lv_at hl 0 rfl) ?_
                refine lv_iconst (v := 1) hx hb dX12_readArticle_146 rfl ?_
                refine q_icmp_ne hx hb (a := 3) (b := 1) (by decide) (by decide) (tgt := 155) dX12_readArticle_147 rfl (fun c447 => ?_) (fun c447 => absurd c447 (by omega))
                refine lv_bipush (v := 18) hx hb dX12_readArticle_155 rfl ?_
                refine q_goI (q_runV (As := [.int 0, .int 18]) (rest := [.int v445, .ref ca]) E hC444 hS444 (m_X12_count l X Γ H444 hC444 h0 g0 0 (a1 := 0) (by decide) 18 (a2 := 18) (by decide) ca gca uc tq ((kp_R hKp444 g0 (ci := 11) (k := 7) rfl (by decide) rfl).trans htq) gtq (by omega) (by omega) (by omega) (by omega)) cw_X12_count cl_RX12_248 g0 ⟨rfl, rfl⟩ rfl hl.1 rfl (show _ ≤ _ from by simp [Value.category]) (by decide) dX12_readArticle_157) hS444 (fun v448 H448 locs448 hr448 hC448 hS448 => ?_)
                obtain ⟨hp448, hr448⟩ := hr448
                have hKp448 := hKp444.tr (hp448.mono rfl)
                obtain ⟨f448_0, f448_1, f448_2, f448_3, f448_4, f448_5, f448_6, f448_7, f448_8⟩ := hr448
                have hdc := HD.count hd hp448 g0 gca f448_8 f448_2 (by omega) rfl rfl
                have hd := hdc.1
                have hcv9 := hdc.2
                refine q_cast E hC448 hS448 gca (a := (2102 + 3)) ev445i (by omega) (by omega) (cs_n16 (a := (2102 + 3)) (by omega) (by omega)) dX12_readArticle_160 (fun H449 locs449 hC449 hS449 U449 => ?_)
                have hKp449 := Kp.upD gca rfl rfl (fun _ => ⟨fun _ => nd4 (by omega) (by omega), fun _ => by unfold dpu; omega, fun _ => by unfold dpn; omega⟩) U449 hKp448
                have m450 : (sI H449 h0 (X.1.2 11 12)).toInt = (sI H448 h0 (X.1.2 11 12)).toInt := congrArg Int32.toInt (up_nI U449 (ne_k g0 gca (by decide)))
                have m451 : (sI H449 h0 (X.1.2 11 14)).toInt = (sI H448 h0 (X.1.2 11 14)).toInt := congrArg Int32.toInt (up_nI U449 (ne_k g0 gca (by decide)))
                have m452 := congrArg tk m451
                have m453 : (sI H449 h0 (X.1.2 11 16)).toInt = (sI H448 h0 (X.1.2 11 16)).toInt := congrArg Int32.toInt (up_nI U449 (ne_k g0 gca (by decide)))
                have m454 : (sI H449 h0 (X.1.2 11 18)).toInt = (sI H448 h0 (X.1.2 11 18)).toInt := congrArg Int32.toInt (up_nI U449 (ne_k g0 gca (by decide)))
                have m455 : (sI H449 h0 (X.1.2 11 17)).toInt = (sI H448 h0 (X.1.2 11 17)).toInt := congrArg Int32.toInt (up_nI U449 (ne_k g0 gca (by decide)))
                have hd := HD.map hd (congrArg Int32.toInt (up_nI U449 (ne_k g0 gca (by decide)))) (fun hb0 mc ym => ⟨mc.ne U449 g0 gtq gca (by decide), ym.lim U449 g0 gca (w := 3) (by omega) (by omega) (by first | exact ha | (exfalso; omega))⟩)
                have hlv9 : (sI H449 ca (2102 + 3 : Int).toNat).toInt = v448.toInt := by rw [show (2102 + 3 : Int).toNat = ((2102 + 3) : Int).toNat by omega]; exact (congrArg Int32.toInt (up_I U449)).trans rfl
                have e456 := up_I U449
                refine lv_aload_n hx hb dX12_readArticle_161 rfl (lv_at hl 1 rfl) ?_
                refine q_getI E hC449 g0 fa_RX12_218 dX12_readArticle_162 (fun v457 ev457 lv457 uv457 => ?_)
                have m458 : (sI H449 h0 (X.1.2 11 12)).toInt = v457.toInt := (congrArg Int32.toInt ev457).trans rfl
                refine q_if_ne hx hb (a := v457.toInt) rfl (tgt := 179) dX12_readArticle_165 rfl (fun c459 => ?_) (fun c459 => ?_)
                · have hz8 := tk_nn (sI H449 h0 (X.1.2 11 14)).toInt
                  have hpost : ((sI H449 h0 (X.1.2 11 12)).toInt = 0 ∧ ∃ (S1 : YSt) (i1 : Nat), gArt kd vl S (i + 1) S1 i1 ∧ MC X H449 h0 tq kd vl w3 pos N i1 ∧ YSM X Γ H449 h0 ca kd vl w3 N S1) ∨ ((sI H449 h0 (X.1.2 11 12)).toInt ≠ 0 ∧ ∀ (S1 : YSt) (i1 : Nat), ¬ gArt kd vl S (i + 1) S1 i1) := by first | (exfalso; omega) | exact Or.inr ⟨by omega, hno⟩ | exact Or.inl ⟨by omega, _, _, Or.inl ⟨(mc1.word (j := 6) (by decide)).mp hw6, ha, hQ.1.2, hQ.2, rfl, by rw [hzz.2 (by decide)]⟩, mc, ym⟩ | exact Or.inl ⟨by omega, _, _, Or.inr (Or.inl ⟨(mc1.word (j := 12) (by decide)).mp hw12, ha, hQ.1.2, hQ.2, rfl, by rw [hzz.2 (by decide)]⟩), mc, ym⟩ | exact Or.inl ⟨by omega, _, _, Or.inr (Or.inr (Or.inl ⟨(mc1.word (j := 15) (by decide)).mp hw15, ha, hQ.1.2, hQ.2, rfl, by rw [hzz.2 (by decide)]⟩)), mc, ym⟩ | exact Or.inl ⟨by omega, _, _, Or.inr (Or.inr (Or.inr ⟨(mc1.word (j := 14) (by decide)).mp hw14, ha, rfl, by rw [hzz.1 rfl]⟩)), mc, ym⟩ | exact Or.inr ⟨by omega, fun S1 i1 q => by rcases q with ⟨q1, -, q3⟩ | ⟨q1, -, q3⟩ | ⟨q1, -, q3⟩ | ⟨q1, -, -⟩ <;> first | exact HD.no hd (by omega) ⟨⟨trivial, q3.1⟩, q3.2.1⟩ | exact HD.no hd (by omega) trivial | exact absurd (okW_j ((mc1.word (j := 6) (by decide)).mp hw6) q1 (by decide) (by decide)) (by decide) | exact absurd (okW_j ((mc1.word (j := 12) (by decide)).mp hw12) q1 (by decide) (by decide)) (by decide) | exact absurd (okW_j ((mc1.word (j := 15) (by decide)).mp hw15) q1 (by decide) (by decide)) (by decide) | exact absurd (okW_j ((mc1.word (j := 14) (by decide)).mp hw14) q1 (by decide) (by decide)) (by decide)⟩
                  exact ret H449 locs449 _ _ dX12_readArticle_179 ⟨hKp449, ⟨by omega, by omega, by omega, by omega, hpost⟩⟩ hC449 hS449
                · obtain ⟨hQ, mc, ym⟩ := HD.live hd (by omega)
                  have mc := mc
                  have ym := ym
                  obtain ⟨zz, hzz⟩ : ∃ z : Int, ((3 : Int) = 2 → z = 0) ∧ ((3 : Int) ≠ 2 → z = vl (i + 1 + 2)) := by first | exact ⟨0, fun _ => rfl, fun q => absurd rfl q⟩ | exact ⟨_, fun q => absurd q (by decide), fun _ => rfl⟩
                  have hq9 : 0 ≤ zz := by first | (have := hzz.1 rfl; omega) | (have q1 := hzz.2 (by decide); have q2 : 0 ≤ vl (i + 1 + 2) := hQ.2.2.1; omega) | (exfalso; omega)
                  have hlz9 : (sI H449 ca (2102 + 3 : Int).toNat).toInt = zz := by first | (rw [hzz.2 (by decide)]; exact hlv9.trans (hcv9 (by omega))) | (rw [hzz.1 rfl]; exact ym.2.2.2.2.2.2.1) | (exfalso; omega)
                  refine lv_aload_n hx hb dX12_readArticle_168 rfl (lv_at hl 1 rfl) ?_
                  refine q_getC E hC449 g0 fa_RX12_35 uc dX12_readArticle_169 ?_
                  refine lv_sipush (v := 2098) hx hb dX12_readArticle_172 rfl ?_
                  refine lv_iload_n hx hb dX12_readArticle_175 rfl (lv_at hl 0 rfl) ?_
                  refine lv_iadd hx hb dX12_readArticle_176 (lv_topi (fun v460 ev460 => ?_))
                  have ev460i : v460.toInt = (2098 + 3) := i_add ev460 (by decide) (by decide) (by omega) (by omega)
                  refine lv_iconst (v := 1) hx hb dX12_readArticle_177 rfl ?_
                  refine q_cast E hC449 hS449 gca (a := (2098 + 3)) ev460i (by omega) (by omega) (cs_n16 (a := (2098 + 3)) (by omega) (by omega)) dX12_readArticle_178 (fun H461 locs461 hC461 hS461 U461 => ?_)
                  have hKp461 := Kp.upD gca rfl rfl (fun _ => ⟨fun _ => nd4 (by omega) (by omega), fun _ => by unfold dpu; omega, fun _ => by unfold dpn; omega⟩) U461 hKp449
                  have mc := mc.ne U461 g0 gtq gca (by decide)
                  have m462 : (sI H461 h0 (X.1.2 11 12)).toInt = (sI H449 h0 (X.1.2 11 12)).toInt := congrArg Int32.toInt (up_nI U461 (ne_k g0 gca (by decide)))
                  have m463 : (sI H461 h0 (X.1.2 11 14)).toInt = (sI H449 h0 (X.1.2 11 14)).toInt := congrArg Int32.toInt (up_nI U461 (ne_k g0 gca (by decide)))
                  have m464 := congrArg tk m463
                  have m465 : (sI H461 h0 (X.1.2 11 16)).toInt = (sI H449 h0 (X.1.2 11 16)).toInt := congrArg Int32.toInt (up_nI U461 (ne_k g0 gca (by decide)))
                  have m466 : (sI H461 h0 (X.1.2 11 18)).toInt = (sI H449 h0 (X.1.2 11 18)).toInt := congrArg Int32.toInt (up_nI U461 (ne_k g0 gca (by decide)))
                  have m467 : (sI H461 h0 (X.1.2 11 17)).toInt = (sI H449 h0 (X.1.2 11 17)).toInt := congrArg Int32.toInt (up_nI U461 (ne_k g0 gca (by decide)))
                  have ym := ym.art U461 g0 gca (w := 3) (z := zz) (by omega) (by omega) (by decide) hq9 hlz9
                  have e468 := up_I U461
                  have hz8 := tk_nn (sI H461 h0 (X.1.2 11 14)).toInt
                  have hpost : ((sI H461 h0 (X.1.2 11 12)).toInt = 0 ∧ ∃ (S1 : YSt) (i1 : Nat), gArt kd vl S (i + 1) S1 i1 ∧ MC X H461 h0 tq kd vl w3 pos N i1 ∧ YSM X Γ H461 h0 ca kd vl w3 N S1) ∨ ((sI H461 h0 (X.1.2 11 12)).toInt ≠ 0 ∧ ∀ (S1 : YSt) (i1 : Nat), ¬ gArt kd vl S (i + 1) S1 i1) := by first | (exfalso; omega) | exact Or.inr ⟨by omega, hno⟩ | exact Or.inl ⟨by omega, _, _, Or.inl ⟨(mc1.word (j := 6) (by decide)).mp hw6, ha, hQ.1.2, hQ.2, rfl, by rw [hzz.2 (by decide)]⟩, mc, ym⟩ | exact Or.inl ⟨by omega, _, _, Or.inr (Or.inl ⟨(mc1.word (j := 12) (by decide)).mp hw12, ha, hQ.1.2, hQ.2, rfl, by rw [hzz.2 (by decide)]⟩), mc, ym⟩ | exact Or.inl ⟨by omega, _, _, Or.inr (Or.inr (Or.inl ⟨(mc1.word (j := 15) (by decide)).mp hw15, ha, hQ.1.2, hQ.2, rfl, by rw [hzz.2 (by decide)]⟩)), mc, ym⟩ | exact Or.inl ⟨by omega, _, _, Or.inr (Or.inr (Or.inr ⟨(mc1.word (j := 14) (by decide)).mp hw14, ha, rfl, by rw [hzz.1 rfl]⟩)), mc, ym⟩ | exact Or.inr ⟨by omega, fun S1 i1 q => by rcases q with ⟨q1, -, q3⟩ | ⟨q1, -, q3⟩ | ⟨q1, -, q3⟩ | ⟨q1, -, -⟩ <;> first | exact HD.no hd (by omega) ⟨⟨trivial, q3.1⟩, q3.2.1⟩ | exact HD.no hd (by omega) trivial | exact absurd (okW_j ((mc1.word (j := 6) (by decide)).mp hw6) q1 (by decide) (by decide)) (by decide) | exact absurd (okW_j ((mc1.word (j := 12) (by decide)).mp hw12) q1 (by decide) (by decide)) (by decide) | exact absurd (okW_j ((mc1.word (j := 15) (by decide)).mp hw15) q1 (by decide) (by decide)) (by decide) | exact absurd (okW_j ((mc1.word (j := 14) (by decide)).mp hw14) q1 (by decide) (by decide)) (by decide)⟩
                  exact ret H461 locs461 _ _ dX12_readArticle_179 ⟨hKp461, ⟨by omega, by omega, by omega, by omega, hpost⟩⟩ hC461 hS461
            · have hno : ∀ (S1 : YSt) (i1 : Nat), ¬ gArt kd vl S (i + 1) S1 i1 := fun S1 i1 q => by rcases q with ⟨q1, q2, -⟩ | ⟨q1, q2, -⟩ | ⟨q1, q2, -⟩ | ⟨q1, q2, -⟩ <;> first | exact absurd ((mc.word (by decide)).mpr q1) (by assumption) | exact absurd (okW_j ((mc.word (j := 6) (by decide)).mp hw6) q1 (by decide) (by decide)) (by decide) | exact absurd (okW_j ((mc.word (j := 12) (by decide)).mp hw12) q1 (by decide) (by decide)) (by decide) | exact absurd (okW_j ((mc.word (j := 15) (by decide)).mp hw15) q1 (by decide) (by decide)) (by decide) | exact absurd (okW_j ((mc.word (j := 14) (by decide)).mp hw14) q1 (by decide) (by decide)) (by decide) | (rw [if_pos q2] at hta; omega)
              refine lv_aload_n hx hb dX12_readArticle_79 rfl (lv_at hl 1 rfl) ?_
              refine lv_iconst (v := 5) hx hb dX12_readArticle_80 rfl ?_
              refine lv_aload_n hx hb dX12_readArticle_81 rfl (lv_at hl 1 rfl) ?_
              refine q_getI E hC21 g0 fa_RX12_114 dX12_readArticle_82 (fun v469 ev469 lv469 uv469 => ?_)
              refine q_goV (q_runV (As := [.int 5, .int v469]) (rest := []) E hC21 hS391 (m_X12_fail l X Γ H21 hC21 h0 g0 5 (a1 := 5) (by decide) v469 (a2 := v469.toInt) rfl ca gca uc (by omega) (by omega)) cw_X12_fail cl_RX12_224 g0 ⟨rfl, rfl⟩ rfl hl.1 rfl (Nat.zero_le _) (by decide) dX12_readArticle_85) hS391 (fun H470 locs470 hr470 hC470 hS470 => ?_)
              obtain ⟨hp470, hr470⟩ := hr470
              have hKp470 := hKp21.tr (hp470.mono rfl)
              have ym := ym.kp hp470 g0 gca rfl rfl
              obtain ⟨f470_0, f470_1, f470_2, f470_3⟩ := hr470
              have hd := HD.dead (i := 0) (S := S) (kd := kd) (vl := vl) (w3 := w3) (pos := pos) (N := N) (tq := tq) (ca := ca) (X := X) (Γ := Γ) (H := H470) (r := h0) (by omega)
              refine lv_aload_n hx hb dX12_readArticle_88 rfl (lv_at hl 1 rfl) ?_
              refine lv_iconst (v := 1) hx hb dX12_readArticle_89 rfl ?_
              refine q_goV (q_runV (As := [.int 1]) (rest := []) E hC470 hS470 (m_X12_must l X Γ H470 hC470 h0 g0 1 (a1 := 1) (by decide) ca gca uc tq ((kp_R hKp470 g0 (ci := 11) (k := 7) rfl (by decide) rfl).trans htq) gtq (by omega) (by omega)) cw_X12_must cl_RX12_244 g0 ⟨rfl, rfl⟩ rfl hl.1 rfl (Nat.zero_le _) (by decide) dX12_readArticle_90) hS470 (fun H471 locs471 hr471 hC471 hS471 => ?_)
              obtain ⟨hp471, hr471⟩ := hr471
              have hKp471 := hKp470.tr (hp471.mono rfl)
              obtain ⟨f471_0, f471_1, f471_2, f471_3, f471_4, f471_5⟩ := hr471
              have hd := HD.go hd hp471 g0 gca (by first | exact fun q => q.elim | exact fun _ => hk2) f471_5 f471_2 (by omega) rfl rfl
              refine lv_aload_n hx hb dX12_readArticle_93 rfl (lv_at hl 1 rfl) ?_
              refine q_getI E hC471 g0 fa_RX12_218 dX12_readArticle_94 (fun v472 ev472 lv472 uv472 => ?_)
              have m473 : (sI H471 h0 (X.1.2 11 12)).toInt = v472.toInt := (congrArg Int32.toInt ev472).trans rfl
              refine q_if_ne hx hb (a := v472.toInt) rfl (tgt := 161) dX12_readArticle_97 rfl (fun c474 => ?_) (fun c474 => ?_)
              · refine lv_aload_n hx hb dX12_readArticle_161 rfl (lv_at hl 1 rfl) ?_
                refine q_getI E hC471 g0 fa_RX12_218 dX12_readArticle_162 (fun v475 ev475 lv475 uv475 => ?_)
                have qv475 := ev472.symm.trans ev475; subst qv475
                refine q_if_ne hx hb (a := v472.toInt) rfl (tgt := 179) dX12_readArticle_165 rfl (fun c476 => ?_) (fun c476 => absurd c476 (by omega))
                have hz8 := tk_nn (sI H471 h0 (X.1.2 11 14)).toInt
                have hpost : ((sI H471 h0 (X.1.2 11 12)).toInt = 0 ∧ ∃ (S1 : YSt) (i1 : Nat), gArt kd vl S (i + 1) S1 i1 ∧ MC X H471 h0 tq kd vl w3 pos N i1 ∧ YSM X Γ H471 h0 ca kd vl w3 N S1) ∨ ((sI H471 h0 (X.1.2 11 12)).toInt ≠ 0 ∧ ∀ (S1 : YSt) (i1 : Nat), ¬ gArt kd vl S (i + 1) S1 i1) := by first | (exfalso; omega) | exact Or.inr ⟨by omega, hno⟩ | exact Or.inl ⟨by omega, _, _, Or.inl ⟨(mc1.word (j := 6) (by decide)).mp hw6, ha, hQ.1.2, hQ.2, rfl, by rw [hzz.2 (by decide)]⟩, mc, ym⟩ | exact Or.inl ⟨by omega, _, _, Or.inr (Or.inl ⟨(mc1.word (j := 12) (by decide)).mp hw12, ha, hQ.1.2, hQ.2, rfl, by rw [hzz.2 (by decide)]⟩), mc, ym⟩ | exact Or.inl ⟨by omega, _, _, Or.inr (Or.inr (Or.inl ⟨(mc1.word (j := 15) (by decide)).mp hw15, ha, hQ.1.2, hQ.2, rfl, by rw [hzz.2 (by decide)]⟩)), mc, ym⟩ | exact Or.inl ⟨by omega, _, _, Or.inr (Or.inr (Or.inr ⟨(mc1.word (j := 14) (by decide)).mp hw14, ha, rfl, by rw [hzz.1 rfl]⟩)), mc, ym⟩ | exact Or.inr ⟨by omega, fun S1 i1 q => by rcases q with ⟨q1, -, q3⟩ | ⟨q1, -, q3⟩ | ⟨q1, -, q3⟩ | ⟨q1, -, -⟩ <;> first | exact HD.no hd (by omega) ⟨⟨trivial, q3.1⟩, q3.2.1⟩ | exact HD.no hd (by omega) trivial | exact absurd (okW_j ((mc1.word (j := 6) (by decide)).mp hw6) q1 (by decide) (by decide)) (by decide) | exact absurd (okW_j ((mc1.word (j := 12) (by decide)).mp hw12) q1 (by decide) (by decide)) (by decide) | exact absurd (okW_j ((mc1.word (j := 15) (by decide)).mp hw15) q1 (by decide) (by decide)) (by decide) | exact absurd (okW_j ((mc1.word (j := 14) (by decide)).mp hw14) q1 (by decide) (by decide)) (by decide)⟩
                exact ret H471 locs471 _ _ dX12_readArticle_179 ⟨hKp471, ⟨by omega, by omega, by omega, by omega, hpost⟩⟩ hC471 hS471
              · refine lv_iload_n hx hb dX12_readArticle_100 rfl (lv_at hl 0 rfl) ?_
                refine lv_iconst (v := 2) hx hb dX12_readArticle_101 rfl ?_
                refine q_icmp_eq hx hb (a := 3) (b := 2) (by decide) (by decide) (tgt := 161) dX12_readArticle_102 rfl (fun c477 => absurd c477 (by omega)) (fun c477 => ?_)
                refine lv_aload_n hx hb dX12_readArticle_105 rfl (lv_at hl 1 rfl) ?_
                refine lv_iload_n hx hb dX12_readArticle_106 rfl (lv_at hl 0 rfl) ?_
                refine lv_iconst (v := 1) hx hb dX12_readArticle_107 rfl ?_
                refine q_icmp_ne hx hb (a := 3) (b := 1) (by decide) (by decide) (tgt := 118) dX12_readArticle_108 rfl (fun c478 => ?_) (fun c478 => absurd c478 (by omega))
                refine lv_aload_n hx hb dX12_readArticle_118 rfl (lv_at hl 1 rfl) ?_
                refine q_goIp (q_runV (As := []) (rest := [.ref h0]) E hC471 hS471 (m_X12_isAbove l X Γ H471 hC471 h0 g0 ca gca uc) cw_X12_isAbove cl_RX12_196 g0 ⟨rfl, rfl⟩ rfl hl.1 rfl (show _ ≤ _ from by simp [Value.category]) (by decide) dX12_readArticle_119) hS471 (fun v479 locs479 hr479 hS479 => ?_)
                have b479 : (v479.toInt = 1 ∧ _) ∨ (v479.toInt = 0 ∧ _) := hr479.imp (fun h => ⟨by rw [h.1]; decide, h.2⟩) (fun h => ⟨by rw [h.1]; decide, h.2⟩)
                have hbz := b479
                refine q_goV (q_runV (As := [.int v479]) (rest := []) E hC471 hS479 (m_X12_must l X Γ H471 hC471 h0 g0 v479 (a1 := v479.toInt) rfl ca gca uc tq ((kp_R hKp471 g0 (ci := 11) (k := 7) rfl (by decide) rfl).trans htq) gtq (by omega) (by omega)) cw_X12_must cl_RX12_244 g0 ⟨rfl, rfl⟩ rfl hl.1 rfl (Nat.zero_le _) (by decide) dX12_readArticle_122) hS479 (fun H480 locs480 hr480 hC480 hS480 => ?_)
                obtain ⟨hp480, hr480⟩ := hr480
                have hKp480 := hKp471.tr (hp480.mono rfl)
                obtain ⟨f480_0, f480_1, f480_2, f480_3, f480_4, f480_5⟩ := hr480
                have hd := HD.must hd hp480 g0 gca (by first | exact hbz | exact Or.inl ⟨rfl, hw⟩ | exact Or.inr ⟨rfl, hw⟩) f480_5 f480_2 (by omega) rfl rfl (by decide)
                refine lv_aload_n hx hb dX12_readArticle_125 rfl (lv_at hl 1 rfl) ?_
                refine q_getC E hC480 g0 fa_RX12_35 uc dX12_readArticle_126 ?_
                refine lv_sipush (v := 2102) hx hb dX12_readArticle_129 rfl ?_
                refine lv_iload_n hx hb dX12_readArticle_132 rfl (lv_at hl 0 rfl) ?_
                refine lv_iadd hx hb dX12_readArticle_133 (lv_topi (fun v481 ev481 => ?_))
                have ev481i : v481.toInt = (2102 + 3) := i_add ev481 (by decide) (by decide) (by omega) (by omega)
                refine lv_aload_n hx hb dX12_readArticle_134 rfl (lv_at hl 1 rfl) ?_
                refine lv_iconst (v := 0) hx hb dX12_readArticle_135 rfl ?_
                refine lv_iload_n hx hb dX12_readArticle_136 rfl (lv_at hl 0 rfl) ?_
                refine q_if_ne hx hb (a := 3) (by decide) (tgt := 145) dX12_readArticle_137 rfl (fun c482 => ?_) (fun c482 => absurd c482 (by omega))
                refine lv_iload_n hx hb dX12_readArticle_145 rfl (lv_at hl 0 rfl) ?_
                refine lv_iconst (v := 1) hx hb dX12_readArticle_146 rfl ?_
                refine q_icmp_ne hx hb (a := 3) (b := 1) (by decide) (by decide) (tgt := 155) dX12_readArticle_147 rfl (fun c483 => ?_) (fun c483 => absurd c483 (by omega))
                refine lv_bipush (v := 18) hx hb dX12_readArticle_155 rfl ?_
                refine q_goI (q_runV (As := [.int 0, .int 18]) (rest := [.int v481, .ref ca]) E hC480 hS480 (m_X12_count l X Γ H480 hC480 h0 g0 0 (a1 := 0) (by decide) 18 (a2 := 18) (by decide) ca gca uc tq ((kp_R hKp480 g0 (ci := 11) (k := 7) rfl (by decide) rfl).trans htq) gtq (by omega) (by omega) (by omega) (by omega)) cw_X12_count cl_RX12_248 g0 ⟨rfl, rfl⟩ rfl hl.1 rfl (show _ ≤ _ from by simp [Value.category]) (by decide) dX12_readArticle_157) hS480 (fun v484 H484 locs484 hr484 hC484 hS484 => ?_)
                obtain ⟨hp484, hr484⟩ := hr484
                have hKp484 := hKp480.tr (hp484.mono rfl)
                obtain ⟨f484_0, f484_1, f484_2, f484_3, f484_4, f484_5, f484_6, f484_7, f484_8⟩ := hr484
                have hdc := HD.count hd hp484 g0 gca f484_8 f484_2 (by omega) rfl rfl
                have hd := hdc.1
                have hcv9 := hdc.2
                refine q_cast E hC484 hS484 gca (a := (2102 + 3)) ev481i (by omega) (by omega) (cs_n16 (a := (2102 + 3)) (by omega) (by omega)) dX12_readArticle_160 (fun H485 locs485 hC485 hS485 U485 => ?_)
                have hKp485 := Kp.upD gca rfl rfl (fun _ => ⟨fun _ => nd4 (by omega) (by omega), fun _ => by unfold dpu; omega, fun _ => by unfold dpn; omega⟩) U485 hKp484
                have m486 : (sI H485 h0 (X.1.2 11 12)).toInt = (sI H484 h0 (X.1.2 11 12)).toInt := congrArg Int32.toInt (up_nI U485 (ne_k g0 gca (by decide)))
                have m487 : (sI H485 h0 (X.1.2 11 14)).toInt = (sI H484 h0 (X.1.2 11 14)).toInt := congrArg Int32.toInt (up_nI U485 (ne_k g0 gca (by decide)))
                have m488 := congrArg tk m487
                have m489 : (sI H485 h0 (X.1.2 11 16)).toInt = (sI H484 h0 (X.1.2 11 16)).toInt := congrArg Int32.toInt (up_nI U485 (ne_k g0 gca (by decide)))
                have m490 : (sI H485 h0 (X.1.2 11 18)).toInt = (sI H484 h0 (X.1.2 11 18)).toInt := congrArg Int32.toInt (up_nI U485 (ne_k g0 gca (by decide)))
                have m491 : (sI H485 h0 (X.1.2 11 17)).toInt = (sI H484 h0 (X.1.2 11 17)).toInt := congrArg Int32.toInt (up_nI U485 (ne_k g0 gca (by decide)))
                have hd := HD.map hd (congrArg Int32.toInt (up_nI U485 (ne_k g0 gca (by decide)))) (fun hb0 mc ym => ⟨mc.ne U485 g0 gtq gca (by decide), ym.lim U485 g0 gca (w := 3) (by omega) (by omega) (by first | exact ha | (exfalso; omega))⟩)
                have hlv9 : (sI H485 ca (2102 + 3 : Int).toNat).toInt = v484.toInt := by rw [show (2102 + 3 : Int).toNat = ((2102 + 3) : Int).toNat by omega]; exact (congrArg Int32.toInt (up_I U485)).trans rfl
                have e492 := up_I U485
                refine lv_aload_n hx hb dX12_readArticle_161 rfl (lv_at hl 1 rfl) ?_
                refine q_getI E hC485 g0 fa_RX12_218 dX12_readArticle_162 (fun v493 ev493 lv493 uv493 => ?_)
                have m494 : (sI H485 h0 (X.1.2 11 12)).toInt = v493.toInt := (congrArg Int32.toInt ev493).trans rfl
                refine q_if_ne hx hb (a := v493.toInt) rfl (tgt := 179) dX12_readArticle_165 rfl (fun c495 => ?_) (fun c495 => ?_)
                · have hz8 := tk_nn (sI H485 h0 (X.1.2 11 14)).toInt
                  have hpost : ((sI H485 h0 (X.1.2 11 12)).toInt = 0 ∧ ∃ (S1 : YSt) (i1 : Nat), gArt kd vl S (i + 1) S1 i1 ∧ MC X H485 h0 tq kd vl w3 pos N i1 ∧ YSM X Γ H485 h0 ca kd vl w3 N S1) ∨ ((sI H485 h0 (X.1.2 11 12)).toInt ≠ 0 ∧ ∀ (S1 : YSt) (i1 : Nat), ¬ gArt kd vl S (i + 1) S1 i1) := by first | (exfalso; omega) | exact Or.inr ⟨by omega, hno⟩ | exact Or.inl ⟨by omega, _, _, Or.inl ⟨(mc1.word (j := 6) (by decide)).mp hw6, ha, hQ.1.2, hQ.2, rfl, by rw [hzz.2 (by decide)]⟩, mc, ym⟩ | exact Or.inl ⟨by omega, _, _, Or.inr (Or.inl ⟨(mc1.word (j := 12) (by decide)).mp hw12, ha, hQ.1.2, hQ.2, rfl, by rw [hzz.2 (by decide)]⟩), mc, ym⟩ | exact Or.inl ⟨by omega, _, _, Or.inr (Or.inr (Or.inl ⟨(mc1.word (j := 15) (by decide)).mp hw15, ha, hQ.1.2, hQ.2, rfl, by rw [hzz.2 (by decide)]⟩)), mc, ym⟩ | exact Or.inl ⟨by omega, _, _, Or.inr (Or.inr (Or.inr ⟨(mc1.word (j := 14) (by decide)).mp hw14, ha, rfl, by rw [hzz.1 rfl]⟩)), mc, ym⟩ | exact Or.inr ⟨by omega, fun S1 i1 q => by rcases q with ⟨q1, -, q3⟩ | ⟨q1, -, q3⟩ | ⟨q1, -, q3⟩ | ⟨q1, -, -⟩ <;> first | exact HD.no hd (by omega) ⟨⟨trivial, q3.1⟩, q3.2.1⟩ | exact HD.no hd (by omega) trivial | exact absurd (okW_j ((mc1.word (j := 6) (by decide)).mp hw6) q1 (by decide) (by decide)) (by decide) | exact absurd (okW_j ((mc1.word (j := 12) (by decide)).mp hw12) q1 (by decide) (by decide)) (by decide) | exact absurd (okW_j ((mc1.word (j := 15) (by decide)).mp hw15) q1 (by decide) (by decide)) (by decide) | exact absurd (okW_j ((mc1.word (j := 14) (by decide)).mp hw14) q1 (by decide) (by decide)) (by decide)⟩
                  exact ret H485 locs485 _ _ dX12_readArticle_179 ⟨hKp485, ⟨by omega, by omega, by omega, by omega, hpost⟩⟩ hC485 hS485
                · obtain ⟨hQ, mc, ym⟩ := HD.live hd (by omega)
                  have mc := mc
                  have ym := ym
                  obtain ⟨zz, hzz⟩ : ∃ z : Int, ((3 : Int) = 2 → z = 0) ∧ ((3 : Int) ≠ 2 → z = vl (i + 1 + 2)) := by first | exact ⟨0, fun _ => rfl, fun q => absurd rfl q⟩ | exact ⟨_, fun q => absurd q (by decide), fun _ => rfl⟩
                  have hq9 : 0 ≤ zz := by first | (have := hzz.1 rfl; omega) | (have q1 := hzz.2 (by decide); have q2 : 0 ≤ vl (i + 1 + 2) := hQ.2.2.1; omega) | (exfalso; omega)
                  have hlz9 : (sI H485 ca (2102 + 3 : Int).toNat).toInt = zz := by first | (rw [hzz.2 (by decide)]; exact hlv9.trans (hcv9 (by omega))) | (rw [hzz.1 rfl]; exact ym.2.2.2.2.2.2.1) | (exfalso; omega)
                  refine lv_aload_n hx hb dX12_readArticle_168 rfl (lv_at hl 1 rfl) ?_
                  refine q_getC E hC485 g0 fa_RX12_35 uc dX12_readArticle_169 ?_
                  refine lv_sipush (v := 2098) hx hb dX12_readArticle_172 rfl ?_
                  refine lv_iload_n hx hb dX12_readArticle_175 rfl (lv_at hl 0 rfl) ?_
                  refine lv_iadd hx hb dX12_readArticle_176 (lv_topi (fun v496 ev496 => ?_))
                  have ev496i : v496.toInt = (2098 + 3) := i_add ev496 (by decide) (by decide) (by omega) (by omega)
                  refine lv_iconst (v := 1) hx hb dX12_readArticle_177 rfl ?_
                  refine q_cast E hC485 hS485 gca (a := (2098 + 3)) ev496i (by omega) (by omega) (cs_n16 (a := (2098 + 3)) (by omega) (by omega)) dX12_readArticle_178 (fun H497 locs497 hC497 hS497 U497 => ?_)
                  have hKp497 := Kp.upD gca rfl rfl (fun _ => ⟨fun _ => nd4 (by omega) (by omega), fun _ => by unfold dpu; omega, fun _ => by unfold dpn; omega⟩) U497 hKp485
                  have mc := mc.ne U497 g0 gtq gca (by decide)
                  have m498 : (sI H497 h0 (X.1.2 11 12)).toInt = (sI H485 h0 (X.1.2 11 12)).toInt := congrArg Int32.toInt (up_nI U497 (ne_k g0 gca (by decide)))
                  have m499 : (sI H497 h0 (X.1.2 11 14)).toInt = (sI H485 h0 (X.1.2 11 14)).toInt := congrArg Int32.toInt (up_nI U497 (ne_k g0 gca (by decide)))
                  have m500 := congrArg tk m499
                  have m501 : (sI H497 h0 (X.1.2 11 16)).toInt = (sI H485 h0 (X.1.2 11 16)).toInt := congrArg Int32.toInt (up_nI U497 (ne_k g0 gca (by decide)))
                  have m502 : (sI H497 h0 (X.1.2 11 18)).toInt = (sI H485 h0 (X.1.2 11 18)).toInt := congrArg Int32.toInt (up_nI U497 (ne_k g0 gca (by decide)))
                  have m503 : (sI H497 h0 (X.1.2 11 17)).toInt = (sI H485 h0 (X.1.2 11 17)).toInt := congrArg Int32.toInt (up_nI U497 (ne_k g0 gca (by decide)))
                  have ym := ym.art U497 g0 gca (w := 3) (z := zz) (by omega) (by omega) (by decide) hq9 hlz9
                  have e504 := up_I U497
                  have hz8 := tk_nn (sI H497 h0 (X.1.2 11 14)).toInt
                  have hpost : ((sI H497 h0 (X.1.2 11 12)).toInt = 0 ∧ ∃ (S1 : YSt) (i1 : Nat), gArt kd vl S (i + 1) S1 i1 ∧ MC X H497 h0 tq kd vl w3 pos N i1 ∧ YSM X Γ H497 h0 ca kd vl w3 N S1) ∨ ((sI H497 h0 (X.1.2 11 12)).toInt ≠ 0 ∧ ∀ (S1 : YSt) (i1 : Nat), ¬ gArt kd vl S (i + 1) S1 i1) := by first | (exfalso; omega) | exact Or.inr ⟨by omega, hno⟩ | exact Or.inl ⟨by omega, _, _, Or.inl ⟨(mc1.word (j := 6) (by decide)).mp hw6, ha, hQ.1.2, hQ.2, rfl, by rw [hzz.2 (by decide)]⟩, mc, ym⟩ | exact Or.inl ⟨by omega, _, _, Or.inr (Or.inl ⟨(mc1.word (j := 12) (by decide)).mp hw12, ha, hQ.1.2, hQ.2, rfl, by rw [hzz.2 (by decide)]⟩), mc, ym⟩ | exact Or.inl ⟨by omega, _, _, Or.inr (Or.inr (Or.inl ⟨(mc1.word (j := 15) (by decide)).mp hw15, ha, hQ.1.2, hQ.2, rfl, by rw [hzz.2 (by decide)]⟩)), mc, ym⟩ | exact Or.inl ⟨by omega, _, _, Or.inr (Or.inr (Or.inr ⟨(mc1.word (j := 14) (by decide)).mp hw14, ha, rfl, by rw [hzz.1 rfl]⟩)), mc, ym⟩ | exact Or.inr ⟨by omega, fun S1 i1 q => by rcases q with ⟨q1, -, q3⟩ | ⟨q1, -, q3⟩ | ⟨q1, -, q3⟩ | ⟨q1, -, -⟩ <;> first | exact HD.no hd (by omega) ⟨⟨trivial, q3.1⟩, q3.2.1⟩ | exact HD.no hd (by omega) trivial | exact absurd (okW_j ((mc1.word (j := 6) (by decide)).mp hw6) q1 (by decide) (by decide)) (by decide) | exact absurd (okW_j ((mc1.word (j := 12) (by decide)).mp hw12) q1 (by decide) (by decide)) (by decide) | exact absurd (okW_j ((mc1.word (j := 15) (by decide)).mp hw15) q1 (by decide) (by decide)) (by decide) | exact absurd (okW_j ((mc1.word (j := 14) (by decide)).mp hw14) q1 (by decide) (by decide)) (by decide)⟩
                  exact ret H497 locs497 _ _ dX12_readArticle_179 ⟨hKp497, ⟨by omega, by omega, by omega, by omega, hpost⟩⟩ hC497 hS497
        · have hw15 := hw
          refine q_if_eq hx hb (a := 0) (by decide) (tgt := 48) dX12_readArticle_41 rfl (fun c505 => ?_) (fun c505 => absurd c505 (by omega))
          refine lv_iconst (v := (-1)) hx hb dX12_readArticle_48 rfl ?_
          refine lv_istore_n hx hb dX12_readArticle_49 rfl hl (by decide) rfl (fun ls hl => ?_)
          have hl : lv_has ls 2 [(1, .int (-1)), (0, .ref h0)] := hl
          refine lv_iload_n hx hb dX12_readArticle_50 rfl (lv_at hl 0 rfl) ?_
          refine q_if_ge hx hb (a := (-1)) (by decide) (tgt := 58) dX12_readArticle_51 rfl (fun c506 => absurd c506 (by omega)) (fun c506 => ?_)
          have hno : ∀ (S1 : YSt) (i1 : Nat), ¬ gArt kd vl S (i + 1) S1 i1 := fun S1 i1 q => by rcases q with ⟨q1, q2, -⟩ | ⟨q1, q2, -⟩ | ⟨q1, q2, -⟩ | ⟨q1, q2, -⟩ <;> first | exact absurd ((mc.word (by decide)).mpr q1) (by assumption) | exact absurd (okW_j ((mc.word (j := 6) (by decide)).mp hw6) q1 (by decide) (by decide)) (by decide) | exact absurd (okW_j ((mc.word (j := 12) (by decide)).mp hw12) q1 (by decide) (by decide)) (by decide) | exact absurd (okW_j ((mc.word (j := 15) (by decide)).mp hw15) q1 (by decide) (by decide)) (by decide) | exact absurd (okW_j ((mc.word (j := 14) (by decide)).mp hw14) q1 (by decide) (by decide)) (by decide) | (rw [if_pos q2] at hta; omega)
          refine lv_aload_n hx hb dX12_readArticle_54 rfl (lv_at hl 1 rfl) ?_
          refine q_goV (q_runV (As := []) (rest := []) E hC21 hS391 (m_X12_wrong l X Γ H21 hC21 h0 g0 ca gca uc) cw_X12_wrong cl_RX12_231 g0 ⟨rfl, rfl⟩ rfl hl.1 rfl (Nat.zero_le _) (by decide) dX12_readArticle_55) hS391 (fun H507 locs507 hr507 hC507 hS507 => ?_)
          obtain ⟨hp507, hr507⟩ := hr507
          have hKp507 := hKp21.tr (hp507.mono rfl)
          have ym := ym.kp hp507 g0 gca rfl rfl
          obtain ⟨f507_0, f507_1, f507_2, f507_3⟩ := hr507
          have hd := HD.dead (i := 0) (S := S) (kd := kd) (vl := vl) (w3 := w3) (pos := pos) (N := N) (tq := tq) (ca := ca) (X := X) (Γ := Γ) (H := H507) (r := h0) (by omega)
          refine lv_aload_n hx hb dX12_readArticle_58 rfl (lv_at hl 1 rfl) ?_
          refine q_getI E hC507 g0 fa_RX12_218 dX12_readArticle_59 (fun v508 ev508 lv508 uv508 => ?_)
          have m509 : (sI H507 h0 (X.1.2 11 12)).toInt = v508.toInt := (congrArg Int32.toInt ev508).trans rfl
          refine q_if_ne hx hb (a := v508.toInt) rfl (tgt := 88) dX12_readArticle_62 rfl (fun c510 => ?_) (fun c510 => absurd c510 (by omega))
          refine lv_aload_n hx hb dX12_readArticle_88 rfl (lv_at hl 1 rfl) ?_
          refine lv_iconst (v := 1) hx hb dX12_readArticle_89 rfl ?_
          refine q_goV (q_runV (As := [.int 1]) (rest := []) E hC507 hS507 (m_X12_must l X Γ H507 hC507 h0 g0 1 (a1 := 1) (by decide) ca gca uc tq ((kp_R hKp507 g0 (ci := 11) (k := 7) rfl (by decide) rfl).trans htq) gtq (by omega) (by omega)) cw_X12_must cl_RX12_244 g0 ⟨rfl, rfl⟩ rfl hl.1 rfl (Nat.zero_le _) (by decide) dX12_readArticle_90) hS507 (fun H511 locs511 hr511 hC511 hS511 => ?_)
          obtain ⟨hp511, hr511⟩ := hr511
          have hKp511 := hKp507.tr (hp511.mono rfl)
          obtain ⟨f511_0, f511_1, f511_2, f511_3, f511_4, f511_5⟩ := hr511
          have hd := HD.go hd hp511 g0 gca (by first | exact fun q => q.elim | exact fun _ => hk2) f511_5 f511_2 (by omega) rfl rfl
          refine lv_aload_n hx hb dX12_readArticle_93 rfl (lv_at hl 1 rfl) ?_
          refine q_getI E hC511 g0 fa_RX12_218 dX12_readArticle_94 (fun v512 ev512 lv512 uv512 => ?_)
          have m513 : (sI H511 h0 (X.1.2 11 12)).toInt = v512.toInt := (congrArg Int32.toInt ev512).trans rfl
          refine q_if_ne hx hb (a := v512.toInt) rfl (tgt := 161) dX12_readArticle_97 rfl (fun c514 => ?_) (fun c514 => ?_)
          · refine lv_aload_n hx hb dX12_readArticle_161 rfl (lv_at hl 1 rfl) ?_
            refine q_getI E hC511 g0 fa_RX12_218 dX12_readArticle_162 (fun v515 ev515 lv515 uv515 => ?_)
            have qv515 := ev512.symm.trans ev515; subst qv515
            refine q_if_ne hx hb (a := v512.toInt) rfl (tgt := 179) dX12_readArticle_165 rfl (fun c516 => ?_) (fun c516 => absurd c516 (by omega))
            have hz8 := tk_nn (sI H511 h0 (X.1.2 11 14)).toInt
            have hpost : ((sI H511 h0 (X.1.2 11 12)).toInt = 0 ∧ ∃ (S1 : YSt) (i1 : Nat), gArt kd vl S (i + 1) S1 i1 ∧ MC X H511 h0 tq kd vl w3 pos N i1 ∧ YSM X Γ H511 h0 ca kd vl w3 N S1) ∨ ((sI H511 h0 (X.1.2 11 12)).toInt ≠ 0 ∧ ∀ (S1 : YSt) (i1 : Nat), ¬ gArt kd vl S (i + 1) S1 i1) := by first | (exfalso; omega) | exact Or.inr ⟨by omega, hno⟩ | exact Or.inl ⟨by omega, _, _, Or.inl ⟨(mc1.word (j := 6) (by decide)).mp hw6, ha, hQ.1.2, hQ.2, rfl, by rw [hzz.2 (by decide)]⟩, mc, ym⟩ | exact Or.inl ⟨by omega, _, _, Or.inr (Or.inl ⟨(mc1.word (j := 12) (by decide)).mp hw12, ha, hQ.1.2, hQ.2, rfl, by rw [hzz.2 (by decide)]⟩), mc, ym⟩ | exact Or.inl ⟨by omega, _, _, Or.inr (Or.inr (Or.inl ⟨(mc1.word (j := 15) (by decide)).mp hw15, ha, hQ.1.2, hQ.2, rfl, by rw [hzz.2 (by decide)]⟩)), mc, ym⟩ | exact Or.inl ⟨by omega, _, _, Or.inr (Or.inr (Or.inr ⟨(mc1.word (j := 14) (by decide)).mp hw14, ha, rfl, by rw [hzz.1 rfl]⟩)), mc, ym⟩ | exact Or.inr ⟨by omega, fun S1 i1 q => by rcases q with ⟨q1, -, q3⟩ | ⟨q1, -, q3⟩ | ⟨q1, -, q3⟩ | ⟨q1, -, -⟩ <;> first | exact HD.no hd (by omega) ⟨⟨trivial, q3.1⟩, q3.2.1⟩ | exact HD.no hd (by omega) trivial | exact absurd (okW_j ((mc1.word (j := 6) (by decide)).mp hw6) q1 (by decide) (by decide)) (by decide) | exact absurd (okW_j ((mc1.word (j := 12) (by decide)).mp hw12) q1 (by decide) (by decide)) (by decide) | exact absurd (okW_j ((mc1.word (j := 15) (by decide)).mp hw15) q1 (by decide) (by decide)) (by decide) | exact absurd (okW_j ((mc1.word (j := 14) (by decide)).mp hw14) q1 (by decide) (by decide)) (by decide)⟩
            exact ret H511 locs511 _ _ dX12_readArticle_179 ⟨hKp511, ⟨by omega, by omega, by omega, by omega, hpost⟩⟩ hC511 hS511
          · refine lv_iload_n hx hb dX12_readArticle_100 rfl (lv_at hl 0 rfl) ?_
            refine lv_iconst (v := 2) hx hb dX12_readArticle_101 rfl ?_
            refine q_icmp_eq hx hb (a := (-1)) (b := 2) (by decide) (by decide) (tgt := 161) dX12_readArticle_102 rfl (fun c517 => absurd c517 (by omega)) (fun c517 => ?_)
            refine lv_aload_n hx hb dX12_readArticle_105 rfl (lv_at hl 1 rfl) ?_
            refine lv_iload_n hx hb dX12_readArticle_106 rfl (lv_at hl 0 rfl) ?_
            refine lv_iconst (v := 1) hx hb dX12_readArticle_107 rfl ?_
            refine q_icmp_ne hx hb (a := (-1)) (b := 1) (by decide) (by decide) (tgt := 118) dX12_readArticle_108 rfl (fun c518 => ?_) (fun c518 => absurd c518 (by omega))
            refine lv_aload_n hx hb dX12_readArticle_118 rfl (lv_at hl 1 rfl) ?_
            refine q_goIp (q_runV (As := []) (rest := [.ref h0]) E hC511 hS511 (m_X12_isAbove l X Γ H511 hC511 h0 g0 ca gca uc) cw_X12_isAbove cl_RX12_196 g0 ⟨rfl, rfl⟩ rfl hl.1 rfl (show _ ≤ _ from by simp [Value.category]) (by decide) dX12_readArticle_119) hS511 (fun v519 locs519 hr519 hS519 => ?_)
            have b519 : (v519.toInt = 1 ∧ _) ∨ (v519.toInt = 0 ∧ _) := hr519.imp (fun h => ⟨by rw [h.1]; decide, h.2⟩) (fun h => ⟨by rw [h.1]; decide, h.2⟩)
            have hbz := b519
            refine q_goV (q_runV (As := [.int v519]) (rest := []) E hC511 hS519 (m_X12_must l X Γ H511 hC511 h0 g0 v519 (a1 := v519.toInt) rfl ca gca uc tq ((kp_R hKp511 g0 (ci := 11) (k := 7) rfl (by decide) rfl).trans htq) gtq (by omega) (by omega)) cw_X12_must cl_RX12_244 g0 ⟨rfl, rfl⟩ rfl hl.1 rfl (Nat.zero_le _) (by decide) dX12_readArticle_122) hS519 (fun H520 locs520 hr520 hC520 hS520 => ?_)
            obtain ⟨hp520, hr520⟩ := hr520
            have hKp520 := hKp511.tr (hp520.mono rfl)
            obtain ⟨f520_0, f520_1, f520_2, f520_3, f520_4, f520_5⟩ := hr520
            have hd := HD.must hd hp520 g0 gca (by first | exact hbz | exact Or.inl ⟨rfl, hw⟩ | exact Or.inr ⟨rfl, hw⟩) f520_5 f520_2 (by omega) rfl rfl (by decide)
            refine lv_aload_n hx hb dX12_readArticle_125 rfl (lv_at hl 1 rfl) ?_
            refine q_getC E hC520 g0 fa_RX12_35 uc dX12_readArticle_126 ?_
            refine lv_sipush (v := 2102) hx hb dX12_readArticle_129 rfl ?_
            refine lv_iload_n hx hb dX12_readArticle_132 rfl (lv_at hl 0 rfl) ?_
            refine lv_iadd hx hb dX12_readArticle_133 (lv_topi (fun v521 ev521 => ?_))
            have ev521i : v521.toInt = (2102 + (-1)) := i_add ev521 (by decide) (by decide) (by omega) (by omega)
            refine lv_aload_n hx hb dX12_readArticle_134 rfl (lv_at hl 1 rfl) ?_
            refine lv_iconst (v := 0) hx hb dX12_readArticle_135 rfl ?_
            refine lv_iload_n hx hb dX12_readArticle_136 rfl (lv_at hl 0 rfl) ?_
            refine q_if_ne hx hb (a := (-1)) (by decide) (tgt := 145) dX12_readArticle_137 rfl (fun c522 => ?_) (fun c522 => absurd c522 (by omega))
            refine lv_iload_n hx hb dX12_readArticle_145 rfl (lv_at hl 0 rfl) ?_
            refine lv_iconst (v := 1) hx hb dX12_readArticle_146 rfl ?_
            refine q_icmp_ne hx hb (a := (-1)) (b := 1) (by decide) (by decide) (tgt := 155) dX12_readArticle_147 rfl (fun c523 => ?_) (fun c523 => absurd c523 (by omega))
            refine lv_bipush (v := 18) hx hb dX12_readArticle_155 rfl ?_
            refine q_goI (q_runV (As := [.int 0, .int 18]) (rest := [.int v521, .ref ca]) E hC520 hS520 (m_X12_count l X Γ H520 hC520 h0 g0 0 (a1 := 0) (by decide) 18 (a2 := 18) (by decide) ca gca uc tq ((kp_R hKp520 g0 (ci := 11) (k := 7) rfl (by decide) rfl).trans htq) gtq (by omega) (by omega) (by omega) (by omega)) cw_X12_count cl_RX12_248 g0 ⟨rfl, rfl⟩ rfl hl.1 rfl (show _ ≤ _ from by simp [Value.category]) (by decide) dX12_readArticle_157) hS520 (fun v524 H524 locs524 hr524 hC524 hS524 => ?_)
            obtain ⟨hp524, hr524⟩ := hr524
            have hKp524 := hKp520.tr (hp524.mono rfl)
            obtain ⟨f524_0, f524_1, f524_2, f524_3, f524_4, f524_5, f524_6, f524_7, f524_8⟩ := hr524
            have hdc := HD.count hd hp524 g0 gca f524_8 f524_2 (by omega) rfl rfl
            have hd := hdc.1
            have hcv9 := hdc.2
            refine q_cast E hC524 hS524 gca (a := (2102 + (-1))) ev521i (by omega) (by omega) (cs_n16 (a := (2102 + (-1))) (by omega) (by omega)) dX12_readArticle_160 (fun H525 locs525 hC525 hS525 U525 => ?_)
            have hKp525 := Kp.upD gca rfl rfl (fun _ => ⟨fun _ => nd4 (by omega) (by omega), fun _ => by unfold dpu; omega, fun _ => by unfold dpn; omega⟩) U525 hKp524
            have m526 : (sI H525 h0 (X.1.2 11 12)).toInt = (sI H524 h0 (X.1.2 11 12)).toInt := congrArg Int32.toInt (up_nI U525 (ne_k g0 gca (by decide)))
            have m527 : (sI H525 h0 (X.1.2 11 14)).toInt = (sI H524 h0 (X.1.2 11 14)).toInt := congrArg Int32.toInt (up_nI U525 (ne_k g0 gca (by decide)))
            have m528 := congrArg tk m527
            have m529 : (sI H525 h0 (X.1.2 11 16)).toInt = (sI H524 h0 (X.1.2 11 16)).toInt := congrArg Int32.toInt (up_nI U525 (ne_k g0 gca (by decide)))
            have m530 : (sI H525 h0 (X.1.2 11 18)).toInt = (sI H524 h0 (X.1.2 11 18)).toInt := congrArg Int32.toInt (up_nI U525 (ne_k g0 gca (by decide)))
            have m531 : (sI H525 h0 (X.1.2 11 17)).toInt = (sI H524 h0 (X.1.2 11 17)).toInt := congrArg Int32.toInt (up_nI U525 (ne_k g0 gca (by decide)))
            have hd := HD.map hd (congrArg Int32.toInt (up_nI U525 (ne_k g0 gca (by decide)))) (fun hb0 mc ym => ⟨mc.ne U525 g0 gtq gca (by decide), ym.lim U525 g0 gca (w := (-1)) (by omega) (by omega) (by first | exact ha | (exfalso; omega))⟩)
            have hlv9 : (sI H525 ca (2102 + (-1) : Int).toNat).toInt = v524.toInt := by rw [show (2102 + (-1) : Int).toNat = ((2102 + (-1)) : Int).toNat by omega]; exact (congrArg Int32.toInt (up_I U525)).trans rfl
            have e532 := up_I U525
            refine lv_aload_n hx hb dX12_readArticle_161 rfl (lv_at hl 1 rfl) ?_
            refine q_getI E hC525 g0 fa_RX12_218 dX12_readArticle_162 (fun v533 ev533 lv533 uv533 => ?_)
            have m534 : (sI H525 h0 (X.1.2 11 12)).toInt = v533.toInt := (congrArg Int32.toInt ev533).trans rfl
            refine q_if_ne hx hb (a := v533.toInt) rfl (tgt := 179) dX12_readArticle_165 rfl (fun c535 => ?_) (fun c535 => ?_)
            · have hz8 := tk_nn (sI H525 h0 (X.1.2 11 14)).toInt
              have hpost : ((sI H525 h0 (X.1.2 11 12)).toInt = 0 ∧ ∃ (S1 : YSt) (i1 : Nat), gArt kd vl S (i + 1) S1 i1 ∧ MC X H525 h0 tq kd vl w3 pos N i1 ∧ YSM X Γ H525 h0 ca kd vl w3 N S1) ∨ ((sI H525 h0 (X.1.2 11 12)).toInt ≠ 0 ∧ ∀ (S1 : YSt) (i1 : Nat), ¬ gArt kd vl S (i + 1) S1 i1) := by first | (exfalso; omega) | exact Or.inr ⟨by omega, hno⟩ | exact Or.inl ⟨by omega, _, _, Or.inl ⟨(mc1.word (j := 6) (by decide)).mp hw6, ha, hQ.1.2, hQ.2, rfl, by rw [hzz.2 (by decide)]⟩, mc, ym⟩ | exact Or.inl ⟨by omega, _, _, Or.inr (Or.inl ⟨(mc1.word (j := 12) (by decide)).mp hw12, ha, hQ.1.2, hQ.2, rfl, by rw [hzz.2 (by decide)]⟩), mc, ym⟩ | exact Or.inl ⟨by omega, _, _, Or.inr (Or.inr (Or.inl ⟨(mc1.word (j := 15) (by decide)).mp hw15, ha, hQ.1.2, hQ.2, rfl, by rw [hzz.2 (by decide)]⟩)), mc, ym⟩ | exact Or.inl ⟨by omega, _, _, Or.inr (Or.inr (Or.inr ⟨(mc1.word (j := 14) (by decide)).mp hw14, ha, rfl, by rw [hzz.1 rfl]⟩)), mc, ym⟩ | exact Or.inr ⟨by omega, fun S1 i1 q => by rcases q with ⟨q1, -, q3⟩ | ⟨q1, -, q3⟩ | ⟨q1, -, q3⟩ | ⟨q1, -, -⟩ <;> first | exact HD.no hd (by omega) ⟨⟨trivial, q3.1⟩, q3.2.1⟩ | exact HD.no hd (by omega) trivial | exact absurd (okW_j ((mc1.word (j := 6) (by decide)).mp hw6) q1 (by decide) (by decide)) (by decide) | exact absurd (okW_j ((mc1.word (j := 12) (by decide)).mp hw12) q1 (by decide) (by decide)) (by decide) | exact absurd (okW_j ((mc1.word (j := 15) (by decide)).mp hw15) q1 (by decide) (by decide)) (by decide) | exact absurd (okW_j ((mc1.word (j := 14) (by decide)).mp hw14) q1 (by decide) (by decide)) (by decide)⟩
              exact ret H525 locs525 _ _ dX12_readArticle_179 ⟨hKp525, ⟨by omega, by omega, by omega, by omega, hpost⟩⟩ hC525 hS525
            · obtain ⟨hQ, mc, ym⟩ := HD.live hd (by omega)
              have mc := mc
              have ym := ym
              obtain ⟨zz, hzz⟩ : ∃ z : Int, (((-1) : Int) = 2 → z = 0) ∧ (((-1) : Int) ≠ 2 → z = vl (i + 1 + 2)) := by first | exact ⟨0, fun _ => rfl, fun q => absurd rfl q⟩ | exact ⟨_, fun q => absurd q (by decide), fun _ => rfl⟩
              have hq9 : 0 ≤ zz := by first | (have := hzz.1 rfl; omega) | (have q1 := hzz.2 (by decide); have q2 : 0 ≤ vl (i + 1 + 2) := hQ.2.2.1; omega) | (exfalso; omega)
              have hlz9 : (sI H525 ca (2102 + (-1) : Int).toNat).toInt = zz := by first | (rw [hzz.2 (by decide)]; exact hlv9.trans (hcv9 (by omega))) | (rw [hzz.1 rfl]; exact ym.2.2.2.2.2.2.1) | (exfalso; omega)
              refine lv_aload_n hx hb dX12_readArticle_168 rfl (lv_at hl 1 rfl) ?_
              refine q_getC E hC525 g0 fa_RX12_35 uc dX12_readArticle_169 ?_
              refine lv_sipush (v := 2098) hx hb dX12_readArticle_172 rfl ?_
              refine lv_iload_n hx hb dX12_readArticle_175 rfl (lv_at hl 0 rfl) ?_
              refine lv_iadd hx hb dX12_readArticle_176 (lv_topi (fun v536 ev536 => ?_))
              have ev536i : v536.toInt = (2098 + (-1)) := i_add ev536 (by decide) (by decide) (by omega) (by omega)
              refine lv_iconst (v := 1) hx hb dX12_readArticle_177 rfl ?_
              refine q_cast E hC525 hS525 gca (a := (2098 + (-1))) ev536i (by omega) (by omega) (cs_n16 (a := (2098 + (-1))) (by omega) (by omega)) dX12_readArticle_178 (fun H537 locs537 hC537 hS537 U537 => ?_)
              have hKp537 := Kp.upD gca rfl rfl (fun _ => ⟨fun _ => nd4 (by omega) (by omega), fun _ => by unfold dpu; omega, fun _ => by unfold dpn; omega⟩) U537 hKp525
              have mc := mc.ne U537 g0 gtq gca (by decide)
              have m538 : (sI H537 h0 (X.1.2 11 12)).toInt = (sI H525 h0 (X.1.2 11 12)).toInt := congrArg Int32.toInt (up_nI U537 (ne_k g0 gca (by decide)))
              have m539 : (sI H537 h0 (X.1.2 11 14)).toInt = (sI H525 h0 (X.1.2 11 14)).toInt := congrArg Int32.toInt (up_nI U537 (ne_k g0 gca (by decide)))
              have m540 := congrArg tk m539
              have m541 : (sI H537 h0 (X.1.2 11 16)).toInt = (sI H525 h0 (X.1.2 11 16)).toInt := congrArg Int32.toInt (up_nI U537 (ne_k g0 gca (by decide)))
              have m542 : (sI H537 h0 (X.1.2 11 18)).toInt = (sI H525 h0 (X.1.2 11 18)).toInt := congrArg Int32.toInt (up_nI U537 (ne_k g0 gca (by decide)))
              have m543 : (sI H537 h0 (X.1.2 11 17)).toInt = (sI H525 h0 (X.1.2 11 17)).toInt := congrArg Int32.toInt (up_nI U537 (ne_k g0 gca (by decide)))
              have ym := ym.art U537 g0 gca (w := (-1)) (z := zz) (by omega) (by omega) (by decide) hq9 hlz9
              have e544 := up_I U537
              have hz8 := tk_nn (sI H537 h0 (X.1.2 11 14)).toInt
              have hpost : ((sI H537 h0 (X.1.2 11 12)).toInt = 0 ∧ ∃ (S1 : YSt) (i1 : Nat), gArt kd vl S (i + 1) S1 i1 ∧ MC X H537 h0 tq kd vl w3 pos N i1 ∧ YSM X Γ H537 h0 ca kd vl w3 N S1) ∨ ((sI H537 h0 (X.1.2 11 12)).toInt ≠ 0 ∧ ∀ (S1 : YSt) (i1 : Nat), ¬ gArt kd vl S (i + 1) S1 i1) := by first | (exfalso; omega) | exact Or.inr ⟨by omega, hno⟩ | exact Or.inl ⟨by omega, _, _, Or.inl ⟨(mc1.word (j := 6) (by decide)).mp hw6, ha, hQ.1.2, hQ.2, rfl, by rw [hzz.2 (by decide)]⟩, mc, ym⟩ | exact Or.inl ⟨by omega, _, _, Or.inr (Or.inl ⟨(mc1.word (j := 12) (by decide)).mp hw12, ha, hQ.1.2, hQ.2, rfl, by rw [hzz.2 (by decide)]⟩), mc, ym⟩ | exact Or.inl ⟨by omega, _, _, Or.inr (Or.inr (Or.inl ⟨(mc1.word (j := 15) (by decide)).mp hw15, ha, hQ.1.2, hQ.2, rfl, by rw [hzz.2 (by decide)]⟩)), mc, ym⟩ | exact Or.inl ⟨by omega, _, _, Or.inr (Or.inr (Or.inr ⟨(mc1.word (j := 14) (by decide)).mp hw14, ha, rfl, by rw [hzz.1 rfl]⟩)), mc, ym⟩ | exact Or.inr ⟨by omega, fun S1 i1 q => by rcases q with ⟨q1, -, q3⟩ | ⟨q1, -, q3⟩ | ⟨q1, -, q3⟩ | ⟨q1, -, -⟩ <;> first | exact HD.no hd (by omega) ⟨⟨trivial, q3.1⟩, q3.2.1⟩ | exact HD.no hd (by omega) trivial | exact absurd (okW_j ((mc1.word (j := 6) (by decide)).mp hw6) q1 (by decide) (by decide)) (by decide) | exact absurd (okW_j ((mc1.word (j := 12) (by decide)).mp hw12) q1 (by decide) (by decide)) (by decide) | exact absurd (okW_j ((mc1.word (j := 15) (by decide)).mp hw15) q1 (by decide) (by decide)) (by decide) | exact absurd (okW_j ((mc1.word (j := 14) (by decide)).mp hw14) q1 (by decide) (by decide)) (by decide)⟩
              exact ret H537 locs537 _ _ dX12_readArticle_179 ⟨hKp537, ⟨by omega, by omega, by omega, by omega, hpost⟩⟩ hC537 hS537
