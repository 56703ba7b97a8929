set_option maxRecDepth 100000 in
set_option maxHeartbeats 4000000 in
theorem m_X10_takeSize (l : Launch) (X : xW) (Γ : Nat → Option Nat) (H0 : Heap) (hC0 : Conf X Γ H0) (h0 : Nat) (g0 : Γ h0 = some 3) (h1 : Nat) (g1 : Γ h1 = some 5) (ra : Nat) (gra : Γ ra = some 2) (ur : ∀ a, Γ a = some 2 → a = ra) (kd vl : Nat → Int) (N i : Nat) (S : YSt) (cu : CU X Γ H0 ra kd vl N i) (ys : YSC X Γ H0 h0 h1 vl S) (r0 : i = 0) : Ctr l X Γ yX10_takeSize cX10_takeSize 2 (some .boolean) 3 [.ref h0, .ref h1] H0 (QI X Γ (fun v H1 => Kp X Γ [0, 2, 3, 4, 5, 18, 21, 23, 25, 27, 29, 31, 37, 39, 40, 41] H0 H1 ∧ ((v = 1 ∧ (∃ S1 : YSt, gHead kd vl S1.1 S1.2.1 ∧ S1.2.2 = S.2.2 ∧ CU X Γ H1 ra kd vl N 5 ∧ YSC X Γ H1 h0 h1 vl S1)) ∨ (v = 0 ∧ (∀ w h, ¬ gHead kd vl w h))))) := by
  refine q_enterZ (own := "SnowForts$YardText") (by decide) rfl (Nat.le_of_ble_eq_true rfl) ?_
  intro p e s m args below meth c ls Qz E hl ret hS0
  have hx := E.1; have hb := E.2.1
  have hKp0 : Kp X Γ [0, 2, 3, 4, 5, 18, 21, 23, 25, 27, 29, 31, 37, 39, 40, 41] H0 H0 := Kp.rf
  have hl : lv_has ls 2 [(0, .ref h0), (1, .ref h1)] := hl
  subst r0
  have gry := cu.g; have gyt := g0; have gyy := g1
  refine lv_aload_n hx hb dX10_takeSize_0 rfl (lv_at hl 0 rfl) ?_
  refine q_getU E hC0 g0 fa_RX10_21 ur dX10_takeSize_1 ?_
  refine q_word E hS0 (i := 0) (by decide) w_618 dX10_takeSize_4 (fun g21 => ?_)
  refine q_goI (q_runV (As := [va_rf (some (wad X 0))]) (rest := []) E hC0 hS0 (m_X4_take l X Γ H0 hC0 ra gra (some (wad X 0)) (fun _ h => by cases h; exact g21)) cw_X4_take cl_RX10_75 gra ⟨rfl, rfl⟩ rfl hl.1 rfl (Nat.zero_le _) (by decide) dX10_takeSize_7) hS0 (fun v22 H22 locs22 hr22 hC22 hS22 => ?_)
  obtain ⟨hp22, hr22⟩ := hr22
  have hKp22 := hKp0.tr (hp22.mono rfl)
  have ys := ys.kp hp22 gyt gyy rfl
  rcases hr22.2 kd vl N (0) cu 0 (by decide) rfl with ⟨rfl, w1, cu⟩ | ⟨rfl, w1⟩
  · refine q_if_eq hx hb (a := 1) (by decide) (tgt := 26) dX10_takeSize_10 rfl (fun c23 => absurd c23 (by omega)) (fun c23 => ?_)
    refine lv_aload_n hx hb dX10_takeSize_13 rfl (lv_at hl 0 rfl) ?_
    refine q_getU E hC22 g0 fa_RX10_21 ur dX10_takeSize_14 ?_
    refine lv_iconst (v := 2) hx hb dX10_takeSize_17 rfl ?_
    refine lv_bipush (v := 6) hx hb dX10_takeSize_18 rfl ?_
    refine q_goI (q_runV (As := [.int 2, .int 6]) (rest := []) E hC22 hS22 (m_X4_takeNumber l X Γ H22 hC22 ra gra 2 (a1 := 2) (by decide) 6 (a2 := 6) (by decide)) cw_X4_takeNumber cl_RX10_79 gra ⟨rfl, rfl⟩ rfl hl.1 rfl (Nat.zero_le _) (by decide) dX10_takeSize_20) hS22 (fun v24 H24 locs24 hr24 hC24 hS24 => ?_)
    obtain ⟨hp24, hr24⟩ := hr24
    have hKp24 := hKp22.tr (hp24.mono rfl)
    have ys := ys.kp hp24 gyt gyy rfl
    rcases hr24.2 kd vl N (1) cu with ⟨rfl, ⟨o1, o2, o3⟩, n1, cu⟩ | ⟨rfl, w2⟩
    · refine q_if_ne hx hb (a := 1) (by decide) (tgt := 28) dX10_takeSize_23 rfl (fun c25 => ?_) (fun c25 => absurd c25 (by omega))
      refine lv_aload_n hx hb dX10_takeSize_28 rfl (lv_at hl 0 rfl) ?_
      refine q_getU E hC24 g0 fa_RX10_21 ur dX10_takeSize_29 ?_
      refine q_getI E hC24 gra fa_RX10_83 dX10_takeSize_32 (fun v26 ev26 _ _ => ?_)
      have m27 : (sI H24 ra (X.1.2 4 13)).toInt = v26.toInt := congrArg Int32.toInt ev26
      refine lv_iconst (v := 2) hx hb dX10_takeSize_35 rfl ?_
      refine lv_irem hx hb dX10_takeSize_36 (by decide) (lv_topi (fun v28 ev28 => ?_))
      have ev28i : v28.toInt = (v26.toInt % 2) := i_rem ev28 rfl (by decide) (by omega) (by decide)
      refine q_if_eq hx hb (a := (v26.toInt % 2)) ev28i (tgt := 56) dX10_takeSize_37 rfl (fun c29 => ?_) (fun c29 => ?_)
      · refine lv_aload_n hx hb dX10_takeSize_56 rfl (lv_at hl 1 rfl) ?_
        refine lv_aload_n hx hb dX10_takeSize_57 rfl (lv_at hl 0 rfl) ?_
        refine q_getU E hC24 g0 fa_RX10_21 ur dX10_takeSize_58 ?_
        refine q_getI E hC24 gra fa_RX10_83 dX10_takeSize_61 (fun v30 ev30 _ _ => ?_)
        have qv30 := ev26.symm.trans ev30; subst qv30
        have m31 : (sI H24 ra (X.1.2 4 13)).toInt = v26.toInt := (congrArg Int32.toInt ev30).trans rfl
        refine q_put E hC24 hS24 g1 fp_RX10_92 tv_F rfl rfl dX10_takeSize_64 (fun H32 locs32 hC32 hS32 U32 => ?_)
        have hKp32 := Kp.upO E g1 fp_RX10_92 rfl U32 hKp24
        have e33 := up_I U32
        have cu := cu.ne U32 g1 (by decide)
        have ys := ys.wide E U32 gyt gyy (z := vl 1) (by omega) (by omega)
        refine lv_aload_n hx hb dX10_takeSize_67 rfl (lv_at hl 0 rfl) ?_
        refine q_getU E hC32 g0 fa_RX10_21 ur dX10_takeSize_68 ?_
        refine q_word E hS32 (i := 1) (by decide) w_638 dX10_takeSize_71 (fun g34 => ?_)
        refine q_goI (q_runV (As := [va_rf (some (wad X 1))]) (rest := []) E hC32 hS32 (m_X4_take l X Γ H32 hC32 ra gra (some (wad X 1)) (fun _ h => by cases h; exact g34)) cw_X4_take cl_RX10_75 gra ⟨rfl, rfl⟩ rfl hl.1 rfl (Nat.zero_le _) (by decide) dX10_takeSize_74) hS32 (fun v35 H35 locs35 hr35 hC35 hS35 => ?_)
        obtain ⟨hp35, hr35⟩ := hr35
        have hKp35 := hKp32.tr (hp35.mono rfl)
        have ys := ys.kp hp35 gyt gyy rfl
        rcases hr35.2 kd vl N (2) cu 1 (by decide) rfl with ⟨rfl, w3, cu⟩ | ⟨rfl, w3⟩
        · refine q_if_eq hx hb (a := 1) (by decide) (tgt := 93) dX10_takeSize_77 rfl (fun c36 => absurd c36 (by omega)) (fun c36 => ?_)
          refine lv_aload_n hx hb dX10_takeSize_80 rfl (lv_at hl 0 rfl) ?_
          refine q_getU E hC35 g0 fa_RX10_21 ur dX10_takeSize_81 ?_
          refine lv_iconst (v := 1) hx hb dX10_takeSize_84 rfl ?_
          refine lv_bipush (v := 6) hx hb dX10_takeSize_85 rfl ?_
          refine q_goI (q_runV (As := [.int 1, .int 6]) (rest := []) E hC35 hS35 (m_X4_takeNumber l X Γ H35 hC35 ra gra 1 (a1 := 1) (by decide) 6 (a2 := 6) (by decide)) cw_X4_takeNumber cl_RX10_79 gra ⟨rfl, rfl⟩ rfl hl.1 rfl (Nat.zero_le _) (by decide) dX10_takeSize_87) hS35 (fun v37 H37 locs37 hr37 hC37 hS37 => ?_)
          obtain ⟨hp37, hr37⟩ := hr37
          have hKp37 := hKp35.tr (hp37.mono rfl)
          have ys := ys.kp hp37 gyt gyy rfl
          rcases hr37.2 kd vl N (3) cu with ⟨rfl, ⟨p1, p2, p3⟩, n2, cu⟩ | ⟨rfl, w4⟩
          · refine q_if_ne hx hb (a := 1) (by decide) (tgt := 95) dX10_takeSize_90 rfl (fun c38 => ?_) (fun c38 => absurd c38 (by omega))
            refine lv_aload_n hx hb dX10_takeSize_95 rfl (lv_at hl 1 rfl) ?_
            refine lv_aload_n hx hb dX10_takeSize_96 rfl (lv_at hl 0 rfl) ?_
            refine q_getU E hC37 g0 fa_RX10_21 ur dX10_takeSize_97 ?_
            have e40 := (up_nI U32 (ne_k gra g1 (by decide))).trans ev26
            have e41 := (kp_I hp35 gra (k := 13) rfl (by decide) rfl).trans e40
            refine q_getI E hC37 gra fa_RX10_83 dX10_takeSize_100 (fun v39 ev39 _ _ => ?_)
            have m42 : (sI H37 ra (X.1.2 4 13)).toInt = v39.toInt := congrArg Int32.toInt ev39
            refine q_put E hC37 hS37 g1 fp_RX10_98 tv_F rfl rfl dX10_takeSize_103 (fun H43 locs43 hC43 hS43 U43 => ?_)
            have hKp43 := Kp.upO E g1 fp_RX10_98 rfl U43 hKp37
            have e44 := up_I U43
            have cu := cu.ne U43 g1 (by decide)
            have ys := ys.high E U43 gyt gyy (z := vl 3) (by omega) (by omega)
            refine lv_aload_n hx hb dX10_takeSize_106 rfl (lv_at hl 0 rfl) ?_
            refine q_getU E hC43 g0 fa_RX10_21 ur dX10_takeSize_107 ?_
            refine lv_bipush (v := 59) hx hb dX10_takeSize_110 rfl ?_
            refine q_goI (q_runV (As := [.int 59]) (rest := []) E hC43 hS43 (m_X4_takeSign l X Γ H43 hC43 ra gra 59 (a1 := 59) (by decide)) cw_X4_takeSign cl_RX10_53 gra ⟨rfl, rfl⟩ rfl hl.1 rfl (Nat.zero_le _) (by decide) dX10_takeSize_112) hS43 (fun v45 H45 locs45 hr45 hC45 hS45 => ?_)
            obtain ⟨hp45, hr45⟩ := hr45
            have hKp45 := hKp43.tr (hp45.mono rfl)
            have ys := ys.kp hp45 gyt gyy rfl
            rcases hr45.2 kd vl N (4) cu (by decide) with ⟨rfl, w5, cu⟩ | ⟨rfl, w5⟩
            · have hyes : ∃ S1 : YSt, gHead kd vl S1.1 S1.2.1 ∧ S1.2.2 = S.2.2 ∧ CU X Γ H45 ra kd vl N 5 ∧ YSC X Γ H45 h0 h1 vl S1 := ⟨(vl 1, vl 3, S.2.2), ⟨w1, ⟨o1, o2, o3⟩, by omega, w3, ⟨p1, p2, p3⟩, w5, rfl, rfl⟩, rfl, cu, ys⟩
              exact ret 1 H45 locs45 _ _ dX10_takeSize_115 (Or.inr rfl) ⟨hKp45, Or.inl ⟨rfl, hyes⟩⟩ hC45 hS45
            · have hno : ∀ w h, ¬ gHead kd vl w h := fun w h q => w5 q.2.2.2.2.2.1
              exact ret 0 H45 locs45 _ _ dX10_takeSize_115 (Or.inl rfl) ⟨hKp45, Or.inr ⟨rfl, hno⟩⟩ hC45 hS45
          · have hno : ∀ w h, ¬ gHead kd vl w h := fun w h q => w4 q.2.2.2.2.1
            refine q_if_ne hx hb (a := 0) (by decide) (tgt := 95) dX10_takeSize_90 rfl (fun c46 => absurd c46 (by omega)) (fun c46 => ?_)
            refine lv_iconst (v := 0) hx hb dX10_takeSize_93 rfl ?_
            exact ret 0 H37 locs37 _ _ dX10_takeSize_94 (Or.inl rfl) ⟨hKp37, Or.inr ⟨rfl, hno⟩⟩ hC37 hS37
        · have hno : ∀ w h, ¬ gHead kd vl w h := fun w h q => w3 q.2.2.2.1
          refine q_if_eq hx hb (a := 0) (by decide) (tgt := 93) dX10_takeSize_77 rfl (fun c47 => ?_) (fun c47 => absurd c47 (by omega))
          refine lv_iconst (v := 0) hx hb dX10_takeSize_93 rfl ?_
          exact ret 0 H35 locs35 _ _ dX10_takeSize_94 (Or.inl rfl) ⟨hKp35, Or.inr ⟨rfl, hno⟩⟩ hC35 hS35
      · have hno : ∀ w h, ¬ gHead kd vl w h := fun w h q => by have q1 := q.2.2.1; omega
        refine lv_aload_n hx hb dX10_takeSize_40 rfl (lv_at hl 0 rfl) ?_
        refine q_getU E hC24 g0 fa_RX10_21 ur dX10_takeSize_41 ?_
        refine lv_iconst (v := 4) hx hb dX10_takeSize_44 rfl ?_
        refine lv_aload_n hx hb dX10_takeSize_45 rfl (lv_at hl 0 rfl) ?_
        refine q_getU E hC24 g0 fa_RX10_21 ur dX10_takeSize_46 ?_
        refine q_getI E hC24 gra fa_RX10_86 dX10_takeSize_49 (fun v48 ev48 _ _ => ?_)
        have m49 : (sI H24 ra (X.1.2 4 14)).toInt = v48.toInt := congrArg Int32.toInt ev48
        refine q_goI (q_runV (As := [.int 4, .int v48]) (rest := []) E hC24 hS24 (m_X4_fail l X Γ H24 hC24 ra gra 4 (a1 := 4) (by decide) v48 (a2 := v48.toInt) rfl) cw_X4_fail cl_RX10_89 gra ⟨rfl, rfl⟩ rfl hl.1 rfl (Nat.zero_le _) (by decide) dX10_takeSize_52) hS24 (fun v50 H50 locs50 hr50 hC50 hS50 => ?_)
        obtain ⟨hp50, hr50⟩ := hr50
        have hKp50 := hKp24.tr (hp50.mono rfl)
        have cu := cu.kp hp50 rfl rfl
        have ys := ys.kp hp50 gyt gyy rfl
        rcases hr50 with ⟨rfl, f50a⟩ | ⟨rfl, -⟩
        · exact absurd f50a (by decide)
        · exact ret 0 H50 locs50 _ _ dX10_takeSize_55 (Or.inl rfl) ⟨hKp50, Or.inr ⟨rfl, hno⟩⟩ hC50 hS50
    · have hno : ∀ w h, ¬ gHead kd vl w h := fun w h q => w2 q.2.1
      refine q_if_ne hx hb (a := 0) (by decide) (tgt := 28) dX10_takeSize_23 rfl (fun c51 => absurd c51 (by omega)) (fun c51 => ?_)
      refine lv_iconst (v := 0) hx hb dX10_takeSize_26 rfl ?_
      exact ret 0 H24 locs24 _ _ dX10_takeSize_27 (Or.inl rfl) ⟨hKp24, Or.inr ⟨rfl, hno⟩⟩ hC24 hS24
  · have hno : ∀ w h, ¬ gHead kd vl w h := fun w h q => w1 q.1
    refine q_if_eq hx hb (a := 0) (by decide) (tgt := 26) dX10_takeSize_10 rfl (fun c52 => ?_) (fun c52 => absurd c52 (by omega))
    refine lv_iconst (v := 0) hx hb dX10_takeSize_26 rfl ?_
    exact ret 0 H22 locs22 _ _ dX10_takeSize_27 (Or.inl rfl) ⟨hKp22, Or.inr ⟨rfl, hno⟩⟩ hC22 hS22
set_option maxRecDepth 100000 in
set_option maxHeartbeats 4000000 in
theorem m_X4_isName (l : Launch) (X : xW) (Γ : Nat → Option Nat) (H0 : Heap) (hC0 : Conf X Γ H0) (h0 : Nat) (g0 : Γ h0 = some 2) : Ctr l X Γ yX4_isName cX4_isName 1 (some .boolean) 0 [.ref h0] H0 (QI X Γ (fun v H1 => H1 = H0 ∧ ((v = 0 ∨ v = 1) ∧ (∀ (kd vl : Nat → Int) (N i : Nat), CU X Γ H0 h0 kd vl N i → (v = 1 ∧ okM kd vl i) ∨ (v = 0 ∧ ¬ okM kd vl i))))) := by
  refine q_enterZ (own := "SnowForts$Reader") (by decide) rfl (Nat.le_of_ble_eq_true rfl) ?_
  intro p e s m args below meth c ls Qz E hl ret hS0
  have hx := E.1; have hb := E.2.1
  have hl : lv_has ls 1 [(0, .ref h0)] := hl
  refine lv_aload_n hx hb dX4_isName_0 rfl (lv_at hl 0 rfl) ?_
  refine q_getI E hC0 g0 fa_RX4_93 dX4_isName_1 (fun v21 ev21 _ _ => ?_)
  have m22 : (sI H0 h0 (X.1.2 4 9)).toInt = v21.toInt := (congrArg Int32.toInt ev21).trans rfl
  refine lv_iconst (v := 2) hx hb dX4_isName_4 rfl ?_
  refine q_icmp_ne hx hb (a := v21.toInt) (b := 2) rfl (by decide) (tgt := 28) dX4_isName_5 rfl (fun c23 => ?_) (fun c23 => ?_)
  · refine lv_iconst (v := 0) hx hb dX4_isName_28 rfl ?_
    exact ret 0 H0 [] _ _ dX4_isName_29 (Or.inl rfl) ⟨rfl, ⟨Or.inl rfl, fun kd vl N i cu => Or.inr ⟨rfl, fun q => by have h1 := cu.kk; have h2 := q.1; first | omega | exact cu.nnm hwq (by assumption) q | (have h3 := cu.vv (Or.inl h2); have h4 := q.2.1; omega)⟩⟩⟩ hC0 hS0
  · refine lv_aload_n hx hb dX4_isName_8 rfl (lv_at hl 0 rfl) ?_
    refine q_getQ E hC0 g0 fa_RX4_103 dX4_isName_9 (fun q24 eq24 gq24 => ?_)
    have hwq := eq24
    refine q_ifnonnull (o := q24) hx hb (tgt := 28) dX4_isName_12 rfl (fun c25 => ?_) (fun c25 => ?_)
    · refine lv_iconst (v := 0) hx hb dX4_isName_28 rfl ?_
      exact ret 0 H0 [] _ _ dX4_isName_29 (Or.inl rfl) ⟨rfl, ⟨Or.inl rfl, fun kd vl N i cu => Or.inr ⟨rfl, fun q => by have h1 := cu.kk; have h2 := q.1; first | omega | exact cu.nnm hwq (by assumption) q | (have h3 := cu.vv (Or.inl h2); have h4 := q.2.1; omega)⟩⟩⟩ hC0 hS0
    · refine lv_aload_n hx hb dX4_isName_15 rfl (lv_at hl 0 rfl) ?_
      refine q_getJ E hC0 g0 fa_RX4_99 dX4_isName_16 (fun v26 ev26 => ?_)
      have hvq : (sJ H0 h0 (X.1.2 4 11)).toInt = v26.toInt := by rw [← ev26]
      refine lv_lconst (v := 0) hx hb dX4_isName_19 rfl ?_
      refine q_lcmp_eq hx hb (a := v26.toInt) (b := 0) rfl (show (0 : Int64).toInt = 0 from by decide) (tgt := 28) dX4_isName_20 dX4_isName_21 rfl (fun c27 => ?_) (fun c27 => ?_)
      · refine lv_iconst (v := 0) hx hb dX4_isName_28 rfl ?_
        exact ret 0 H0 [] _ _ dX4_isName_29 (Or.inl rfl) ⟨rfl, ⟨Or.inl rfl, fun kd vl N i cu => Or.inr ⟨rfl, fun q => by have h1 := cu.kk; have h2 := q.1; first | omega | exact cu.nnm hwq (by assumption) q | (have h3 := cu.vv (Or.inl h2); have h4 := q.2.1; omega)⟩⟩⟩ hC0 hS0
      · refine lv_iconst (v := 1) hx hb dX4_isName_24 rfl ?_
        refine lv_goto (tgt := 29) hx hb dX4_isName_25 rfl ?_
        exact ret 1 H0 [] _ _ dX4_isName_29 (Or.inr rfl) ⟨rfl, ⟨Or.inr rfl, fun kd vl N i cu => Or.inl ⟨rfl, by have := cu.kk; omega, by have h1 := cu.kk; have h2 := cu.vv (Or.inl (by omega)); omega, fun j hj => cu.nam (hwq.trans (by assumption)) j hj (by have := cu.kk; omega)⟩⟩⟩ hC0 hS0
set_option maxRecDepth 100000 in
set_option maxHeartbeats 4000000 in
theorem m_X10_takeSchool (l : Launch) (X : xW) (Γ : Nat → Option Nat) (H0 : Heap) (hC0 : Conf X Γ H0) (h0 : Nat) (g0 : Γ h0 = some 3) (h1 : Nat) (g1 : Γ h1 = some 5) (ra : Nat) (gra : Γ ra = some 2) (ur : ∀ a, Γ a = some 2 → a = ra) (kd vl : Nat → Int) (N i : Nat) (S : YSt) (cu : CU X Γ H0 ra kd vl N i) (ys : YSC X Γ H0 h0 h1 vl S) (r0 : okW kd vl 2 i) : Ctr l X Γ yX10_takeSchool cX10_takeSchool 3 (some .boolean) 3 [.ref h0, .ref h1] H0 (QI X Γ (fun v H1 => Kp X Γ [0, 2, 3, 4, 5, 18, 21, 23, 25, 27, 29, 31, 37, 39, 40, 41] H0 H1 ∧ ((v = 1 ∧ (∃ (S1 : YSt) (i1 : Nat), gSchool kd vl S i S1 i1 ∧ CU X Γ H1 ra kd vl N i1 ∧ YSC X Γ H1 h0 h1 vl S1)) ∨ (v = 0 ∧ (∀ (S1 : YSt) (i1 : Nat), ¬ gSchool kd vl S i S1 i1))))) := by
  refine q_enterZ (own := "SnowForts$YardText") (by decide) rfl (Nat.le_of_ble_eq_true rfl) ?_
  intro p e s m args below meth c ls Qz E hl ret hS0
  have hx := E.1; have hb := E.2.1
  have hKp0 : Kp X Γ [0, 2, 3, 4, 5, 18, 21, 23, 25, 27, 29, 31, 37, 39, 40, 41] H0 H0 := Kp.rf
  have hl : lv_has ls 3 [(0, .ref h0), (1, .ref h1)] := hl
  have yw := ys.1; have yh := ys.2.1; have yn := ys.2.2.1; have yb := ys.2.2.2.1
  have gry := cu.g; have gyt := g0; have gyy := g1
  refine lv_aload_n hx hb dX10_takeSchool_0 rfl (lv_at hl 1 rfl) ?_
  refine q_getI E hC0 g1 fa_RX10_144 dX10_takeSchool_1 (fun v21 ev21 _ _ => ?_)
  have m22 : (sI H0 h1 (X.1.2 8 2)).toInt = v21.toInt := congrArg Int32.toInt ev21
  refine lv_istore_n hx hb dX10_takeSchool_4 rfl hl (by decide) rfl (fun ls hl => ?_)
  have hl : lv_has ls 3 [(2, .int v21), (0, .ref h0), (1, .ref h1)] := hl
  refine lv_iload_n hx hb dX10_takeSchool_5 rfl (lv_at hl 0 rfl) ?_
  refine lv_i2l (v := v21.toInt64) hx hb dX10_takeSchool_6 rfl (lv_topl (fun v23 ev23 => ?_))
  have ev23i : v23.toInt = v21.toInt := l_ofi ev23.symm rfl
  refine lv_iconst (v := 0) hx hb dX10_takeSchool_7 rfl ?_
  refine lv_iconst (v := 1) hx hb dX10_takeSchool_8 rfl ?_
  refine q_goIp (q_runSN (As := [.long v23, .int 0, .int 1]) (rest := []) E hS0 (m_X11_isWithin l X Γ H0 hC0 v23 (a0 := v21.toInt) ev23i 0 (a1 := 0) (by decide) 1 (a2 := 1) (by decide)) cw_X11_isWithin cl_RX10_147 rfl hl.1 rfl (Nat.zero_le _) (by decide) dX10_takeSchool_9) hS0 (fun v24 locs24 hr24 hS24 => ?_)
  rcases hr24 with ⟨rfl, f24a0, f24a1⟩ | ⟨rfl, f24b⟩
  · refine q_if_ne hx hb (a := 1) (by decide) (tgt := 32) dX10_takeSchool_12 rfl (fun c25 => ?_) (fun c25 => absurd c25 (by omega))
    refine lv_aload_n hx hb dX10_takeSchool_32 rfl (lv_at hl 1 rfl) ?_
    refine q_getU E hC0 g0 fa_RX10_21 ur dX10_takeSchool_33 ?_
    refine q_goV (q_runV (As := []) (rest := []) E hC0 hS24 (m_X4_advance l X Γ H0 hC0 ra gra) cw_X4_advance cl_RX10_154 gra ⟨rfl, rfl⟩ rfl hl.1 rfl (Nat.zero_le _) (by decide) dX10_takeSchool_36) hS24 (fun H26 locs26 hr26 hC26 hS26 => ?_)
    obtain ⟨hp26, hr26⟩ := hr26
    have hKp26 := hKp0.tr (hp26.mono rfl)
    have ys := ys.kp hp26 gyt gyy rfl
    have f26_0 := hr26
    have cu := cu.next (by have := r0.1; omega) hp26 rfl f26_0
    refine lv_aload_n hx hb dX10_takeSchool_39 rfl (lv_at hl 1 rfl) ?_
    refine q_getU E hC26 g0 fa_RX10_21 ur dX10_takeSchool_40 ?_
    refine q_goIp (q_runV (As := []) (rest := []) E hC26 hS26 (m_X4_isName l X Γ H26 hC26 ra gra) cw_X4_isName cl_RX10_157 gra ⟨rfl, rfl⟩ rfl hl.1 rfl (Nat.zero_le _) (by decide) dX10_takeSchool_43) hS26 (fun v27 locs27 hr27 hS27 => ?_)
    rcases hr27.2 kd vl N (i + 1) cu with ⟨rfl, hm⟩ | ⟨rfl, hm⟩
    · refine q_if_ne hx hb (a := 1) (by decide) (tgt := 57) dX10_takeSchool_46 rfl (fun c28 => ?_) (fun c28 => absurd c28 (by omega))
      refine lv_iload_n hx hb dX10_takeSchool_57 rfl (lv_at hl 0 rfl) ?_
      refine q_if_ne hx hb (a := v21.toInt) rfl (tgt := 75) dX10_takeSchool_58 rfl (fun c29 => ?_) (fun c29 => ?_)
      · refine lv_aload_n hx hb dX10_takeSchool_75 rfl (lv_at hl 1 rfl) ?_
        refine q_getJ E hC26 g0 fa_RX10_168 dX10_takeSchool_76 (fun v30 ev30 => ?_)
        have hv3 : (sJ H26 h0 (X.1.2 9 4)).toInt = v30.toInt := by rw [← ev30]
        have hv4 := ys.2.2.2.2.1 (by omega)
        refine lv_aload_n hx hb dX10_takeSchool_79 rfl (lv_at hl 1 rfl) ?_
        refine q_getU E hC26 g0 fa_RX10_21 ur dX10_takeSchool_80 ?_
        refine q_getJ E hC26 gra fa_RX10_164 dX10_takeSchool_83 (fun v31 ev31 => ?_)
        have hv1 : (sJ H26 ra (X.1.2 4 11)).toInt = v31.toInt := by rw [← ev31]
        have hv2 := cu.vv (Or.inl hm.1)
        refine q_lcmp_ne hx hb (a := v30.toInt) (b := v31.toInt) rfl rfl (tgt := 106) dX10_takeSchool_86 dX10_takeSchool_87 rfl (fun c32 => ?_) (fun c32 => ?_)
        · refine lv_aload_n hx hb dX10_takeSchool_106 rfl (lv_at hl 1 rfl) ?_
          refine q_getU E hC26 g0 fa_RX10_21 ur dX10_takeSchool_107 ?_
          refine q_goV (q_runV (As := []) (rest := []) E hC26 hS27 (m_X4_advance l X Γ H26 hC26 ra gra) cw_X4_advance cl_RX10_154 gra ⟨rfl, rfl⟩ rfl hl.1 rfl (Nat.zero_le _) (by decide) dX10_takeSchool_110) hS27 (fun H33 locs33 hr33 hC33 hS33 => ?_)
          obtain ⟨hp33, hr33⟩ := hr33
          have hKp33 := hKp26.tr (hp33.mono rfl)
          have ys := ys.kp hp33 gyt gyy rfl
          have f33_0 := hr33
          have cu := cu.next (by have := hm.1; omega) hp33 rfl f33_0
          refine lv_aload_n hx hb dX10_takeSchool_113 rfl (lv_at hl 1 rfl) ?_
          refine q_getU E hC33 g0 fa_RX10_21 ur dX10_takeSchool_114 ?_
          refine q_word E hS33 (i := 3) (by decide) w_661 dX10_takeSchool_117 (fun g34 => ?_)
          refine q_goI (q_runV (As := [va_rf (some (wad X 3))]) (rest := []) E hC33 hS33 (m_X4_take l X Γ H33 hC33 ra gra (some (wad X 3)) (fun _ h => by cases h; exact g34)) cw_X4_take cl_RX10_75 gra ⟨rfl, rfl⟩ rfl hl.1 rfl (Nat.zero_le _) (by decide) dX10_takeSchool_120) hS33 (fun v35 H35 locs35 hr35 hC35 hS35 => ?_)
          obtain ⟨hp35, hr35⟩ := hr35
          have hKp35 := hKp33.tr (hp35.mono rfl)
          have ys := ys.kp hp35 gyt gyy rfl
          rcases hr35.2 kd vl N (i + 2) cu 3 (by decide) rfl with ⟨rfl, wh, cu⟩ | ⟨rfl, wh⟩
          · refine q_if_eq hx hb (a := 1) (by decide) (tgt := 139) dX10_takeSchool_123 rfl (fun c36 => absurd c36 (by omega)) (fun c36 => ?_)
            refine lv_aload_n hx hb dX10_takeSchool_126 rfl (lv_at hl 1 rfl) ?_
            refine q_getU E hC35 g0 fa_RX10_21 ur dX10_takeSchool_127 ?_
            refine lv_iconst (v := 0) hx hb dX10_takeSchool_130 rfl ?_
            refine lv_bipush (v := 40) hx hb dX10_takeSchool_131 rfl ?_
            refine q_goI (q_runV (As := [.int 0, .int 40]) (rest := []) E hC35 hS35 (m_X4_takeNumber l X Γ H35 hC35 ra gra 0 (a1 := 0) (by decide) 40 (a2 := 40) (by decide)) cw_X4_takeNumber cl_RX10_79 gra ⟨rfl, rfl⟩ rfl hl.1 rfl (Nat.zero_le _) (by decide) dX10_takeSchool_133) hS35 (fun v37 H37 locs37 hr37 hC37 hS37 => ?_)
            obtain ⟨hp37, hr37⟩ := hr37
            have hKp37 := hKp35.tr (hp37.mono rfl)
            have ys := ys.kp hp37 gyt gyy rfl
            rcases hr37.2 kd vl N (i + 3) cu with ⟨rfl, wn, nn, cu⟩ | ⟨rfl, wn⟩
            · refine q_if_ne hx hb (a := 1) (by decide) (tgt := 141) dX10_takeSchool_136 rfl (fun c38 => ?_) (fun c38 => absurd c38 (by omega))
              refine lv_aload_n hx hb dX10_takeSchool_141 rfl (lv_at hl 2 rfl) ?_
              refine q_getR E hC37 g1 fa_RX10_174 dX10_takeSchool_142 (fun q39 eq39 gq39 => ?_)
              refine lv_iload_n hx hb dX10_takeSchool_145 rfl (lv_at hl 0 rfl) ?_
              refine lv_aload_n hx hb dX10_takeSchool_146 rfl (lv_at hl 1 rfl) ?_
              refine q_getU E hC37 g0 fa_RX10_21 ur dX10_takeSchool_147 ?_
              refine q_getI E hC37 gra fa_RX10_83 dX10_takeSchool_150 (fun v40 ev40 _ _ => ?_)
              have m41 : (sI H37 ra (X.1.2 4 13)).toInt = v40.toInt := congrArg Int32.toInt ev40
              refine q_iast E hC37 hS37 gq39 (by decide) rfl rfl (i_in (a := v21.toInt) rfl (by omega) (by omega)) tv_F dX10_takeSchool_153 (fun H42 locs42 hC42 hS42 U42 => ?_)
              have hKp42 := Kp.upA gq39 rfl (by decide) rfl U42 hKp37
              have cu := cu.ne U42 gq39 (by decide)
              have ys := ys.ne U42 gyt gyy gq39 (by decide)
              refine lv_aload_n hx hb dX10_takeSchool_154 rfl (lv_at hl 2 rfl) ?_
              refine lv_dup hx hb dX10_takeSchool_155 rfl ?_
              have yn2 := ys.2.2.1
              have e44 := (kp_I hp26 g1 (k := 2) rfl (by decide) rfl).trans ev21
              have e45 := (kp_I hp33 g1 (k := 2) rfl (by decide) rfl).trans e44
              have e46 := (kp_I hp35 g1 (k := 2) rfl (by decide) rfl).trans e45
              have e47 := (kp_I hp37 g1 (k := 2) rfl (by decide) rfl).trans e46
              have e48 := (up_nI U42 (ne_k g1 gq39 (by decide))).trans e47
              refine q_getI E hC42 g1 fa_RX10_144 dX10_takeSchool_156 (fun v43 ev43 _ _ => ?_)
              have qv43 := e48.symm.trans ev43; subst qv43
              have m49 : (sI H42 h1 (X.1.2 8 2)).toInt = v21.toInt := (congrArg Int32.toInt ev43).trans rfl
              refine lv_iconst (v := 1) hx hb dX10_takeSchool_159 rfl ?_
              refine lv_iadd hx hb dX10_takeSchool_160 (lv_topi (fun v50 ev50 => ?_))
              have ev50i : v50.toInt = (v21.toInt + 1) := i_add ev50 rfl (by decide) (by omega) (by omega)
              refine q_put E hC42 hS42 g1 fp_RX10_144 tv_F rfl rfl dX10_takeSchool_161 (fun H51 locs51 hC51 hS51 U51 => ?_)
              have hKp51 := Kp.upO E g1 fp_RX10_144 rfl U51 hKp42
              have e52 := up_I U51
              have cu := cu.ne U51 g1 (by decide)
              have ys := ys.school E U51 gyt gyy (nm := if S.2.2.1 = 0 then i + 1 else S.2.2.2.1) (by omega) (by first | (rw [if_pos (by omega)]; exact fn) | (rw [if_neg (by omega)]; exact ys.2.2.2.2.1 (by omega)))
              refine lv_iconst (v := 1) hx hb dX10_takeSchool_164 rfl ?_
              have hyes := (⟨_, _, ⟨by omega, hm, fun q => by first | (exfalso; omega) | omega, wh, wn, rfl, rfl⟩, cu, ys⟩ : ∃ (S1 : YSt) (i1 : Nat), gSchool kd vl S i S1 i1 ∧ CU X Γ H51 ra kd vl N i1 ∧ YSC X Γ H51 h0 h1 vl S1)
              exact ret 1 H51 locs51 _ _ dX10_takeSchool_165 (Or.inr rfl) ⟨hKp51, Or.inl ⟨rfl, hyes⟩⟩ hC51 hS51
            · refine q_if_ne hx hb (a := 0) (by decide) (tgt := 141) dX10_takeSchool_136 rfl (fun c53 => absurd c53 (by omega)) (fun c53 => ?_)
              refine lv_iconst (v := 0) hx hb dX10_takeSchool_139 rfl ?_
              have hno : ∀ (S1 : YSt) (i1 : Nat), ¬ gSchool kd vl S i S1 i1 := fun S1 i1 q => by obtain ⟨q1, q2, q3, q4, q5, -, -⟩ := q; first | omega | exact absurd q2 hm | exact absurd q4 wh | exact absurd q5 wn | exact q3 (by omega) (by omega)
              exact ret 0 H37 locs37 _ _ dX10_takeSchool_140 (Or.inl rfl) ⟨hKp37, Or.inr ⟨rfl, hno⟩⟩ hC37 hS37
          · refine q_if_eq hx hb (a := 0) (by decide) (tgt := 139) dX10_takeSchool_123 rfl (fun c54 => ?_) (fun c54 => absurd c54 (by omega))
            refine lv_iconst (v := 0) hx hb dX10_takeSchool_139 rfl ?_
            have hno : ∀ (S1 : YSt) (i1 : Nat), ¬ gSchool kd vl S i S1 i1 := fun S1 i1 q => by obtain ⟨q1, q2, q3, q4, q5, -, -⟩ := q; first | omega | exact absurd q2 hm | exact absurd q4 wh | exact absurd q5 wn | exact q3 (by omega) (by omega)
            exact ret 0 H35 locs35 _ _ dX10_takeSchool_140 (Or.inl rfl) ⟨hKp35, Or.inr ⟨rfl, hno⟩⟩ hC35 hS35
        · refine lv_aload_n hx hb dX10_takeSchool_90 rfl (lv_at hl 1 rfl) ?_
          refine q_getU E hC26 g0 fa_RX10_21 ur dX10_takeSchool_91 ?_
          refine lv_iconst (v := 3) hx hb dX10_takeSchool_94 rfl ?_
          refine lv_aload_n hx hb dX10_takeSchool_95 rfl (lv_at hl 1 rfl) ?_
          refine q_getU E hC26 g0 fa_RX10_21 ur dX10_takeSchool_96 ?_
          refine q_getI E hC26 gra fa_RX10_151 dX10_takeSchool_99 (fun v55 ev55 _ _ => ?_)
          have m56 : (sI H26 ra (X.1.2 4 10)).toInt = v55.toInt := congrArg Int32.toInt ev55
          refine q_goI (q_runV (As := [.int 3, .int v55]) (rest := []) E hC26 hS27 (m_X4_fail l X Γ H26 hC26 ra gra 3 (a1 := 3) (by decide) v55 (a2 := v55.toInt) rfl) cw_X4_fail cl_RX10_89 gra ⟨rfl, rfl⟩ rfl hl.1 rfl (Nat.zero_le _) (by decide) dX10_takeSchool_102) hS27 (fun v57 H57 locs57 hr57 hC57 hS57 => ?_)
          obtain ⟨hp57, hr57⟩ := hr57
          have hKp57 := hKp26.tr (hp57.mono rfl)
          have cu := cu.kp hp57 rfl rfl
          have ys := ys.kp hp57 gyt gyy rfl
          rcases hr57 with ⟨rfl, f57a⟩ | ⟨rfl, -⟩
          · exact absurd f57a (by decide)
          · have hno : ∀ (S1 : YSt) (i1 : Nat), ¬ gSchool kd vl S i S1 i1 := fun S1 i1 q => by obtain ⟨q1, q2, q3, q4, q5, -, -⟩ := q; first | omega | exact absurd q2 hm | exact absurd q4 wh | exact absurd q5 wn | exact q3 (by omega) (by omega)
            exact ret 0 H57 locs57 _ _ dX10_takeSchool_105 (Or.inl rfl) ⟨hKp57, Or.inr ⟨rfl, hno⟩⟩ hC57 hS57
      · refine lv_aload_n hx hb dX10_takeSchool_61 rfl (lv_at hl 1 rfl) ?_
        refine lv_aload_n hx hb dX10_takeSchool_62 rfl (lv_at hl 1 rfl) ?_
        refine q_getU E hC26 g0 fa_RX10_21 ur dX10_takeSchool_63 ?_
        refine q_getJ E hC26 gra fa_RX10_164 dX10_takeSchool_66 (fun v58 ev58 => ?_)
        have hv1 : (sJ H26 ra (X.1.2 4 11)).toInt = v58.toInt := by rw [← ev58]
        have hv2 := cu.vv (Or.inl hm.1)
        refine q_put E hC26 hS27 g0 fp_RX10_168 tv_J rfl rfl dX10_takeSchool_69 (fun H59 locs59 hC59 hS59 U59 => ?_)
        have hKp59 := Kp.upO E g0 fp_RX10_168 rfl U59 hKp26
        have cu := cu.ne U59 g0 (by decide)
        have ys := ys.name E U59 gyt gyy (by omega)
        have fn : (sJ H59 h0 (X.1.2 9 4)).toInt = vl (i + 1) := by rw [up_J U59]; omega
        refine lv_goto (tgt := 106) hx hb dX10_takeSchool_72 rfl ?_
        refine lv_aload_n hx hb dX10_takeSchool_106 rfl (lv_at hl 1 rfl) ?_
        refine q_getU E hC59 g0 fa_RX10_21 ur dX10_takeSchool_107 ?_
        refine q_goV (q_runV (As := []) (rest := []) E hC59 hS59 (m_X4_advance l X Γ H59 hC59 ra gra) cw_X4_advance cl_RX10_154 gra ⟨rfl, rfl⟩ rfl hl.1 rfl (Nat.zero_le _) (by decide) dX10_takeSchool_110) hS59 (fun H60 locs60 hr60 hC60 hS60 => ?_)
        obtain ⟨hp60, hr60⟩ := hr60
        have hKp60 := hKp59.tr (hp60.mono rfl)
        have ys := ys.kp hp60 gyt gyy rfl
        have fn : (sJ H60 h0 (X.1.2 9 4)).toInt = vl (i + 1) := (congrArg Int64.toInt (kp_J hp60 g0 (ci := 9) (k := 4) rfl (by decide) rfl)).trans fn
        have f60_0 := hr60
        have cu := cu.next (by have := hm.1; omega) hp60 rfl f60_0
        refine lv_aload_n hx hb dX10_takeSchool_113 rfl (lv_at hl 1 rfl) ?_
        refine q_getU E hC60 g0 fa_RX10_21 ur dX10_takeSchool_114 ?_
        refine q_word E hS60 (i := 3) (by decide) w_661 dX10_takeSchool_117 (fun g61 => ?_)
        refine q_goI (q_runV (As := [va_rf (some (wad X 3))]) (rest := []) E hC60 hS60 (m_X4_take l X Γ H60 hC60 ra gra (some (wad X 3)) (fun _ h => by cases h; exact g61)) cw_X4_take cl_RX10_75 gra ⟨rfl, rfl⟩ rfl hl.1 rfl (Nat.zero_le _) (by decide) dX10_takeSchool_120) hS60 (fun v62 H62 locs62 hr62 hC62 hS62 => ?_)
        obtain ⟨hp62, hr62⟩ := hr62
        have hKp62 := hKp60.tr (hp62.mono rfl)
        have ys := ys.kp hp62 gyt gyy rfl
        have fn : (sJ H62 h0 (X.1.2 9 4)).toInt = vl (i + 1) := (congrArg Int64.toInt (kp_J hp62 g0 (ci := 9) (k := 4) rfl (by decide) rfl)).trans fn
        rcases hr62.2 kd vl N (i + 2) cu 3 (by decide) rfl with ⟨rfl, wh, cu⟩ | ⟨rfl, wh⟩
        · refine q_if_eq hx hb (a := 1) (by decide) (tgt := 139) dX10_takeSchool_123 rfl (fun c63 => absurd c63 (by omega)) (fun c63 => ?_)
          refine lv_aload_n hx hb dX10_takeSchool_126 rfl (lv_at hl 1 rfl) ?_
          refine q_getU E hC62 g0 fa_RX10_21 ur dX10_takeSchool_127 ?_
          refine lv_iconst (v := 0) hx hb dX10_takeSchool_130 rfl ?_
          refine lv_bipush (v := 40) hx hb dX10_takeSchool_131 rfl ?_
          refine q_goI (q_runV (As := [.int 0, .int 40]) (rest := []) E hC62 hS62 (m_X4_takeNumber l X Γ H62 hC62 ra gra 0 (a1 := 0) (by decide) 40 (a2 := 40) (by decide)) cw_X4_takeNumber cl_RX10_79 gra ⟨rfl, rfl⟩ rfl hl.1 rfl (Nat.zero_le _) (by decide) dX10_takeSchool_133) hS62 (fun v64 H64 locs64 hr64 hC64 hS64 => ?_)
          obtain ⟨hp64, hr64⟩ := hr64
          have hKp64 := hKp62.tr (hp64.mono rfl)
          have ys := ys.kp hp64 gyt gyy rfl
          have fn : (sJ H64 h0 (X.1.2 9 4)).toInt = vl (i + 1) := (congrArg Int64.toInt (kp_J hp64 g0 (ci := 9) (k := 4) rfl (by decide) rfl)).trans fn
          rcases hr64.2 kd vl N (i + 3) cu with ⟨rfl, wn, nn, cu⟩ | ⟨rfl, wn⟩
          · refine q_if_ne hx hb (a := 1) (by decide) (tgt := 141) dX10_takeSchool_136 rfl (fun c65 => ?_) (fun c65 => absurd c65 (by omega))
            refine lv_aload_n hx hb dX10_takeSchool_141 rfl (lv_at hl 2 rfl) ?_
            refine q_getR E hC64 g1 fa_RX10_174 dX10_takeSchool_142 (fun q66 eq66 gq66 => ?_)
            refine lv_iload_n hx hb dX10_takeSchool_145 rfl (lv_at hl 0 rfl) ?_
            refine lv_aload_n hx hb dX10_takeSchool_146 rfl (lv_at hl 1 rfl) ?_
            refine q_getU E hC64 g0 fa_RX10_21 ur dX10_takeSchool_147 ?_
            refine q_getI E hC64 gra fa_RX10_83 dX10_takeSchool_150 (fun v67 ev67 _ _ => ?_)
            have m68 : (sI H64 ra (X.1.2 4 13)).toInt = v67.toInt := congrArg Int32.toInt ev67
            refine q_iast E hC64 hS64 gq66 (by decide) rfl rfl (i_in (a := v21.toInt) rfl (by omega) (by omega)) tv_F dX10_takeSchool_153 (fun H69 locs69 hC69 hS69 U69 => ?_)
            have hKp69 := Kp.upA gq66 rfl (by decide) rfl U69 hKp64
            have cu := cu.ne U69 gq66 (by decide)
            have ys := ys.ne U69 gyt gyy gq66 (by decide)
            have fn : (sJ H69 h0 (X.1.2 9 4)).toInt = vl (i + 1) := (congrArg Int64.toInt (up_nJ U69 (ne_k g0 gq66 (by decide)))).trans fn
            refine lv_aload_n hx hb dX10_takeSchool_154 rfl (lv_at hl 2 rfl) ?_
            refine lv_dup hx hb dX10_takeSchool_155 rfl ?_
            have yn2 := ys.2.2.1
            have e71 := (kp_I hp26 g1 (k := 2) rfl (by decide) rfl).trans ev21
            have e72 := (up_nI U59 (ne_k g1 g0 (by decide))).trans e71
            have e73 := (kp_I hp60 g1 (k := 2) rfl (by decide) rfl).trans e72
            have e74 := (kp_I hp62 g1 (k := 2) rfl (by decide) rfl).trans e73
            have e75 := (kp_I hp64 g1 (k := 2) rfl (by decide) rfl).trans e74
            have e76 := (up_nI U69 (ne_k g1 gq66 (by decide))).trans e75
            refine q_getI E hC69 g1 fa_RX10_144 dX10_takeSchool_156 (fun v70 ev70 _ _ => ?_)
            have qv70 := e76.symm.trans ev70; subst qv70
            have m77 : (sI H69 h1 (X.1.2 8 2)).toInt = v21.toInt := (congrArg Int32.toInt ev70).trans rfl
            refine lv_iconst (v := 1) hx hb dX10_takeSchool_159 rfl ?_
            refine lv_iadd hx hb dX10_takeSchool_160 (lv_topi (fun v78 ev78 => ?_))
            have ev78i : v78.toInt = (v21.toInt + 1) := i_add ev78 rfl (by decide) (by omega) (by omega)
            refine q_put E hC69 hS69 g1 fp_RX10_144 tv_F rfl rfl dX10_takeSchool_161 (fun H79 locs79 hC79 hS79 U79 => ?_)
            have hKp79 := Kp.upO E g1 fp_RX10_144 rfl U79 hKp69
            have e80 := up_I U79
            have cu := cu.ne U79 g1 (by decide)
            have ys := ys.school E U79 gyt gyy (nm := if S.2.2.1 = 0 then i + 1 else S.2.2.2.1) (by omega) (by first | (rw [if_pos (by omega)]; exact fn) | (rw [if_neg (by omega)]; exact ys.2.2.2.2.1 (by omega)))
            refine lv_iconst (v := 1) hx hb dX10_takeSchool_164 rfl ?_
            have hyes := (⟨_, _, ⟨by omega, hm, fun q => by first | (exfalso; omega) | omega, wh, wn, rfl, rfl⟩, cu, ys⟩ : ∃ (S1 : YSt) (i1 : Nat), gSchool kd vl S i S1 i1 ∧ CU X Γ H79 ra kd vl N i1 ∧ YSC X Γ H79 h0 h1 vl S1)
            exact ret 1 H79 locs79 _ _ dX10_takeSchool_165 (Or.inr rfl) ⟨hKp79, Or.inl ⟨rfl, hyes⟩⟩ hC79 hS79
          · refine q_if_ne hx hb (a := 0) (by decide) (tgt := 141) dX10_takeSchool_136 rfl (fun c81 => absurd c81 (by omega)) (fun c81 => ?_)
            refine lv_iconst (v := 0) hx hb dX10_takeSchool_139 rfl ?_
            have hno : ∀ (S1 : YSt) (i1 : Nat), ¬ gSchool kd vl S i S1 i1 := fun S1 i1 q => by obtain ⟨q1, q2, q3, q4, q5, -, -⟩ := q; first | omega | exact absurd q2 hm | exact absurd q4 wh | exact absurd q5 wn | exact q3 (by omega) (by omega)
            exact ret 0 H64 locs64 _ _ dX10_takeSchool_140 (Or.inl rfl) ⟨hKp64, Or.inr ⟨rfl, hno⟩⟩ hC64 hS64
        · refine q_if_eq hx hb (a := 0) (by decide) (tgt := 139) dX10_takeSchool_123 rfl (fun c82 => ?_) (fun c82 => absurd c82 (by omega))
          refine lv_iconst (v := 0) hx hb dX10_takeSchool_139 rfl ?_
          have hno : ∀ (S1 : YSt) (i1 : Nat), ¬ gSchool kd vl S i S1 i1 := fun S1 i1 q => by obtain ⟨q1, q2, q3, q4, q5, -, -⟩ := q; first | omega | exact absurd q2 hm | exact absurd q4 wh | exact absurd q5 wn | exact q3 (by omega) (by omega)
          exact ret 0 H62 locs62 _ _ dX10_takeSchool_140 (Or.inl rfl) ⟨hKp62, Or.inr ⟨rfl, hno⟩⟩ hC62 hS62
    · refine q_if_ne hx hb (a := 0) (by decide) (tgt := 57) dX10_takeSchool_46 rfl (fun c83 => absurd c83 (by omega)) (fun c83 => ?_)
      refine lv_aload_n hx hb dX10_takeSchool_49 rfl (lv_at hl 1 rfl) ?_
      refine q_getU E hC26 g0 fa_RX10_21 ur dX10_takeSchool_50 ?_
      refine q_goI (q_runV (As := []) (rest := []) E hC26 hS27 (m_X4_misfit l X Γ H26 hC26 ra gra) cw_X4_misfit cl_RX10_161 gra ⟨rfl, rfl⟩ rfl hl.1 rfl (Nat.zero_le _) (by decide) dX10_takeSchool_53) hS27 (fun v84 H84 locs84 hr84 hC84 hS84 => ?_)
      obtain ⟨hp84, hr84⟩ := hr84
      have hKp84 := hKp26.tr (hp84.mono rfl)
      have cu := cu.kp hp84 rfl rfl
      have ys := ys.kp hp84 gyt gyy rfl
      rcases hr84 with ⟨rfl, f84a⟩ | ⟨rfl, -⟩
      · exact absurd f84a (by decide)
      · have hno : ∀ (S1 : YSt) (i1 : Nat), ¬ gSchool kd vl S i S1 i1 := fun S1 i1 q => by obtain ⟨q1, q2, q3, q4, q5, -, -⟩ := q; first | omega | exact absurd q2 hm | exact absurd q4 wh | exact absurd q5 wn | exact q3 (by omega) (by omega)
        exact ret 0 H84 locs84 _ _ dX10_takeSchool_56 (Or.inl rfl) ⟨hKp84, Or.inr ⟨rfl, hno⟩⟩ hC84 hS84
  · refine q_if_ne hx hb (a := 0) (by decide) (tgt := 32) dX10_takeSchool_12 rfl (fun c85 => absurd c85 (by omega)) (fun c85 => ?_)
    refine lv_aload_n hx hb dX10_takeSchool_15 rfl (lv_at hl 1 rfl) ?_
    refine q_getU E hC0 g0 fa_RX10_21 ur dX10_takeSchool_16 ?_
    refine lv_bipush (v := 6) hx hb dX10_takeSchool_19 rfl ?_
    refine lv_aload_n hx hb dX10_takeSchool_21 rfl (lv_at hl 1 rfl) ?_
    refine q_getU E hC0 g0 fa_RX10_21 ur dX10_takeSchool_22 ?_
    refine q_getI E hC0 gra fa_RX10_151 dX10_takeSchool_25 (fun v86 ev86 _ _ => ?_)
    have m87 : (sI H0 ra (X.1.2 4 10)).toInt = v86.toInt := congrArg Int32.toInt ev86
    refine q_goI (q_runV (As := [.int 6, .int v86]) (rest := []) E hC0 hS24 (m_X4_fail l X Γ H0 hC0 ra gra 6 (a1 := 6) (by decide) v86 (a2 := v86.toInt) rfl) cw_X4_fail cl_RX10_89 gra ⟨rfl, rfl⟩ rfl hl.1 rfl (Nat.zero_le _) (by decide) dX10_takeSchool_28) hS24 (fun v88 H88 locs88 hr88 hC88 hS88 => ?_)
    obtain ⟨hp88, hr88⟩ := hr88
    have hKp88 := hKp0.tr (hp88.mono rfl)
    have cu := cu.kp hp88 rfl rfl
    have ys := ys.kp hp88 gyt gyy rfl
    rcases hr88 with ⟨rfl, f88a⟩ | ⟨rfl, -⟩
    · exact absurd f88a (by decide)
    · have hno : ∀ (S1 : YSt) (i1 : Nat), ¬ gSchool kd vl S i S1 i1 := fun S1 i1 q => by obtain ⟨q1, q2, q3, q4, q5, -, -⟩ := q; first | omega | exact absurd q2 hm | exact absurd q4 wh | exact absurd q5 wn | exact q3 (by omega) (by omega)
      exact ret 0 H88 locs88 _ _ dX10_takeSchool_31 (Or.inl rfl) ⟨hKp88, Or.inr ⟨rfl, hno⟩⟩ hC88 hS88
set_option maxRecDepth 100000 in
set_option maxHeartbeats 4000000 in
theorem m_X10_takeHeap_42 (l : Launch) (X : xW) (Γ : Nat → Option Nat) (H0 : Heap) (hC0 : Conf X Γ H0) (h0 : Nat) (g0 : Γ h0 = some 3) (h1 : Nat) (g1 : Γ h1 = some 5) (h2 : Nat) (g2 : Γ h2 = some 36) (h3 : Nat) (g3 : Γ h3 = some 42) (o4 : Option Nat) (g4 : ∀ q, o4 = some q → Γ q = some 12) (p5 : Int32) {a5 : Int} (e5 : p5.toInt = a5) (ra : Nat) (gra : Γ ra = some 2) (ur : ∀ a, Γ a = some 2 → a = ra) (kd vl : Nat → Int) (N i : Nat) (S : YSt) (cu : CU X Γ H0 ra kd vl N i) (ys : YSC X Γ H0 h0 h1 vl S) (bfi : Nat) (hbf : bfi < 29) (ho : o4 = some (wad X bfi)) (htl : sR H0 h0 (X.1.2 9 1) = some h3) (r0 : kd i = 2) : Ctr l X Γ yX10_takeHeap cX10_takeHeap 8 (some .boolean) 3 [.ref h0, .ref h1, .ref h2, .ref h3, va_rf o4, .int p5] H0 (QI X Γ (fun v H1 => Kp X Γ [0, 2, 3, 4, 5, 18, 21, 23, 25, 27, 29, 31, 37, 39, 40, 41] H0 H1 ∧ ((v = 1 ∧ (∃ (S1 : YSt) (i1 : Nat), gHeap kd vl bfi 0 a5 S i S1 i1 ∧ CU X Γ H1 ra kd vl N i1 ∧ YSC X Γ H1 h0 h1 vl S1)) ∨ (v = 0 ∧ (∀ (S1 : YSt) (i1 : Nat), ¬ gHeap kd vl bfi 0 a5 S i S1 i1))))) := by
  refine q_enterZ (own := "SnowForts$YardText") (by decide) rfl (by cases o4 <;> exact Nat.le_of_ble_eq_true rfl) ?_
  intro p e s m args below meth c ls Qz E hl ret hS0
  have hx := E.1; have hb := E.2.1
  have hKp0 : Kp X Γ [0, 2, 3, 4, 5, 18, 21, 23, 25, 27, 29, 31, 37, 39, 40, 41] H0 H0 := Kp.rf
  have hl : lv_has ls 8 [(0, .ref h0), (1, .ref h1), (2, .ref h2), (3, .ref h3), (4, va_rf o4), (5, .int p5)] := by revert hl; cases o4 <;> exact fun h => h
  have yw := ys.1; have yh := ys.2.1; have yn := ys.2.2.1; have yb := ys.2.2.2.1
  have gry := cu.g; have gyt := g0; have gyy := g1
  refine lv_aload_n hx hb dX10_takeHeap_0 rfl (lv_at hl 0 rfl) ?_
  refine q_getU E hC0 g0 fa_RX10_21 ur dX10_takeHeap_1 ?_
  refine q_goV (q_runV (As := []) (rest := []) E hC0 hS0 (m_X4_advance l X Γ H0 hC0 ra gra) cw_X4_advance cl_RX10_154 gra ⟨rfl, rfl⟩ rfl hl.1 rfl (Nat.zero_le _) (by decide) dX10_takeHeap_4) hS0 (fun H21 locs21 hr21 hC21 hS21 => ?_)
  obtain ⟨hp21, hr21⟩ := hr21
  have hKp21 := hKp0.tr (hp21.mono rfl)
  have ys := ys.kp hp21 gyt gyy rfl
  have f21_0 := hr21
  have cu := cu.next (by omega) hp21 rfl f21_0
  refine lv_aload_n hx hb dX10_takeHeap_7 rfl (lv_at hl 0 rfl) ?_
  refine q_getU E hC21 g0 fa_RX10_21 ur dX10_takeHeap_8 ?_
  refine lv_iconst (v := 0) hx hb dX10_takeHeap_11 rfl ?_
  have yw := ys.1; have yh := ys.2.1; have yn := ys.2.2.1; have yb := ys.2.2.2.1
  refine lv_aload_n hx hb dX10_takeHeap_12 rfl (lv_at hl 1 rfl) ?_
  refine q_getI E hC21 g1 fa_RX10_92 dX10_takeHeap_13 (fun v22 ev22 _ _ => ?_)
  have m23 : (sI H21 h1 (X.1.2 8 0)).toInt = v22.toInt := congrArg Int32.toInt ev22
  refine lv_iconst (v := 1) hx hb dX10_takeHeap_16 rfl ?_
  refine lv_isub hx hb dX10_takeHeap_17 (lv_topi (fun v24 ev24 => ?_))
  have ev24i : v24.toInt = (v22.toInt - 1) := i_sub ev24 rfl (by decide) (by omega) (by omega)
  refine q_goI (q_runV (As := [.int 0, .int v24]) (rest := []) E hC21 hS21 (m_X4_takeNumber l X Γ H21 hC21 ra gra 0 (a1 := 0) (by decide) v24 (a2 := (v22.toInt - 1)) ev24i) cw_X4_takeNumber cl_RX10_79 gra ⟨rfl, rfl⟩ rfl hl.1 rfl (Nat.zero_le _) (by decide) dX10_takeHeap_18) hS21 (fun v25 H25 locs25 hr25 hC25 hS25 => ?_)
  obtain ⟨hp25, hr25⟩ := hr25
  have hKp25 := hKp21.tr (hp25.mono rfl)
  have ys := ys.kp hp25 gyt gyy rfl
  rcases hr25.2 kd vl N (i + 1) cu with ⟨rfl, ⟨x1, x2, x3⟩, nx, cu⟩ | ⟨rfl, wx⟩
  · refine q_if_ne hx hb (a := 1) (by decide) (tgt := 26) dX10_takeHeap_21 rfl (fun c26 => ?_) (fun c26 => absurd c26 (by omega))
    refine lv_aload_n hx hb dX10_takeHeap_26 rfl (lv_at hl 0 rfl) ?_
    refine q_getU E hC25 g0 fa_RX10_21 ur dX10_takeHeap_27 ?_
    refine q_getI E hC25 gra fa_RX10_83 dX10_takeHeap_30 (fun v27 ev27 _ _ => ?_)
    have m28 : (sI H25 ra (X.1.2 4 13)).toInt = v27.toInt := congrArg Int32.toInt ev27
    refine lv_istore hx hb dX10_takeHeap_33 hl (by decide) rfl (fun ls hl => ?_)
    have hl : lv_has ls 8 [(6, .int v27), (0, .ref h0), (1, .ref h1), (2, .ref h2), (3, .ref h3), (4, va_rf o4), (5, .int p5)] := hl
    refine lv_aload_n hx hb dX10_takeHeap_35 rfl (lv_at hl 1 rfl) ?_
    refine q_getU E hC25 g0 fa_RX10_21 ur dX10_takeHeap_36 ?_
    refine lv_iconst (v := 0) hx hb dX10_takeHeap_39 rfl ?_
    have yw := ys.1; have yh := ys.2.1; have yn := ys.2.2.1; have yb := ys.2.2.2.1
    refine lv_aload_n hx hb dX10_takeHeap_40 rfl (lv_at hl 2 rfl) ?_
    refine q_getI E hC25 g1 fa_RX10_98 dX10_takeHeap_41 (fun v29 ev29 _ _ => ?_)
    have m30 : (sI H25 h1 (X.1.2 8 1)).toInt = v29.toInt := congrArg Int32.toInt ev29
    refine lv_iconst (v := 1) hx hb dX10_takeHeap_44 rfl ?_
    refine lv_isub hx hb dX10_takeHeap_45 (lv_topi (fun v31 ev31 => ?_))
    have ev31i : v31.toInt = (v29.toInt - 1) := i_sub ev31 rfl (by decide) (by omega) (by omega)
    refine q_goI (q_runV (As := [.int 0, .int v31]) (rest := []) E hC25 hS25 (m_X4_takeNumber l X Γ H25 hC25 ra gra 0 (a1 := 0) (by decide) v31 (a2 := (v29.toInt - 1)) ev31i) cw_X4_takeNumber cl_RX10_79 gra ⟨rfl, rfl⟩ rfl hl.1 rfl (Nat.zero_le _) (by decide) dX10_takeHeap_46) hS25 (fun v32 H32 locs32 hr32 hC32 hS32 => ?_)
    obtain ⟨hp32, hr32⟩ := hr32
    have hKp32 := hKp25.tr (hp32.mono rfl)
    have ys := ys.kp hp32 gyt gyy rfl
    rcases hr32.2 kd vl N (i + 2) cu with ⟨rfl, ⟨y1, y2, y3⟩, ny, cu⟩ | ⟨rfl, wy⟩
    · refine q_if_ne hx hb (a := 1) (by decide) (tgt := 54) dX10_takeHeap_49 rfl (fun c33 => ?_) (fun c33 => absurd c33 (by omega))
      refine lv_aload_n hx hb dX10_takeHeap_54 rfl (lv_at hl 1 rfl) ?_
      refine q_getU E hC32 g0 fa_RX10_21 ur dX10_takeHeap_55 ?_
      refine q_getI E hC32 gra fa_RX10_83 dX10_takeHeap_58 (fun v34 ev34 _ _ => ?_)
      have m35 : (sI H32 ra (X.1.2 4 13)).toInt = v34.toInt := congrArg Int32.toInt ev34
      refine lv_bipush (v := 6) hx hb dX10_takeHeap_61 rfl ?_
      refine lv_imul hx hb dX10_takeHeap_63 (lv_topi (fun v36 ev36 => ?_))
      have ev36i : v36.toInt = (v34.toInt * 6) := i_mul ev36 rfl (by decide) (by omega) (by omega)
      refine lv_iload hx hb dX10_takeHeap_64 (lv_at hl 0 rfl) ?_
      refine lv_iadd hx hb dX10_takeHeap_66 (lv_topi (fun v37 ev37 => ?_))
      have ev37i : v37.toInt = ((v34.toInt * 6) + v27.toInt) := i_add ev37 ev36i rfl (by omega) (by omega)
      refine lv_istore hx hb dX10_takeHeap_67 hl (by decide) rfl (fun ls hl => ?_)
      have hl : lv_has ls 8 [(7, .int v37), (6, .int v27), (0, .ref h0), (1, .ref h1), (2, .ref h2), (3, .ref h3), (4, va_rf o4), (5, .int p5)] := hl
      refine lv_iload hx hb dX10_takeHeap_69 (lv_at hl 0 rfl) ?_
      refine lv_i2l (v := v37.toInt64) hx hb dX10_takeHeap_71 rfl (lv_topl (fun v38 ev38 => ?_))
      have ev38i : v38.toInt = ((v34.toInt * 6) + v27.toInt) := l_ofi ev38.symm ev37i
      refine lv_iconst (v := 0) hx hb dX10_takeHeap_72 rfl ?_
      refine lv_bipush (v := 35) hx hb dX10_takeHeap_73 rfl ?_
      refine q_goIp (q_runSN (As := [.long v38, .int 0, .int 35]) (rest := []) E hS32 (m_X11_isWithin l X Γ H32 hC32 v38 (a0 := ((v34.toInt * 6) + v27.toInt)) ev38i 0 (a1 := 0) (by decide) 35 (a2 := 35) (by decide)) cw_X11_isWithin cl_RX10_147 rfl hl.1 rfl (Nat.zero_le _) (by decide) dX10_takeHeap_75) hS32 (fun v39 locs39 hr39 hS39 => ?_)
      rcases hr39 with ⟨rfl, f39a0, f39a1⟩ | ⟨rfl, f39b⟩
      · refine q_if_eq hx hb (a := 1) (by decide) (tgt := 88) dX10_takeHeap_78 rfl (fun c40 => absurd c40 (by omega)) (fun c40 => ?_)
        refine lv_aload_n hx hb dX10_takeHeap_81 rfl (lv_at hl 5 rfl) ?_
        refine lv_iload hx hb dX10_takeHeap_82 (lv_at hl 0 rfl) ?_
        refine q_iald E hC32 g3 rfl rfl (fun _ h => h) (i_in (a := ((v34.toInt * 6) + v27.toInt)) ev37i (by omega) (by omega)) dX10_takeHeap_84 (fun v41 ev41 _ _ => ?_)
        have htc : v41.toInt = S.2.2.2.2.1 0 (6 * vl (i + 2) + vl (i + 1)) := by rw [← ev41, i_ix ev37i, show (((v34.toInt * 6) + v27.toInt) : Int) = 6 * vl (i + 2) + vl (i + 1) by omega]; exact ys.cell (f := 1) (kk := 42) (by decide) ((kp_R hKp32 gyt (ci := 9) (k := 1) rfl (by decide) rfl).trans htl) (by omega) (by omega)
        refine q_if_eq hx hb (a := v41.toInt) rfl (tgt := 104) dX10_takeHeap_85 rfl (fun c42 => ?_) (fun c42 => ?_)
        · refine lv_aload_n hx hb dX10_takeHeap_104 rfl (lv_at hl 2 rfl) ?_
          refine q_getU E hC32 g0 fa_RX10_21 ur dX10_takeHeap_105 ?_
          refine q_alq (o := o4) hx hb dX10_takeHeap_108 (lv_at hl 6 rfl) ?_
          refine q_goI (q_runV (As := [va_rf o4]) (rest := []) E hC32 hS39 (m_X4_take l X Γ H32 hC32 ra gra o4 g4) cw_X4_take cl_RX10_75 gra ⟨rfl, rfl⟩ rfl hl.1 rfl (Nat.zero_le _) (by decide) dX10_takeHeap_110) hS39 (fun v43 H43 locs43 hr43 hC43 hS43 => ?_)
          obtain ⟨hp43, hr43⟩ := hr43
          have hKp43 := hKp32.tr (hp43.mono rfl)
          have ys := ys.kp hp43 gyt gyy rfl
          rcases hr43.2 kd vl N (i + 3) cu bfi hbf ho with ⟨rfl, wb, cu⟩ | ⟨rfl, wb⟩
          · refine q_if_eq hx hb (a := 1) (by decide) (tgt := 129) dX10_takeHeap_113 rfl (fun c44 => absurd c44 (by omega)) (fun c44 => ?_)
            refine lv_aload_n hx hb dX10_takeHeap_116 rfl (lv_at hl 2 rfl) ?_
            refine q_getU E hC43 g0 fa_RX10_21 ur dX10_takeHeap_117 ?_
            refine lv_iconst (v := 0) hx hb dX10_takeHeap_120 rfl ?_
            refine lv_iload hx hb dX10_takeHeap_121 (lv_at hl 7 rfl) ?_
            refine q_goI (q_runV (As := [.int 0, .int p5]) (rest := []) E hC43 hS43 (m_X4_takeNumber l X Γ H43 hC43 ra gra 0 (a1 := 0) (by decide) p5 (a2 := a5) e5) cw_X4_takeNumber cl_RX10_79 gra ⟨rfl, rfl⟩ rfl hl.1 rfl (Nat.zero_le _) (by decide) dX10_takeHeap_123) hS43 (fun v45 H45 locs45 hr45 hC45 hS45 => ?_)
            obtain ⟨hp45, hr45⟩ := hr45
            have hKp45 := hKp43.tr (hp45.mono rfl)
            have ys := ys.kp hp45 gyt gyy rfl
            rcases hr45.2 kd vl N (i + 4) cu with ⟨rfl, wl, nl, cu⟩ | ⟨rfl, wl⟩
            · refine q_if_ne hx hb (a := 1) (by decide) (tgt := 131) dX10_takeHeap_126 rfl (fun c46 => ?_) (fun c46 => absurd c46 (by omega))
              have htq := ((kp_R hKp45 gyt (ci := 9) (k := 1) rfl (by decide) rfl).trans htl)
              refine lv_aload_n hx hb dX10_takeHeap_131 rfl (lv_at hl 5 rfl) ?_
              refine lv_iload hx hb dX10_takeHeap_132 (lv_at hl 0 rfl) ?_
              refine lv_iconst (v := 1) hx hb dX10_takeHeap_134 rfl ?_
              refine q_iast E hC45 hS45 g3 (by decide) rfl rfl (i_in (a := ((v34.toInt * 6) + v27.toInt)) ev37i (by omega) (by omega)) tv_F dX10_takeHeap_135 (fun H47 locs47 hC47 hS47 U47 => ?_)
              have hKp47 := Kp.upA g3 rfl (by decide) rfl U47 hKp45
              have cu := cu.ne U47 g3 (by decide)
              have ys := ys.told (f := 1) (kk := 42) U47 gyt gyy (w := 0) (z := 6 * vl (i + 2) + vl (i + 1)) (by decide) htq g3 (by rw [i_ix ev37i]; omega) (by decide)
              refine lv_aload_n hx hb dX10_takeHeap_136 rfl (lv_at hl 4 rfl) ?_
              refine lv_iload hx hb dX10_takeHeap_137 (lv_at hl 0 rfl) ?_
              refine lv_aload_n hx hb dX10_takeHeap_139 rfl (lv_at hl 2 rfl) ?_
              refine q_getU E hC47 g0 fa_RX10_21 ur dX10_takeHeap_140 ?_
              have e49 := (kp_I hp43 gra (k := 13) rfl (by decide) rfl).trans ev34
              refine q_getI E hC47 gra fa_RX10_83 dX10_takeHeap_143 (fun v48 ev48 _ _ => ?_)
              have m50 : (sI H47 ra (X.1.2 4 13)).toInt = v48.toInt := congrArg Int32.toInt ev48
              refine q_iast E hC47 hS47 g2 (by decide) rfl rfl (i_in (a := ((v34.toInt * 6) + v27.toInt)) ev37i (by omega) (by omega)) tv_F dX10_takeHeap_146 (fun H51 locs51 hC51 hS51 U51 => ?_)
              have hKp51 := Kp.upA g2 rfl (by decide) rfl U51 hKp47
              have cu := cu.ne U51 g2 (by decide)
              have ys := ys.ne U51 gyt gyy g2 (by decide)
              refine lv_iconst (v := 1) hx hb dX10_takeHeap_147 rfl ?_
              have hyes : ∃ (S1 : YSt) (i1 : Nat), gHeap kd vl bfi 0 a5 S i S1 i1 ∧ CU X Γ H51 ra kd vl N i1 ∧ YSC X Γ H51 h0 h1 vl S1 := ⟨_, _, ⟨⟨x1, x2, by omega⟩, ⟨y1, y2, by omega⟩, by omega, wb, wl, rfl, rfl⟩, cu, ys⟩
              exact ret 1 H51 locs51 _ _ dX10_takeHeap_148 (Or.inr rfl) ⟨hKp51, Or.inl ⟨rfl, hyes⟩⟩ hC51 hS51
            · refine q_if_ne hx hb (a := 0) (by decide) (tgt := 131) dX10_takeHeap_126 rfl (fun c52 => absurd c52 (by omega)) (fun c52 => ?_)
              refine lv_iconst (v := 0) hx hb dX10_takeHeap_129 rfl ?_
              have hno : ∀ (S1 : YSt) (i1 : Nat), ¬ gHeap kd vl bfi 0 a5 S i S1 i1 := fun S1 i1 q => by obtain ⟨q1, q2, q3, q4, q5, -, -⟩ := q; first | omega | exact wx ⟨q1.1, q1.2.1, by have := q1.2.2; omega⟩ | exact wy ⟨q2.1, q2.2.1, (show vl (i + 2) ≤ _ by have := q2.2.2; omega)⟩ | exact wb q4 | exact wl q5
              exact ret 0 H45 locs45 _ _ dX10_takeHeap_130 (Or.inl rfl) ⟨hKp45, Or.inr ⟨rfl, hno⟩⟩ hC45 hS45
          · refine q_if_eq hx hb (a := 0) (by decide) (tgt := 129) dX10_takeHeap_113 rfl (fun c53 => ?_) (fun c53 => absurd c53 (by omega))
            refine lv_iconst (v := 0) hx hb dX10_takeHeap_129 rfl ?_
            have hno : ∀ (S1 : YSt) (i1 : Nat), ¬ gHeap kd vl bfi 0 a5 S i S1 i1 := fun S1 i1 q => by obtain ⟨q1, q2, q3, q4, q5, -, -⟩ := q; first | omega | exact wx ⟨q1.1, q1.2.1, by have := q1.2.2; omega⟩ | exact wy ⟨q2.1, q2.2.1, (show vl (i + 2) ≤ _ by have := q2.2.2; omega)⟩ | exact wb q4 | exact wl q5
            exact ret 0 H43 locs43 _ _ dX10_takeHeap_130 (Or.inl rfl) ⟨hKp43, Or.inr ⟨rfl, hno⟩⟩ hC43 hS43
        · refine lv_aload_n hx hb dX10_takeHeap_88 rfl (lv_at hl 2 rfl) ?_
          refine q_getU E hC32 g0 fa_RX10_21 ur dX10_takeHeap_89 ?_
          refine lv_iconst (v := 5) hx hb dX10_takeHeap_92 rfl ?_
          refine lv_aload_n hx hb dX10_takeHeap_93 rfl (lv_at hl 2 rfl) ?_
          refine q_getU E hC32 g0 fa_RX10_21 ur dX10_takeHeap_94 ?_
          refine q_getI E hC32 gra fa_RX10_86 dX10_takeHeap_97 (fun v54 ev54 _ _ => ?_)
          have m55 : (sI H32 ra (X.1.2 4 14)).toInt = v54.toInt := congrArg Int32.toInt ev54
          refine q_goI (q_runV (As := [.int 5, .int v54]) (rest := []) E hC32 hS39 (m_X4_fail l X Γ H32 hC32 ra gra 5 (a1 := 5) (by decide) v54 (a2 := v54.toInt) rfl) cw_X4_fail cl_RX10_89 gra ⟨rfl, rfl⟩ rfl hl.1 rfl (Nat.zero_le _) (by decide) dX10_takeHeap_100) hS39 (fun v56 H56 locs56 hr56 hC56 hS56 => ?_)
          obtain ⟨hp56, hr56⟩ := hr56
          have hKp56 := hKp32.tr (hp56.mono rfl)
          have cu := cu.kp hp56 rfl rfl
          have ys := ys.kp hp56 gyt gyy rfl
          rcases hr56 with ⟨rfl, f56a⟩ | ⟨rfl, -⟩
          · exact absurd f56a (by decide)
          · have hno : ∀ (S1 : YSt) (i1 : Nat), ¬ gHeap kd vl bfi 0 a5 S i S1 i1 := fun S1 i1 q => by obtain ⟨q1, q2, q3, q4, q5, -, -⟩ := q; first | omega | exact wx ⟨q1.1, q1.2.1, by have := q1.2.2; omega⟩ | exact wy ⟨q2.1, q2.2.1, (show vl (i + 2) ≤ _ by have := q2.2.2; omega)⟩ | exact wb q4 | exact wl q5
            exact ret 0 H56 locs56 _ _ dX10_takeHeap_103 (Or.inl rfl) ⟨hKp56, Or.inr ⟨rfl, hno⟩⟩ hC56 hS56
      · refine q_if_eq hx hb (a := 0) (by decide) (tgt := 88) dX10_takeHeap_78 rfl (fun c57 => ?_) (fun c57 => absurd c57 (by omega))
        refine lv_aload_n hx hb dX10_takeHeap_88 rfl (lv_at hl 2 rfl) ?_
        refine q_getU E hC32 g0 fa_RX10_21 ur dX10_takeHeap_89 ?_
        refine lv_iconst (v := 5) hx hb dX10_takeHeap_92 rfl ?_
        refine lv_aload_n hx hb dX10_takeHeap_93 rfl (lv_at hl 2 rfl) ?_
        refine q_getU E hC32 g0 fa_RX10_21 ur dX10_takeHeap_94 ?_
        refine q_getI E hC32 gra fa_RX10_86 dX10_takeHeap_97 (fun v58 ev58 _ _ => ?_)
        have m59 : (sI H32 ra (X.1.2 4 14)).toInt = v58.toInt := congrArg Int32.toInt ev58
        refine q_goI (q_runV (As := [.int 5, .int v58]) (rest := []) E hC32 hS39 (m_X4_fail l X Γ H32 hC32 ra gra 5 (a1 := 5) (by decide) v58 (a2 := v58.toInt) rfl) cw_X4_fail cl_RX10_89 gra ⟨rfl, rfl⟩ rfl hl.1 rfl (Nat.zero_le _) (by decide) dX10_takeHeap_100) hS39 (fun v60 H60 locs60 hr60 hC60 hS60 => ?_)
        obtain ⟨hp60, hr60⟩ := hr60
        have hKp60 := hKp32.tr (hp60.mono rfl)
        have cu := cu.kp hp60 rfl rfl
        have ys := ys.kp hp60 gyt gyy rfl
        rcases hr60 with ⟨rfl, f60a⟩ | ⟨rfl, -⟩
        · exact absurd f60a (by decide)
        · have hno : ∀ (S1 : YSt) (i1 : Nat), ¬ gHeap kd vl bfi 0 a5 S i S1 i1 := fun S1 i1 q => by obtain ⟨q1, q2, q3, q4, q5, -, -⟩ := q; first | omega | exact wx ⟨q1.1, q1.2.1, by have := q1.2.2; omega⟩ | exact wy ⟨q2.1, q2.2.1, (show vl (i + 2) ≤ _ by have := q2.2.2; omega)⟩ | exact wb q4 | exact wl q5
          exact ret 0 H60 locs60 _ _ dX10_takeHeap_103 (Or.inl rfl) ⟨hKp60, Or.inr ⟨rfl, hno⟩⟩ hC60 hS60
    · refine q_if_ne hx hb (a := 0) (by decide) (tgt := 54) dX10_takeHeap_49 rfl (fun c61 => absurd c61 (by omega)) (fun c61 => ?_)
      refine lv_iconst (v := 0) hx hb dX10_takeHeap_52 rfl ?_
      have hno : ∀ (S1 : YSt) (i1 : Nat), ¬ gHeap kd vl bfi 0 a5 S i S1 i1 := fun S1 i1 q => by obtain ⟨q1, q2, q3, q4, q5, -, -⟩ := q; first | omega | exact wx ⟨q1.1, q1.2.1, by have := q1.2.2; omega⟩ | exact wy ⟨q2.1, q2.2.1, (show vl (i + 2) ≤ _ by have := q2.2.2; omega)⟩ | exact wb q4 | exact wl q5
      exact ret 0 H32 locs32 _ _ dX10_takeHeap_53 (Or.inl rfl) ⟨hKp32, Or.inr ⟨rfl, hno⟩⟩ hC32 hS32
  · refine q_if_ne hx hb (a := 0) (by decide) (tgt := 26) dX10_takeHeap_21 rfl (fun c62 => absurd c62 (by omega)) (fun c62 => ?_)
    refine lv_iconst (v := 0) hx hb dX10_takeHeap_24 rfl ?_
    have hno : ∀ (S1 : YSt) (i1 : Nat), ¬ gHeap kd vl bfi 0 a5 S i S1 i1 := fun S1 i1 q => by obtain ⟨q1, q2, q3, q4, q5, -, -⟩ := q; first | omega | exact wx ⟨q1.1, q1.2.1, by have := q1.2.2; omega⟩ | exact wy ⟨q2.1, q2.2.1, (show vl (i + 2) ≤ _ by have := q2.2.2; omega)⟩ | exact wb q4 | exact wl q5
    exact ret 0 H25 locs25 _ _ dX10_takeHeap_25 (Or.inl rfl) ⟨hKp25, Or.inr ⟨rfl, hno⟩⟩ hC25 hS25
set_option maxRecDepth 100000 in
set_option maxHeartbeats 4000000 in
theorem m_X10_takeHeap_76 (l : Launch) (X : xW) (Γ : Nat → Option Nat) (H0 : Heap) (hC0 : Conf X Γ H0) (h0 : Nat) (g0 : Γ h0 = some 3) (h1 : Nat) (g1 : Γ h1 = some 5) (h2 : Nat) (g2 : Γ h2 = some 36) (h3 : Nat) (g3 : Γ h3 = some 76) (o4 : Option Nat) (g4 : ∀ q, o4 = some q → Γ q = some 12) (p5 : Int32) {a5 : Int} (e5 : p5.toInt = a5) (ra : Nat) (gra : Γ ra = some 2) (ur : ∀ a, Γ a = some 2 → a = ra) (kd vl : Nat → Int) (N i : Nat) (S : YSt) (cu : CU X Γ H0 ra kd vl N i) (ys : YSC X Γ H0 h0 h1 vl S) (bfi : Nat) (hbf : bfi < 29) (ho : o4 = some (wad X bfi)) (htl : sR H0 h0 (X.1.2 9 2) = some h3) (r0 : kd i = 2) : Ctr l X Γ yX10_takeHeap cX10_takeHeap 8 (some .boolean) 3 [.ref h0, .ref h1, .ref h2, .ref h3, va_rf o4, .int p5] H0 (QI X Γ (fun v H1 => Kp X Γ [0, 2, 3, 4, 5, 18, 21, 23, 25, 27, 29, 31, 37, 39, 40, 41] H0 H1 ∧ ((v = 1 ∧ (∃ (S1 : YSt) (i1 : Nat), gHeap kd vl bfi 1 a5 S i S1 i1 ∧ CU X Γ H1 ra kd vl N i1 ∧ YSC X Γ H1 h0 h1 vl S1)) ∨ (v = 0 ∧ (∀ (S1 : YSt) (i1 : Nat), ¬ gHeap kd vl bfi 1 a5 S i S1 i1))))) := by
  refine q_enterZ (own := "SnowForts$YardText") (by decide) rfl (by cases o4 <;> exact Nat.le_of_ble_eq_true rfl) ?_
  intro p e s m args below meth c ls Qz E hl ret hS0
  have hx := E.1; have hb := E.2.1
  have hKp0 : Kp X Γ [0, 2, 3, 4, 5, 18, 21, 23, 25, 27, 29, 31, 37, 39, 40, 41] H0 H0 := Kp.rf
  have hl : lv_has ls 8 [(0, .ref h0), (1, .ref h1), (2, .ref h2), (3, .ref h3), (4, va_rf o4), (5, .int p5)] := by revert hl; cases o4 <;> exact fun h => h
  have yw := ys.1; have yh := ys.2.1; have yn := ys.2.2.1; have yb := ys.2.2.2.1
  have gry := cu.g; have gyt := g0; have gyy := g1
  refine lv_aload_n hx hb dX10_takeHeap_0 rfl (lv_at hl 0 rfl) ?_
  refine q_getU E hC0 g0 fa_RX10_21 ur dX10_takeHeap_1 ?_
  refine q_goV (q_runV (As := []) (rest := []) E hC0 hS0 (m_X4_advance l X Γ H0 hC0 ra gra) cw_X4_advance cl_RX10_154 gra ⟨rfl, rfl⟩ rfl hl.1 rfl (Nat.zero_le _) (by decide) dX10_takeHeap_4) hS0 (fun H21 locs21 hr21 hC21 hS21 => ?_)
  obtain ⟨hp21, hr21⟩ := hr21
  have hKp21 := hKp0.tr (hp21.mono rfl)
  have ys := ys.kp hp21 gyt gyy rfl
  have f21_0 := hr21
  have cu := cu.next (by omega) hp21 rfl f21_0
  refine lv_aload_n hx hb dX10_takeHeap_7 rfl (lv_at hl 0 rfl) ?_
  refine q_getU E hC21 g0 fa_RX10_21 ur dX10_takeHeap_8 ?_
  refine lv_iconst (v := 0) hx hb dX10_takeHeap_11 rfl ?_
  have yw := ys.1; have yh := ys.2.1; have yn := ys.2.2.1; have yb := ys.2.2.2.1
  refine lv_aload_n hx hb dX10_takeHeap_12 rfl (lv_at hl 1 rfl) ?_
  refine q_getI E hC21 g1 fa_RX10_92 dX10_takeHeap_13 (fun v22 ev22 _ _ => ?_)
  have m23 : (sI H21 h1 (X.1.2 8 0)).toInt = v22.toInt := congrArg Int32.toInt ev22
  refine lv_iconst (v := 1) hx hb dX10_takeHeap_16 rfl ?_
  refine lv_isub hx hb dX10_takeHeap_17 (lv_topi (fun v24 ev24 => ?_))
  have ev24i : v24.toInt = (v22.toInt - 1) := i_sub ev24 rfl (by decide) (by omega) (by omega)
  refine q_goI (q_runV (As := [.int 0, .int v24]) (rest := []) E hC21 hS21 (m_X4_takeNumber l X Γ H21 hC21 ra gra 0 (a1 := 0) (by decide) v24 (a2 := (v22.toInt - 1)) ev24i) cw_X4_takeNumber cl_RX10_79 gra ⟨rfl, rfl⟩ rfl hl.1 rfl (Nat.zero_le _) (by decide) dX10_takeHeap_18) hS21 (fun v25 H25 locs25 hr25 hC25 hS25 => ?_)
  obtain ⟨hp25, hr25⟩ := hr25
  have hKp25 := hKp21.tr (hp25.mono rfl)
  have ys := ys.kp hp25 gyt gyy rfl
  rcases hr25.2 kd vl N (i + 1) cu with ⟨rfl, ⟨x1, x2, x3⟩, nx, cu⟩ | ⟨rfl, wx⟩
  · refine q_if_ne hx hb (a := 1) (by decide) (tgt := 26) dX10_takeHeap_21 rfl (fun c26 => ?_) (fun c26 => absurd c26 (by omega))
    refine lv_aload_n hx hb dX10_takeHeap_26 rfl (lv_at hl 0 rfl) ?_
    refine q_getU E hC25 g0 fa_RX10_21 ur dX10_takeHeap_27 ?_
    refine q_getI E hC25 gra fa_RX10_83 dX10_takeHeap_30 (fun v27 ev27 _ _ => ?_)
    have m28 : (sI H25 ra (X.1.2 4 13)).toInt = v27.toInt := congrArg Int32.toInt ev27
    refine lv_istore hx hb dX10_takeHeap_33 hl (by decide) rfl (fun ls hl => ?_)
    have hl : lv_has ls 8 [(6, .int v27), (0, .ref h0), (1, .ref h1), (2, .ref h2), (3, .ref h3), (4, va_rf o4), (5, .int p5)] := hl
    refine lv_aload_n hx hb dX10_takeHeap_35 rfl (lv_at hl 1 rfl) ?_
    refine q_getU E hC25 g0 fa_RX10_21 ur dX10_takeHeap_36 ?_
    refine lv_iconst (v := 0) hx hb dX10_takeHeap_39 rfl ?_
    have yw := ys.1; have yh := ys.2.1; have yn := ys.2.2.1; have yb := ys.2.2.2.1
    refine lv_aload_n hx hb dX10_takeHeap_40 rfl (lv_at hl 2 rfl) ?_
    refine q_getI E hC25 g1 fa_RX10_98 dX10_takeHeap_41 (fun v29 ev29 _ _ => ?_)
    have m30 : (sI H25 h1 (X.1.2 8 1)).toInt = v29.toInt := congrArg Int32.toInt ev29
    refine lv_iconst (v := 1) hx hb dX10_takeHeap_44 rfl ?_
    refine lv_isub hx hb dX10_takeHeap_45 (lv_topi (fun v31 ev31 => ?_))
    have ev31i : v31.toInt = (v29.toInt - 1) := i_sub ev31 rfl (by decide) (by omega) (by omega)
    refine q_goI (q_runV (As := [.int 0, .int v31]) (rest := []) E hC25 hS25 (m_X4_takeNumber l X Γ H25 hC25 ra gra 0 (a1 := 0) (by decide) v31 (a2 := (v29.toInt - 1)) ev31i) cw_X4_takeNumber cl_RX10_79 gra ⟨rfl, rfl⟩ rfl hl.1 rfl (Nat.zero_le _) (by decide) dX10_takeHeap_46) hS25 (fun v32 H32 locs32 hr32 hC32 hS32 => ?_)
    obtain ⟨hp32, hr32⟩ := hr32
    have hKp32 := hKp25.tr (hp32.mono rfl)
    have ys := ys.kp hp32 gyt gyy rfl
    rcases hr32.2 kd vl N (i + 2) cu with ⟨rfl, ⟨y1, y2, y3⟩, ny, cu⟩ | ⟨rfl, wy⟩
    · refine q_if_ne hx hb (a := 1) (by decide) (tgt := 54) dX10_takeHeap_49 rfl (fun c33 => ?_) (fun c33 => absurd c33 (by omega))
      refine lv_aload_n hx hb dX10_takeHeap_54 rfl (lv_at hl 1 rfl) ?_
      refine q_getU E hC32 g0 fa_RX10_21 ur dX10_takeHeap_55 ?_
      refine q_getI E hC32 gra fa_RX10_83 dX10_takeHeap_58 (fun v34 ev34 _ _ => ?_)
      have m35 : (sI H32 ra (X.1.2 4 13)).toInt = v34.toInt := congrArg Int32.toInt ev34
      refine lv_bipush (v := 6) hx hb dX10_takeHeap_61 rfl ?_
      refine lv_imul hx hb dX10_takeHeap_63 (lv_topi (fun v36 ev36 => ?_))
      have ev36i : v36.toInt = (v34.toInt * 6) := i_mul ev36 rfl (by decide) (by omega) (by omega)
      refine lv_iload hx hb dX10_takeHeap_64 (lv_at hl 0 rfl) ?_
      refine lv_iadd hx hb dX10_takeHeap_66 (lv_topi (fun v37 ev37 => ?_))
      have ev37i : v37.toInt = ((v34.toInt * 6) + v27.toInt) := i_add ev37 ev36i rfl (by omega) (by omega)
      refine lv_istore hx hb dX10_takeHeap_67 hl (by decide) rfl (fun ls hl => ?_)
      have hl : lv_has ls 8 [(7, .int v37), (6, .int v27), (0, .ref h0), (1, .ref h1), (2, .ref h2), (3, .ref h3), (4, va_rf o4), (5, .int p5)] := hl
      refine lv_iload hx hb dX10_takeHeap_69 (lv_at hl 0 rfl) ?_
      refine lv_i2l (v := v37.toInt64) hx hb dX10_takeHeap_71 rfl (lv_topl (fun v38 ev38 => ?_))
      have ev38i : v38.toInt = ((v34.toInt * 6) + v27.toInt) := l_ofi ev38.symm ev37i
      refine lv_iconst (v := 0) hx hb dX10_takeHeap_72 rfl ?_
      refine lv_bipush (v := 35) hx hb dX10_takeHeap_73 rfl ?_
      refine q_goIp (q_runSN (As := [.long v38, .int 0, .int 35]) (rest := []) E hS32 (m_X11_isWithin l X Γ H32 hC32 v38 (a0 := ((v34.toInt * 6) + v27.toInt)) ev38i 0 (a1 := 0) (by decide) 35 (a2 := 35) (by decide)) cw_X11_isWithin cl_RX10_147 rfl hl.1 rfl (Nat.zero_le _) (by decide) dX10_takeHeap_75) hS32 (fun v39 locs39 hr39 hS39 => ?_)
      rcases hr39 with ⟨rfl, f39a0, f39a1⟩ | ⟨rfl, f39b⟩
      · refine q_if_eq hx hb (a := 1) (by decide) (tgt := 88) dX10_takeHeap_78 rfl (fun c40 => absurd c40 (by omega)) (fun c40 => ?_)
        refine lv_aload_n hx hb dX10_takeHeap_81 rfl (lv_at hl 5 rfl) ?_
        refine lv_iload hx hb dX10_takeHeap_82 (lv_at hl 0 rfl) ?_
        refine q_iald E hC32 g3 rfl rfl (fun _ h => h) (i_in (a := ((v34.toInt * 6) + v27.toInt)) ev37i (by omega) (by omega)) dX10_takeHeap_84 (fun v41 ev41 _ _ => ?_)
        have htc : v41.toInt = S.2.2.2.2.1 1 (6 * vl (i + 2) + vl (i + 1)) := by rw [← ev41, i_ix ev37i, show (((v34.toInt * 6) + v27.toInt) : Int) = 6 * vl (i + 2) + vl (i + 1) by omega]; exact ys.cell (f := 2) (kk := 76) (by decide) ((kp_R hKp32 gyt (ci := 9) (k := 2) rfl (by decide) rfl).trans htl) (by omega) (by omega)
        refine q_if_eq hx hb (a := v41.toInt) rfl (tgt := 104) dX10_takeHeap_85 rfl (fun c42 => ?_) (fun c42 => ?_)
        · refine lv_aload_n hx hb dX10_takeHeap_104 rfl (lv_at hl 2 rfl) ?_
          refine q_getU E hC32 g0 fa_RX10_21 ur dX10_takeHeap_105 ?_
          refine q_alq (o := o4) hx hb dX10_takeHeap_108 (lv_at hl 6 rfl) ?_
          refine q_goI (q_runV (As := [va_rf o4]) (rest := []) E hC32 hS39 (m_X4_take l X Γ H32 hC32 ra gra o4 g4) cw_X4_take cl_RX10_75 gra ⟨rfl, rfl⟩ rfl hl.1 rfl (Nat.zero_le _) (by decide) dX10_takeHeap_110) hS39 (fun v43 H43 locs43 hr43 hC43 hS43 => ?_)
          obtain ⟨hp43, hr43⟩ := hr43
          have hKp43 := hKp32.tr (hp43.mono rfl)
          have ys := ys.kp hp43 gyt gyy rfl
          rcases hr43.2 kd vl N (i + 3) cu bfi hbf ho with ⟨rfl, wb, cu⟩ | ⟨rfl, wb⟩
          · refine q_if_eq hx hb (a := 1) (by decide) (tgt := 129) dX10_takeHeap_113 rfl (fun c44 => absurd c44 (by omega)) (fun c44 => ?_)
            refine lv_aload_n hx hb dX10_takeHeap_116 rfl (lv_at hl 2 rfl) ?_
            refine q_getU E hC43 g0 fa_RX10_21 ur dX10_takeHeap_117 ?_
            refine lv_iconst (v := 0) hx hb dX10_takeHeap_120 rfl ?_
            refine lv_iload hx hb dX10_takeHeap_121 (lv_at hl 7 rfl) ?_
            refine q_goI (q_runV (As := [.int 0, .int p5]) (rest := []) E hC43 hS43 (m_X4_takeNumber l X Γ H43 hC43 ra gra 0 (a1 := 0) (by decide) p5 (a2 := a5) e5) cw_X4_takeNumber cl_RX10_79 gra ⟨rfl, rfl⟩ rfl hl.1 rfl (Nat.zero_le _) (by decide) dX10_takeHeap_123) hS43 (fun v45 H45 locs45 hr45 hC45 hS45 => ?_)
            obtain ⟨hp45, hr45⟩ := hr45
            have hKp45 := hKp43.tr (hp45.mono rfl)
            have ys := ys.kp hp45 gyt gyy rfl
            rcases hr45.2 kd vl N (i + 4) cu with ⟨rfl, wl, nl, cu⟩ | ⟨rfl, wl⟩
            · refine q_if_ne hx hb (a := 1) (by decide) (tgt := 131) dX10_takeHeap_126 rfl (fun c46 => ?_) (fun c46 => absurd c46 (by omega))
              have htq := ((kp_R hKp45 gyt (ci := 9) (k := 2) rfl (by decide) rfl).trans htl)
              refine lv_aload_n hx hb dX10_takeHeap_131 rfl (lv_at hl 5 rfl) ?_
              refine lv_iload hx hb dX10_takeHeap_132 (lv_at hl 0 rfl) ?_
              refine lv_iconst (v := 1) hx hb dX10_takeHeap_134 rfl ?_
              refine q_iast E hC45 hS45 g3 (by decide) rfl rfl (i_in (a := ((v34.toInt * 6) + v27.toInt)) ev37i (by omega) (by omega)) tv_F dX10_takeHeap_135 (fun H47 locs47 hC47 hS47 U47 => ?_)
              have hKp47 := Kp.upA g3 rfl (by decide) rfl U47 hKp45
              have cu := cu.ne U47 g3 (by decide)
              have ys := ys.told (f := 2) (kk := 76) U47 gyt gyy (w := 1) (z := 6 * vl (i + 2) + vl (i + 1)) (by decide) htq g3 (by rw [i_ix ev37i]; omega) (by decide)
              refine lv_aload_n hx hb dX10_takeHeap_136 rfl (lv_at hl 4 rfl) ?_
              refine lv_iload hx hb dX10_takeHeap_137 (lv_at hl 0 rfl) ?_
              refine lv_aload_n hx hb dX10_takeHeap_139 rfl (lv_at hl 2 rfl) ?_
              refine q_getU E hC47 g0 fa_RX10_21 ur dX10_takeHeap_140 ?_
              have e49 := (kp_I hp43 gra (k := 13) rfl (by decide) rfl).trans ev34
              refine q_getI E hC47 gra fa_RX10_83 dX10_takeHeap_143 (fun v48 ev48 _ _ => ?_)
              have m50 : (sI H47 ra (X.1.2 4 13)).toInt = v48.toInt := congrArg Int32.toInt ev48
              refine q_iast E hC47 hS47 g2 (by decide) rfl rfl (i_in (a := ((v34.toInt * 6) + v27.toInt)) ev37i (by omega) (by omega)) tv_F dX10_takeHeap_146 (fun H51 locs51 hC51 hS51 U51 => ?_)
              have hKp51 := Kp.upA g2 rfl (by decide) rfl U51 hKp47
              have cu := cu.ne U51 g2 (by decide)
              have ys := ys.ne U51 gyt gyy g2 (by decide)
              refine lv_iconst (v := 1) hx hb dX10_takeHeap_147 rfl ?_
              have hyes : ∃ (S1 : YSt) (i1 : Nat), gHeap kd vl bfi 1 a5 S i S1 i1 ∧ CU X Γ H51 ra kd vl N i1 ∧ YSC X Γ H51 h0 h1 vl S1 := ⟨_, _, ⟨⟨x1, x2, by omega⟩, ⟨y1, y2, by omega⟩, by omega, wb, wl, rfl, rfl⟩, cu, ys⟩
              exact ret 1 H51 locs51 _ _ dX10_takeHeap_148 (Or.inr rfl) ⟨hKp51, Or.inl ⟨rfl, hyes⟩⟩ hC51 hS51
            · refine q_if_ne hx hb (a := 0) (by decide) (tgt := 131) dX10_takeHeap_126 rfl (fun c52 => absurd c52 (by omega)) (fun c52 => ?_)
              refine lv_iconst (v := 0) hx hb dX10_takeHeap_129 rfl ?_
              have hno : ∀ (S1 : YSt) (i1 : Nat), ¬ gHeap kd vl bfi 1 a5 S i S1 i1 := fun S1 i1 q => by obtain ⟨q1, q2, q3, q4, q5, -, -⟩ := q; first | omega | exact wx ⟨q1.1, q1.2.1, by have := q1.2.2; omega⟩ | exact wy ⟨q2.1, q2.2.1, (show vl (i + 2) ≤ _ by have := q2.2.2; omega)⟩ | exact wb q4 | exact wl q5
              exact ret 0 H45 locs45 _ _ dX10_takeHeap_130 (Or.inl rfl) ⟨hKp45, Or.inr ⟨rfl, hno⟩⟩ hC45 hS45
          · refine q_if_eq hx hb (a := 0) (by decide) (tgt := 129) dX10_takeHeap_113 rfl (fun c53 => ?_) (fun c53 => absurd c53 (by omega))
            refine lv_iconst (v := 0) hx hb dX10_takeHeap_129 rfl ?_
            have hno : ∀ (S1 : YSt) (i1 : Nat), ¬ gHeap kd vl bfi 1 a5 S i S1 i1 := fun S1 i1 q => by obtain ⟨q1, q2, q3, q4, q5, -, -⟩ := q; first | omega | exact wx ⟨q1.1, q1.2.1, by have := q1.2.2; omega⟩ | exact wy ⟨q2.1, q2.2.1, (show vl (i + 2) ≤ _ by have := q2.2.2; omega)⟩ | exact wb q4 | exact wl q5
            exact ret 0 H43 locs43 _ _ dX10_takeHeap_130 (Or.inl rfl) ⟨hKp43, Or.inr ⟨rfl, hno⟩⟩ hC43 hS43
        · refine lv_aload_n hx hb dX10_takeHeap_88 rfl (lv_at hl 2 rfl) ?_
          refine q_getU E hC32 g0 fa_RX10_21 ur dX10_takeHeap_89 ?_
          refine lv_iconst (v := 5) hx hb dX10_takeHeap_92 rfl ?_
          refine lv_aload_n hx hb dX10_takeHeap_93 rfl (lv_at hl 2 rfl) ?_
          refine q_getU E hC32 g0 fa_RX10_21 ur dX10_takeHeap_94 ?_
          refine q_getI E hC32 gra fa_RX10_86 dX10_takeHeap_97 (fun v54 ev54 _ _ => ?_)
          have m55 : (sI H32 ra (X.1.2 4 14)).toInt = v54.toInt := congrArg Int32.toInt ev54
          refine q_goI (q_runV (As := [.int 5, .int v54]) (rest := []) E hC32 hS39 (m_X4_fail l X Γ H32 hC32 ra gra 5 (a1 := 5) (by decide) v54 (a2 := v54.toInt) rfl) cw_X4_fail cl_RX10_89 gra ⟨rfl, rfl⟩ rfl hl.1 rfl (Nat.zero_le _) (by decide) dX10_takeHeap_100) hS39 (fun v56 H56 locs56 hr56 hC56 hS56 => ?_)
          obtain ⟨hp56, hr56⟩ := hr56
          have hKp56 := hKp32.tr (hp56.mono rfl)
          have cu := cu.kp hp56 rfl rfl
          have ys := ys.kp hp56 gyt gyy rfl
          rcases hr56 with ⟨rfl, f56a⟩ | ⟨rfl, -⟩
          · exact absurd f56a (by decide)
          · have hno : ∀ (S1 : YSt) (i1 : Nat), ¬ gHeap kd vl bfi 1 a5 S i S1 i1 := fun S1 i1 q => by obtain ⟨q1, q2, q3, q4, q5, -, -⟩ := q; first | omega | exact wx ⟨q1.1, q1.2.1, by have := q1.2.2; omega⟩ | exact wy ⟨q2.1, q2.2.1, (show vl (i + 2) ≤ _ by have := q2.2.2; omega)⟩ | exact wb q4 | exact wl q5
            exact ret 0 H56 locs56 _ _ dX10_takeHeap_103 (Or.inl rfl) ⟨hKp56, Or.inr ⟨rfl, hno⟩⟩ hC56 hS56
      · refine q_if_eq hx hb (a := 0) (by decide) (tgt := 88) dX10_takeHeap_78 rfl (fun c57 => ?_) (fun c57 => absurd c57 (by omega))
        refine lv_aload_n hx hb dX10_takeHeap_88 rfl (lv_at hl 2 rfl) ?_
        refine q_getU E hC32 g0 fa_RX10_21 ur dX10_takeHeap_89 ?_
        refine lv_iconst (v := 5) hx hb dX10_takeHeap_92 rfl ?_
        refine lv_aload_n hx hb dX10_takeHeap_93 rfl (lv_at hl 2 rfl) ?_
        refine q_getU E hC32 g0 fa_RX10_21 ur dX10_takeHeap_94 ?_
        refine q_getI E hC32 gra fa_RX10_86 dX10_takeHeap_97 (fun v58 ev58 _ _ => ?_)
        have m59 : (sI H32 ra (X.1.2 4 14)).toInt = v58.toInt := congrArg Int32.toInt ev58
        refine q_goI (q_runV (As := [.int 5, .int v58]) (rest := []) E hC32 hS39 (m_X4_fail l X Γ H32 hC32 ra gra 5 (a1 := 5) (by decide) v58 (a2 := v58.toInt) rfl) cw_X4_fail cl_RX10_89 gra ⟨rfl, rfl⟩ rfl hl.1 rfl (Nat.zero_le _) (by decide) dX10_takeHeap_100) hS39 (fun v60 H60 locs60 hr60 hC60 hS60 => ?_)
        obtain ⟨hp60, hr60⟩ := hr60
        have hKp60 := hKp32.tr (hp60.mono rfl)
        have cu := cu.kp hp60 rfl rfl
        have ys := ys.kp hp60 gyt gyy rfl
        rcases hr60 with ⟨rfl, f60a⟩ | ⟨rfl, -⟩
        · exact absurd f60a (by decide)
        · have hno : ∀ (S1 : YSt) (i1 : Nat), ¬ gHeap kd vl bfi 1 a5 S i S1 i1 := fun S1 i1 q => by obtain ⟨q1, q2, q3, q4, q5, -, -⟩ := q; first | omega | exact wx ⟨q1.1, q1.2.1, by have := q1.2.2; omega⟩ | exact wy ⟨q2.1, q2.2.1, (show vl (i + 2) ≤ _ by have := q2.2.2; omega)⟩ | exact wb q4 | exact wl q5
          exact ret 0 H60 locs60 _ _ dX10_takeHeap_103 (Or.inl rfl) ⟨hKp60, Or.inr ⟨rfl, hno⟩⟩ hC60 hS60
    · refine q_if_ne hx hb (a := 0) (by decide) (tgt := 54) dX10_takeHeap_49 rfl (fun c61 => absurd c61 (by omega)) (fun c61 => ?_)
      refine lv_iconst (v := 0) hx hb dX10_takeHeap_52 rfl ?_
      have hno : ∀ (S1 : YSt) (i1 : Nat), ¬ gHeap kd vl bfi 1 a5 S i S1 i1 := fun S1 i1 q => by obtain ⟨q1, q2, q3, q4, q5, -, -⟩ := q; first | omega | exact wx ⟨q1.1, q1.2.1, by have := q1.2.2; omega⟩ | exact wy ⟨q2.1, q2.2.1, (show vl (i + 2) ≤ _ by have := q2.2.2; omega)⟩ | exact wb q4 | exact wl q5
      exact ret 0 H32 locs32 _ _ dX10_takeHeap_53 (Or.inl rfl) ⟨hKp32, Or.inr ⟨rfl, hno⟩⟩ hC32 hS32
  · refine q_if_ne hx hb (a := 0) (by decide) (tgt := 26) dX10_takeHeap_21 rfl (fun c62 => absurd c62 (by omega)) (fun c62 => ?_)
    refine lv_iconst (v := 0) hx hb dX10_takeHeap_24 rfl ?_
    have hno : ∀ (S1 : YSt) (i1 : Nat), ¬ gHeap kd vl bfi 1 a5 S i S1 i1 := fun S1 i1 q => by obtain ⟨q1, q2, q3, q4, q5, -, -⟩ := q; first | omega | exact wx ⟨q1.1, q1.2.1, by have := q1.2.2; omega⟩ | exact wy ⟨q2.1, q2.2.1, (show vl (i + 2) ≤ _ by have := q2.2.2; omega)⟩ | exact wb q4 | exact wl q5
    exact ret 0 H25 locs25 _ _ dX10_takeHeap_25 (Or.inl rfl) ⟨hKp25, Or.inr ⟨rfl, hno⟩⟩ hC25 hS25
set_option maxRecDepth 100000 in
set_option maxHeartbeats 4000000 in
theorem m_X10_takeHeap_77 (l : Launch) (X : xW) (Γ : Nat → Option Nat) (H0 : Heap) (hC0 : Conf X Γ H0) (h0 : Nat) (g0 : Γ h0 = some 3) (h1 : Nat) (g1 : Γ h1 = some 5) (h2 : Nat) (g2 : Γ h2 = some 36) (h3 : Nat) (g3 : Γ h3 = some 77) (o4 : Option Nat) (g4 : ∀ q, o4 = some q → Γ q = some 12) (p5 : Int32) {a5 : Int} (e5 : p5.toInt = a5) (ra : Nat) (gra : Γ ra = some 2) (ur : ∀ a, Γ a = some 2 → a = ra) (kd vl : Nat → Int) (N i : Nat) (S : YSt) (cu : CU X Γ H0 ra kd vl N i) (ys : YSC X Γ H0 h0 h1 vl S) (bfi : Nat) (hbf : bfi < 29) (ho : o4 = some (wad X bfi)) (htl : sR H0 h0 (X.1.2 9 3) = some h3) (r0 : kd i = 2) : Ctr l X Γ yX10_takeHeap cX10_takeHeap 8 (some .boolean) 3 [.ref h0, .ref h1, .ref h2, .ref h3, va_rf o4, .int p5] H0 (QI X Γ (fun v H1 => Kp X Γ [0, 2, 3, 4, 5, 18, 21, 23, 25, 27, 29, 31, 37, 39, 40, 41] H0 H1 ∧ ((v = 1 ∧ (∃ (S1 : YSt) (i1 : Nat), gHeap kd vl bfi 2 a5 S i S1 i1 ∧ CU X Γ H1 ra kd vl N i1 ∧ YSC X Γ H1 h0 h1 vl S1)) ∨ (v = 0 ∧ (∀ (S1 : YSt) (i1 : Nat), ¬ gHeap kd vl bfi 2 a5 S i S1 i1))))) := by
  refine q_enterZ (own := "SnowForts$YardText") (by decide) rfl (by cases o4 <;> exact Nat.le_of_ble_eq_true rfl) ?_
  intro p e s m args below meth c ls Qz E hl ret hS0
  have hx := E.1; have hb := E.2.1
  have hKp0 : Kp X Γ [0, 2, 3, 4, 5, 18, 21, 23, 25, 27, 29, 31, 37, 39, 40, 41] H0 H0 := Kp.rf
  have hl : lv_has ls 8 [(0, .ref h0), (1, .ref h1), (2, .ref h2), (3, .ref h3), (4, va_rf o4), (5, .int p5)] := by revert hl; cases o4 <;> exact fun h => h
  have yw := ys.1; have yh := ys.2.1; have yn := ys.2.2.1; have yb := ys.2.2.2.1
  have gry := cu.g; have gyt := g0; have gyy := g1
  refine lv_aload_n hx hb dX10_takeHeap_0 rfl (lv_at hl 0 rfl) ?_
  refine q_getU E hC0 g0 fa_RX10_21 ur dX10_takeHeap_1 ?_
  refine q_goV (q_runV (As := []) (rest := []) E hC0 hS0 (m_X4_advance l X Γ H0 hC0 ra gra) cw_X4_advance cl_RX10_154 gra ⟨rfl, rfl⟩ rfl hl.1 rfl (Nat.zero_le _) (by decide) dX10_takeHeap_4) hS0 (fun H21 locs21 hr21 hC21 hS21 => ?_)
  obtain ⟨hp21, hr21⟩ := hr21
  have hKp21 := hKp0.tr (hp21.mono rfl)
  have ys := ys.kp hp21 gyt gyy rfl
  have f21_0 := hr21
  have cu := cu.next (by omega) hp21 rfl f21_0
  refine lv_aload_n hx hb dX10_takeHeap_7 rfl (lv_at hl 0 rfl) ?_
  refine q_getU E hC21 g0 fa_RX10_21 ur dX10_takeHeap_8 ?_
  refine lv_iconst (v := 0) hx hb dX10_takeHeap_11 rfl ?_
  have yw := ys.1; have yh := ys.2.1; have yn := ys.2.2.1; have yb := ys.2.2.2.1
  refine lv_aload_n hx hb dX10_takeHeap_12 rfl (lv_at hl 1 rfl) ?_
  refine q_getI E hC21 g1 fa_RX10_92 dX10_takeHeap_13 (fun v22 ev22 _ _ => ?_)
  have m23 : (sI H21 h1 (X.1.2 8 0)).toInt = v22.toInt := congrArg Int32.toInt ev22
  refine lv_iconst (v := 1) hx hb dX10_takeHeap_16 rfl ?_
  refine lv_isub hx hb dX10_takeHeap_17 (lv_topi (fun v24 ev24 => ?_))
  have ev24i : v24.toInt = (v22.toInt - 1) := i_sub ev24 rfl (by decide) (by omega) (by omega)
  refine q_goI (q_runV (As := [.int 0, .int v24]) (rest := []) E hC21 hS21 (m_X4_takeNumber l X Γ H21 hC21 ra gra 0 (a1 := 0) (by decide) v24 (a2 := (v22.toInt - 1)) ev24i) cw_X4_takeNumber cl_RX10_79 gra ⟨rfl, rfl⟩ rfl hl.1 rfl (Nat.zero_le _) (by decide) dX10_takeHeap_18) hS21 (fun v25 H25 locs25 hr25 hC25 hS25 => ?_)
  obtain ⟨hp25, hr25⟩ := hr25
  have hKp25 := hKp21.tr (hp25.mono rfl)
  have ys := ys.kp hp25 gyt gyy rfl
  rcases hr25.2 kd vl N (i + 1) cu with ⟨rfl, ⟨x1, x2, x3⟩, nx, cu⟩ | ⟨rfl, wx⟩
  · refine q_if_ne hx hb (a := 1) (by decide) (tgt := 26) dX10_takeHeap_21 rfl (fun c26 => ?_) (fun c26 => absurd c26 (by omega))
    refine lv_aload_n hx hb dX10_takeHeap_26 rfl (lv_at hl 0 rfl) ?_
    refine q_getU E hC25 g0 fa_RX10_21 ur dX10_takeHeap_27 ?_
    refine q_getI E hC25 gra fa_RX10_83 dX10_takeHeap_30 (fun v27 ev27 _ _ => ?_)
    have m28 : (sI H25 ra (X.1.2 4 13)).toInt = v27.toInt := congrArg Int32.toInt ev27
    refine lv_istore hx hb dX10_takeHeap_33 hl (by decide) rfl (fun ls hl => ?_)
    have hl : lv_has ls 8 [(6, .int v27), (0, .ref h0), (1, .ref h1), (2, .ref h2), (3, .ref h3), (4, va_rf o4), (5, .int p5)] := hl
    refine lv_aload_n hx hb dX10_takeHeap_35 rfl (lv_at hl 1 rfl) ?_
    refine q_getU E hC25 g0 fa_RX10_21 ur dX10_takeHeap_36 ?_
    refine lv_iconst (v := 0) hx hb dX10_takeHeap_39 rfl ?_
    have yw := ys.1; have yh := ys.2.1; have yn := ys.2.2.1; have yb := ys.2.2.2.1
    refine lv_aload_n hx hb dX10_takeHeap_40 rfl (lv_at hl 2 rfl) ?_
    refine q_getI E hC25 g1 fa_RX10_98 dX10_takeHeap_41 (fun v29 ev29 _ _ => ?_)
    have m30 : (sI H25 h1 (X.1.2 8 1)).toInt = v29.toInt := congrArg Int32.toInt ev29
    refine lv_iconst (v := 1) hx hb dX10_takeHeap_44 rfl ?_
    refine lv_isub hx hb dX10_takeHeap_45 (lv_topi (fun v31 ev31 => ?_))
    have ev31i : v31.toInt = (v29.toInt - 1) := i_sub ev31 rfl (by decide) (by omega) (by omega)
    refine q_goI (q_runV (As := [.int 0, .int v31]) (rest := []) E hC25 hS25 (m_X4_takeNumber l X Γ H25 hC25 ra gra 0 (a1 := 0) (by decide) v31 (a2 := (v29.toInt - 1)) ev31i) cw_X4_takeNumber cl_RX10_79 gra ⟨rfl, rfl⟩ rfl hl.1 rfl (Nat.zero_le _) (by decide) dX10_takeHeap_46) hS25 (fun v32 H32 locs32 hr32 hC32 hS32 => ?_)
    obtain ⟨hp32, hr32⟩ := hr32
    have hKp32 := hKp25.tr (hp32.mono rfl)
    have ys := ys.kp hp32 gyt gyy rfl
    rcases hr32.2 kd vl N (i + 2) cu with ⟨rfl, ⟨y1, y2, y3⟩, ny, cu⟩ | ⟨rfl, wy⟩
    · refine q_if_ne hx hb (a := 1) (by decide) (tgt := 54) dX10_takeHeap_49 rfl (fun c33 => ?_) (fun c33 => absurd c33 (by omega))
      refine lv_aload_n hx hb dX10_takeHeap_54 rfl (lv_at hl 1 rfl) ?_
      refine q_getU E hC32 g0 fa_RX10_21 ur dX10_takeHeap_55 ?_
      refine q_getI E hC32 gra fa_RX10_83 dX10_takeHeap_58 (fun v34 ev34 _ _ => ?_)
      have m35 : (sI H32 ra (X.1.2 4 13)).toInt = v34.toInt := congrArg Int32.toInt ev34
      refine lv_bipush (v := 6) hx hb dX10_takeHeap_61 rfl ?_
      refine lv_imul hx hb dX10_takeHeap_63 (lv_topi (fun v36 ev36 => ?_))
      have ev36i : v36.toInt = (v34.toInt * 6) := i_mul ev36 rfl (by decide) (by omega) (by omega)
      refine lv_iload hx hb dX10_takeHeap_64 (lv_at hl 0 rfl) ?_
      refine lv_iadd hx hb dX10_takeHeap_66 (lv_topi (fun v37 ev37 => ?_))
      have ev37i : v37.toInt = ((v34.toInt * 6) + v27.toInt) := i_add ev37 ev36i rfl (by omega) (by omega)
      refine lv_istore hx hb dX10_takeHeap_67 hl (by decide) rfl (fun ls hl => ?_)
      have hl : lv_has ls 8 [(7, .int v37), (6, .int v27), (0, .ref h0), (1, .ref h1), (2, .ref h2), (3, .ref h3), (4, va_rf o4), (5, .int p5)] := hl
      refine lv_iload hx hb dX10_takeHeap_69 (lv_at hl 0 rfl) ?_
      refine lv_i2l (v := v37.toInt64) hx hb dX10_takeHeap_71 rfl (lv_topl (fun v38 ev38 => ?_))
      have ev38i : v38.toInt = ((v34.toInt * 6) + v27.toInt) := l_ofi ev38.symm ev37i
      refine lv_iconst (v := 0) hx hb dX10_takeHeap_72 rfl ?_
      refine lv_bipush (v := 35) hx hb dX10_takeHeap_73 rfl ?_
      refine q_goIp (q_runSN (As := [.long v38, .int 0, .int 35]) (rest := []) E hS32 (m_X11_isWithin l X Γ H32 hC32 v38 (a0 := ((v34.toInt * 6) + v27.toInt)) ev38i 0 (a1 := 0) (by decide) 35 (a2 := 35) (by decide)) cw_X11_isWithin cl_RX10_147 rfl hl.1 rfl (Nat.zero_le _) (by decide) dX10_takeHeap_75) hS32 (fun v39 locs39 hr39 hS39 => ?_)
      rcases hr39 with ⟨rfl, f39a0, f39a1⟩ | ⟨rfl, f39b⟩
      · refine q_if_eq hx hb (a := 1) (by decide) (tgt := 88) dX10_takeHeap_78 rfl (fun c40 => absurd c40 (by omega)) (fun c40 => ?_)
        refine lv_aload_n hx hb dX10_takeHeap_81 rfl (lv_at hl 5 rfl) ?_
        refine lv_iload hx hb dX10_takeHeap_82 (lv_at hl 0 rfl) ?_
        refine q_iald E hC32 g3 rfl rfl (fun _ h => h) (i_in (a := ((v34.toInt * 6) + v27.toInt)) ev37i (by omega) (by omega)) dX10_takeHeap_84 (fun v41 ev41 _ _ => ?_)
        have htc : v41.toInt = S.2.2.2.2.1 2 (6 * vl (i + 2) + vl (i + 1)) := by rw [← ev41, i_ix ev37i, show (((v34.toInt * 6) + v27.toInt) : Int) = 6 * vl (i + 2) + vl (i + 1) by omega]; exact ys.cell (f := 3) (kk := 77) (by decide) ((kp_R hKp32 gyt (ci := 9) (k := 3) rfl (by decide) rfl).trans htl) (by omega) (by omega)
        refine q_if_eq hx hb (a := v41.toInt) rfl (tgt := 104) dX10_takeHeap_85 rfl (fun c42 => ?_) (fun c42 => ?_)
        · refine lv_aload_n hx hb dX10_takeHeap_104 rfl (lv_at hl 2 rfl) ?_
          refine q_getU E hC32 g0 fa_RX10_21 ur dX10_takeHeap_105 ?_
          refine q_alq (o := o4) hx hb dX10_takeHeap_108 (lv_at hl 6 rfl) ?_
          refine q_goI (q_runV (As := [va_rf o4]) (rest := []) E hC32 hS39 (m_X4_take l X Γ H32 hC32 ra gra o4 g4) cw_X4_take cl_RX10_75 gra ⟨rfl, rfl⟩ rfl hl.1 rfl (Nat.zero_le _) (by decide) dX10_takeHeap_110) hS39 (fun v43 H43 locs43 hr43 hC43 hS43 => ?_)
          obtain ⟨hp43, hr43⟩ := hr43
          have hKp43 := hKp32.tr (hp43.mono rfl)
          have ys := ys.kp hp43 gyt gyy rfl
          rcases hr43.2 kd vl N (i + 3) cu bfi hbf ho with ⟨rfl, wb, cu⟩ | ⟨rfl, wb⟩
          · refine q_if_eq hx hb (a := 1) (by decide) (tgt := 129) dX10_takeHeap_113 rfl (fun c44 => absurd c44 (by omega)) (fun c44 => ?_)
            refine lv_aload_n hx hb dX10_takeHeap_116 rfl (lv_at hl 2 rfl) ?_
            refine q_getU E hC43 g0 fa_RX10_21 ur dX10_takeHeap_117 ?_
            refine lv_iconst (v := 0) hx hb dX10_takeHeap_120 rfl ?_
            refine lv_iload hx hb dX10_takeHeap_121 (lv_at hl 7 rfl) ?_
            refine q_goI (q_runV (As := [.int 0, .int p5]) (rest := []) E hC43 hS43 (m_X4_takeNumber l X Γ H43 hC43 ra gra 0 (a1 := 0) (by decide) p5 (a2 := a5) e5) cw_X4_takeNumber cl_RX10_79 gra ⟨rfl, rfl⟩ rfl hl.1 rfl (Nat.zero_le _) (by decide) dX10_takeHeap_123) hS43 (fun v45 H45 locs45 hr45 hC45 hS45 => ?_)
            obtain ⟨hp45, hr45⟩ := hr45
            have hKp45 := hKp43.tr (hp45.mono rfl)
            have ys := ys.kp hp45 gyt gyy rfl
            rcases hr45.2 kd vl N (i + 4) cu with ⟨rfl, wl, nl, cu⟩ | ⟨rfl, wl⟩
            · refine q_if_ne hx hb (a := 1) (by decide) (tgt := 131) dX10_takeHeap_126 rfl (fun c46 => ?_) (fun c46 => absurd c46 (by omega))
              have htq := ((kp_R hKp45 gyt (ci := 9) (k := 3) rfl (by decide) rfl).trans htl)
              refine lv_aload_n hx hb dX10_takeHeap_131 rfl (lv_at hl 5 rfl) ?_
              refine lv_iload hx hb dX10_takeHeap_132 (lv_at hl 0 rfl) ?_
              refine lv_iconst (v := 1) hx hb dX10_takeHeap_134 rfl ?_
              refine q_iast E hC45 hS45 g3 (by decide) rfl rfl (i_in (a := ((v34.toInt * 6) + v27.toInt)) ev37i (by omega) (by omega)) tv_F dX10_takeHeap_135 (fun H47 locs47 hC47 hS47 U47 => ?_)
              have hKp47 := Kp.upA g3 rfl (by decide) rfl U47 hKp45
              have cu := cu.ne U47 g3 (by decide)
              have ys := ys.told (f := 3) (kk := 77) U47 gyt gyy (w := 2) (z := 6 * vl (i + 2) + vl (i + 1)) (by decide) htq g3 (by rw [i_ix ev37i]; omega) (by decide)
              refine lv_aload_n hx hb dX10_takeHeap_136 rfl (lv_at hl 4 rfl) ?_
              refine lv_iload hx hb dX10_takeHeap_137 (lv_at hl 0 rfl) ?_
              refine lv_aload_n hx hb dX10_takeHeap_139 rfl (lv_at hl 2 rfl) ?_
              refine q_getU E hC47 g0 fa_RX10_21 ur dX10_takeHeap_140 ?_
              have e49 := (kp_I hp43 gra (k := 13) rfl (by decide) rfl).trans ev34
              refine q_getI E hC47 gra fa_RX10_83 dX10_takeHeap_143 (fun v48 ev48 _ _ => ?_)
              have m50 : (sI H47 ra (X.1.2 4 13)).toInt = v48.toInt := congrArg Int32.toInt ev48
              refine q_iast E hC47 hS47 g2 (by decide) rfl rfl (i_in (a := ((v34.toInt * 6) + v27.toInt)) ev37i (by omega) (by omega)) tv_F dX10_takeHeap_146 (fun H51 locs51 hC51 hS51 U51 => ?_)
              have hKp51 := Kp.upA g2 rfl (by decide) rfl U51 hKp47
              have cu := cu.ne U51 g2 (by decide)
              have ys := ys.ne U51 gyt gyy g2 (by decide)
              refine lv_iconst (v := 1) hx hb dX10_takeHeap_147 rfl ?_
              have hyes : ∃ (S1 : YSt) (i1 : Nat), gHeap kd vl bfi 2 a5 S i S1 i1 ∧ CU X Γ H51 ra kd vl N i1 ∧ YSC X Γ H51 h0 h1 vl S1 := ⟨_, _, ⟨⟨x1, x2, by omega⟩, ⟨y1, y2, by omega⟩, by omega, wb, wl, rfl, rfl⟩, cu, ys⟩
              exact ret 1 H51 locs51 _ _ dX10_takeHeap_148 (Or.inr rfl) ⟨hKp51, Or.inl ⟨rfl, hyes⟩⟩ hC51 hS51
            · refine q_if_ne hx hb (a := 0) (by decide) (tgt := 131) dX10_takeHeap_126 rfl (fun c52 => absurd c52 (by omega)) (fun c52 => ?_)
              refine lv_iconst (v := 0) hx hb dX10_takeHeap_129 rfl ?_
              have hno : ∀ (S1 : YSt) (i1 : Nat), ¬ gHeap kd vl bfi 2 a5 S i S1 i1 := fun S1 i1 q => by obtain ⟨q1, q2, q3, q4, q5, -, -⟩ := q; first | omega | exact wx ⟨q1.1, q1.2.1, by have := q1.2.2; omega⟩ | exact wy ⟨q2.1, q2.2.1, (show vl (i + 2) ≤ _ by have := q2.2.2; omega)⟩ | exact wb q4 | exact wl q5
              exact ret 0 H45 locs45 _ _ dX10_takeHeap_130 (Or.inl rfl) ⟨hKp45, Or.inr ⟨rfl, hno⟩⟩ hC45 hS45
          · refine q_if_eq hx hb (a := 0) (by decide) (tgt := 129) dX10_takeHeap_113 rfl (fun c53 => ?_) (fun c53 => absurd c53 (by omega))
            refine lv_iconst (v := 0) hx hb dX10_takeHeap_129 rfl ?_
            have hno : ∀ (S1 : YSt) (i1 : Nat), ¬ gHeap kd vl bfi 2 a5 S i S1 i1 := fun S1 i1 q => by obtain ⟨q1, q2, q3, q4, q5, -, -⟩ := q; first | omega | exact wx ⟨q1.1, q1.2.1, by have := q1.2.2; omega⟩ | exact wy ⟨q2.1, q2.2.1, (show vl (i + 2) ≤ _ by have := q2.2.2; omega)⟩ | exact wb q4 | exact wl q5
            exact ret 0 H43 locs43 _ _ dX10_takeHeap_130 (Or.inl rfl) ⟨hKp43, Or.inr ⟨rfl, hno⟩⟩ hC43 hS43
        · refine lv_aload_n hx hb dX10_takeHeap_88 rfl (lv_at hl 2 rfl) ?_
          refine q_getU E hC32 g0 fa_RX10_21 ur dX10_takeHeap_89 ?_
          refine lv_iconst (v := 5) hx hb dX10_takeHeap_92 rfl ?_
          refine lv_aload_n hx hb dX10_takeHeap_93 rfl (lv_at hl 2 rfl) ?_
          refine q_getU E hC32 g0 fa_RX10_21 ur dX10_takeHeap_94 ?_
          refine q_getI E hC32 gra fa_RX10_86 dX10_takeHeap_97 (fun v54 ev54 _ _ => ?_)
          have m55 : (sI H32 ra (X.1.2 4 14)).toInt = v54.toInt := congrArg Int32.toInt ev54
          refine q_goI (q_runV (As := [.int 5, .int v54]) (rest := []) E hC32 hS39 (m_X4_fail l X Γ H32 hC32 ra gra 5 (a1 := 5) (by decide) v54 (a2 := v54.toInt) rfl) cw_X4_fail cl_RX10_89 gra ⟨rfl, rfl⟩ rfl hl.1 rfl (Nat.zero_le _) (by decide) dX10_takeHeap_100) hS39 (fun v56 H56 locs56 hr56 hC56 hS56 => ?_)
          obtain ⟨hp56, hr56⟩ := hr56
          have hKp56 := hKp32.tr (hp56.mono rfl)
          have cu := cu.kp hp56 rfl rfl
          have ys := ys.kp hp56 gyt gyy rfl
          rcases hr56 with ⟨rfl, f56a⟩ | ⟨rfl, -⟩
          · exact absurd f56a (by decide)
          · have hno : ∀ (S1 : YSt) (i1 : Nat), ¬ gHeap kd vl bfi 2 a5 S i S1 i1 := fun S1 i1 q => by obtain ⟨q1, q2, q3, q4, q5, -, -⟩ := q; first | omega | exact wx ⟨q1.1, q1.2.1, by have := q1.2.2; omega⟩ | exact wy ⟨q2.1, q2.2.1, (show vl (i + 2) ≤ _ by have := q2.2.2; omega)⟩ | exact wb q4 | exact wl q5
            exact ret 0 H56 locs56 _ _ dX10_takeHeap_103 (Or.inl rfl) ⟨hKp56, Or.inr ⟨rfl, hno⟩⟩ hC56 hS56
      · refine q_if_eq hx hb (a := 0) (by decide) (tgt := 88) dX10_takeHeap_78 rfl (fun c57 => ?_) (fun c57 => absurd c57 (by omega))
        refine lv_aload_n hx hb dX10_takeHeap_88 rfl (lv_at hl 2 rfl) ?_
        refine q_getU E hC32 g0 fa_RX10_21 ur dX10_takeHeap_89 ?_
        refine lv_iconst (v := 5) hx hb dX10_takeHeap_92 rfl ?_
        refine lv_aload_n hx hb dX10_takeHeap_93 rfl (lv_at hl 2 rfl) ?_
        refine q_getU E hC32 g0 fa_RX10_21 ur dX10_takeHeap_94 ?_
        refine q_getI E hC32 gra fa_RX10_86 dX10_takeHeap_97 (fun v58 ev58 _ _ => ?_)
        have m59 : (sI H32 ra (X.1.2 4 14)).toInt = v58.toInt := congrArg Int32.toInt ev58
        refine q_goI (q_runV (As := [.int 5, .int v58]) (rest := []) E hC32 hS39 (m_X4_fail l X Γ H32 hC32 ra gra 5 (a1 := 5) (by decide) v58 (a2 := v58.toInt) rfl) cw_X4_fail cl_RX10_89 gra ⟨rfl, rfl⟩ rfl hl.1 rfl (Nat.zero_le _) (by decide) dX10_takeHeap_100) hS39 (fun v60 H60 locs60 hr60 hC60 hS60 => ?_)
        obtain ⟨hp60, hr60⟩ := hr60
        have hKp60 := hKp32.tr (hp60.mono rfl)
        have cu := cu.kp hp60 rfl rfl
        have ys := ys.kp hp60 gyt gyy rfl
        rcases hr60 with ⟨rfl, f60a⟩ | ⟨rfl, -⟩
        · exact absurd f60a (by decide)
        · have hno : ∀ (S1 : YSt) (i1 : Nat), ¬ gHeap kd vl bfi 2 a5 S i S1 i1 := fun S1 i1 q => by obtain ⟨q1, q2, q3, q4, q5, -, -⟩ := q; first | omega | exact wx ⟨q1.1, q1.2.1, by have := q1.2.2; omega⟩ | exact wy ⟨q2.1, q2.2.1, (show vl (i + 2) ≤ _ by have := q2.2.2; omega)⟩ | exact wb q4 | exact wl q5
          exact ret 0 H60 locs60 _ _ dX10_takeHeap_103 (Or.inl rfl) ⟨hKp60, Or.inr ⟨rfl, hno⟩⟩ hC60 hS60
    · refine q_if_ne hx hb (a := 0) (by decide) (tgt := 54) dX10_takeHeap_49 rfl (fun c61 => absurd c61 (by omega)) (fun c61 => ?_)
      refine lv_iconst (v := 0) hx hb dX10_takeHeap_52 rfl ?_
      have hno : ∀ (S1 : YSt) (i1 : Nat), ¬ gHeap kd vl bfi 2 a5 S i S1 i1 := fun S1 i1 q => by obtain ⟨q1, q2, q3, q4, q5, -, -⟩ := q; first | omega | exact wx ⟨q1.1, q1.2.1, by have := q1.2.2; omega⟩ | exact wy ⟨q2.1, q2.2.1, (show vl (i + 2) ≤ _ by have := q2.2.2; omega)⟩ | exact wb q4 | exact wl q5
      exact ret 0 H32 locs32 _ _ dX10_takeHeap_53 (Or.inl rfl) ⟨hKp32, Or.inr ⟨rfl, hno⟩⟩ hC32 hS32
  · refine q_if_ne hx hb (a := 0) (by decide) (tgt := 26) dX10_takeHeap_21 rfl (fun c62 => absurd c62 (by omega)) (fun c62 => ?_)
    refine lv_iconst (v := 0) hx hb dX10_takeHeap_24 rfl ?_
    have hno : ∀ (S1 : YSt) (i1 : Nat), ¬ gHeap kd vl bfi 2 a5 S i S1 i1 := fun S1 i1 q => by obtain ⟨q1, q2, q3, q4, q5, -, -⟩ := q; first | omega | exact wx ⟨q1.1, q1.2.1, by have := q1.2.2; omega⟩ | exact wy ⟨q2.1, q2.2.1, (show vl (i + 2) ≤ _ by have := q2.2.2; omega)⟩ | exact wb q4 | exact wl q5
    exact ret 0 H25 locs25 _ _ dX10_takeHeap_25 (Or.inl rfl) ⟨hKp25, Or.inr ⟨rfl, hno⟩⟩ hC25 hS25
set_option maxRecDepth 100000 in
set_option maxHeartbeats 4000000 in
theorem m_X10_isNew (l : Launch) (X : xW) (Γ : Nat → Option Nat) (H0 : Heap) (hC0 : Conf X Γ H0) (h0 : Nat) (g0 : Γ h0 = some 3) (h1 : Nat) (g1 : Γ h1 = some 5) (p2 : Int32) {a2 : Int} (e2 : p2.toInt = a2) (ra : Nat) (gra : Γ ra = some 2) (ur : ∀ a, Γ a = some 2 → a = ra) (kd vl : Nat → Int) (N i : Nat) (S : YSt) (cu : CU X Γ H0 ra kd vl N i) (ys : YSC X Γ H0 h0 h1 vl S) (r0 : 0 ≤ a2) (r1 : a2 ≤ 3) : Ctr l X Γ yX10_isNew cX10_isNew 4 (some .boolean) 1 [.ref h0, .ref h1, .int p2] H0 (QI X Γ (fun v H1 => Kp X Γ [0, 2, 3, 4, 5, 18, 21, 23, 25, 27, 29, 31, 32, 33, 34, 37, 39, 40, 41] H0 H1 ∧ ((v = 1 ∧ (S.2.2.2.2.2 a2 = -1)) ∨ (v = 0 ∧ (S.2.2.2.2.2 a2 ≠ -1))))) := by
  refine q_enterZ (own := "SnowForts$YardText") (by decide) rfl (Nat.le_of_ble_eq_true rfl) ?_
  intro p e s m args below meth c ls Qz E hl ret hS0
  have hx := E.1; have hb := E.2.1
  have hKp0 : Kp X Γ [0, 2, 3, 4, 5, 18, 21, 23, 25, 27, 29, 31, 32, 33, 34, 37, 39, 40, 41] H0 H0 := Kp.rf
  have hl : lv_has ls 4 [(0, .ref h0), (1, .ref h1), (2, .int p2)] := hl
  have gry := cu.g; have gyt := g0; have gyy := g1
  refine lv_iload_n hx hb dX10_isNew_0 rfl (lv_at hl 2 rfl) ?_
  refine lv_i2l (v := p2.toInt64) hx hb dX10_isNew_1 rfl (lv_topl (fun v21 ev21 => ?_))
  have ev21i : v21.toInt = a2 := l_ofi ev21.symm e2
  refine lv_iconst (v := 0) hx hb dX10_isNew_2 rfl ?_
  refine lv_iconst (v := 3) hx hb dX10_isNew_3 rfl ?_
  refine q_goIp (q_runSN (As := [.long v21, .int 0, .int 3]) (rest := []) E hS0 (m_X11_isWithin l X Γ H0 hC0 v21 (a0 := a2) ev21i 0 (a1 := 0) (by decide) 3 (a2 := 3) (by decide)) cw_X11_isWithin cl_RX10_147 rfl hl.1 rfl (Nat.zero_le _) (by decide) dX10_isNew_4) hS0 (fun v22 locs22 hr22 hS22 => ?_)
  rcases hr22 with ⟨rfl, f22a0, f22a1⟩ | ⟨rfl, f22b⟩
  · refine q_if_eq hx hb (a := 1) (by decide) (tgt := 20) dX10_isNew_7 rfl (fun c23 => absurd c23 (by omega)) (fun c23 => ?_)
    refine lv_aload_n hx hb dX10_isNew_10 rfl (lv_at hl 1 rfl) ?_
    refine q_getR E hC0 g1 fa_RX10_200 dX10_isNew_11 (fun q24 eq24 gq24 => ?_)
    have hqa := eq24
    refine lv_iload_n hx hb dX10_isNew_14 rfl (lv_at hl 2 rfl) ?_
    refine q_iald E hC0 gq24 rfl rfl (fun _ h => h) (i_in (a := a2) e2 (by omega) (by omega)) dX10_isNew_15 (fun v25 ev25 _ _ => ?_)
    have hta : v25.toInt = S.2.2.2.2.2 a2 := by rw [← ev25, i_ix e2]; exact ys.article hqa (by omega) (by omega)
    refine lv_iconst (v := (-1)) hx hb dX10_isNew_16 rfl ?_
    refine q_icmp_eq hx hb (a := v25.toInt) (b := (-1)) rfl (by decide) (tgt := 24) dX10_isNew_17 rfl (fun c26 => ?_) (fun c26 => ?_)
    · refine lv_iconst (v := 0) hx hb dX10_isNew_24 rfl ?_
      refine lv_istore_n hx hb dX10_isNew_25 rfl hl (by decide) rfl (fun ls hl => ?_)
      have hl : lv_has ls 4 [(3, .int 0), (0, .ref h0), (1, .ref h1), (2, .int p2)] := hl
      refine lv_iload_n hx hb dX10_isNew_26 rfl (lv_at hl 0 rfl) ?_
      refine q_if_eq hx hb (a := 0) (by decide) (tgt := 48) dX10_isNew_27 rfl (fun c27 => ?_) (fun c27 => absurd c27 (by omega))
      refine lv_iconst (v := 1) hx hb dX10_isNew_48 rfl ?_
      refine lv_goto (tgt := 53) hx hb dX10_isNew_49 rfl ?_
      exact ret 1 H0 locs22 _ _ dX10_isNew_53 (Or.inr rfl) ⟨hKp0, Or.inl ⟨rfl, by omega⟩⟩ hC0 hS22
    · refine lv_iconst (v := 1) hx hb dX10_isNew_20 rfl ?_
      refine lv_goto (tgt := 25) hx hb dX10_isNew_21 rfl ?_
      refine lv_istore_n hx hb dX10_isNew_25 rfl hl (by decide) rfl (fun ls hl => ?_)
      have hl : lv_has ls 4 [(3, .int 1), (0, .ref h0), (1, .ref h1), (2, .int p2)] := hl
      refine lv_iload_n hx hb dX10_isNew_26 rfl (lv_at hl 0 rfl) ?_
      refine q_if_eq hx hb (a := 1) (by decide) (tgt := 48) dX10_isNew_27 rfl (fun c28 => absurd c28 (by omega)) (fun c28 => ?_)
      refine lv_aload_n hx hb dX10_isNew_30 rfl (lv_at hl 1 rfl) ?_
      refine q_getU E hC0 g0 fa_RX10_21 ur dX10_isNew_31 ?_
      refine lv_iconst (v := 5) hx hb dX10_isNew_34 rfl ?_
      refine lv_aload_n hx hb dX10_isNew_35 rfl (lv_at hl 1 rfl) ?_
      refine q_getU E hC0 g0 fa_RX10_21 ur dX10_isNew_36 ?_
      refine q_getI E hC0 gra fa_RX10_151 dX10_isNew_39 (fun v29 ev29 _ _ => ?_)
      have m30 : (sI H0 ra (X.1.2 4 10)).toInt = v29.toInt := congrArg Int32.toInt ev29
      refine q_goI (q_runV (As := [.int 5, .int v29]) (rest := []) E hC0 hS22 (m_X4_fail l X Γ H0 hC0 ra gra 5 (a1 := 5) (by decide) v29 (a2 := v29.toInt) rfl) cw_X4_fail cl_RX10_89 gra ⟨rfl, rfl⟩ rfl hl.1 rfl (Nat.zero_le _) (by decide) dX10_isNew_42) hS22 (fun v31 H31 locs31 hr31 hC31 hS31 => ?_)
      obtain ⟨hp31, hr31⟩ := hr31
      have hKp31 := hKp0.tr (hp31.mono rfl)
      have cu := cu.kp hp31 rfl rfl
      have ys := ys.kp hp31 gyt gyy rfl
      rcases hr31 with ⟨rfl, f31a⟩ | ⟨rfl, -⟩
      · exact absurd f31a (by decide)
      · refine q_if_eq hx hb (a := 0) (by decide) (tgt := 52) dX10_isNew_45 rfl (fun c32 => ?_) (fun c32 => absurd c32 (by omega))
        refine lv_iconst (v := 0) hx hb dX10_isNew_52 rfl ?_
        exact ret 0 H31 locs31 _ _ dX10_isNew_53 (Or.inl rfl) ⟨hKp31, Or.inr ⟨rfl, by omega⟩⟩ hC31 hS31
  · refine q_if_eq hx hb (a := 0) (by decide) (tgt := 20) dX10_isNew_7 rfl (fun c33 => ?_) (fun c33 => absurd c33 (by omega))
    refine lv_iconst (v := 1) hx hb dX10_isNew_20 rfl ?_
    refine lv_goto (tgt := 25) hx hb dX10_isNew_21 rfl ?_
    refine lv_istore_n hx hb dX10_isNew_25 rfl hl (by decide) rfl (fun ls hl => ?_)
    have hl : lv_has ls 4 [(3, .int 1), (0, .ref h0), (1, .ref h1), (2, .int p2)] := hl
    refine lv_iload_n hx hb dX10_isNew_26 rfl (lv_at hl 0 rfl) ?_
    refine q_if_eq hx hb (a := 1) (by decide) (tgt := 48) dX10_isNew_27 rfl (fun c34 => absurd c34 (by omega)) (fun c34 => ?_)
    refine lv_aload_n hx hb dX10_isNew_30 rfl (lv_at hl 1 rfl) ?_
    refine q_getU E hC0 g0 fa_RX10_21 ur dX10_isNew_31 ?_
    refine lv_iconst (v := 5) hx hb dX10_isNew_34 rfl ?_
    refine lv_aload_n hx hb dX10_isNew_35 rfl (lv_at hl 1 rfl) ?_
    refine q_getU E hC0 g0 fa_RX10_21 ur dX10_isNew_36 ?_
    refine q_getI E hC0 gra fa_RX10_151 dX10_isNew_39 (fun v35 ev35 _ _ => ?_)
    have m36 : (sI H0 ra (X.1.2 4 10)).toInt = v35.toInt := congrArg Int32.toInt ev35
    refine q_goI (q_runV (As := [.int 5, .int v35]) (rest := []) E hC0 hS22 (m_X4_fail l X Γ H0 hC0 ra gra 5 (a1 := 5) (by decide) v35 (a2 := v35.toInt) rfl) cw_X4_fail cl_RX10_89 gra ⟨rfl, rfl⟩ rfl hl.1 rfl (Nat.zero_le _) (by decide) dX10_isNew_42) hS22 (fun v37 H37 locs37 hr37 hC37 hS37 => ?_)
    obtain ⟨hp37, hr37⟩ := hr37
    have hKp37 := hKp0.tr (hp37.mono rfl)
    have cu := cu.kp hp37 rfl rfl
    have ys := ys.kp hp37 gyt gyy rfl
    rcases hr37 with ⟨rfl, f37a⟩ | ⟨rfl, -⟩
    · exact absurd f37a (by decide)
    · refine q_if_eq hx hb (a := 0) (by decide) (tgt := 52) dX10_isNew_45 rfl (fun c38 => ?_) (fun c38 => absurd c38 (by omega))
      refine lv_iconst (v := 0) hx hb dX10_isNew_52 rfl ?_
      exact ret 0 H37 locs37 _ _ dX10_isNew_53 (Or.inl rfl) ⟨hKp37, Or.inr ⟨rfl, by omega⟩⟩ hC37 hS37
set_option maxRecDepth 100000 in
set_option maxHeartbeats 4000000 in
theorem m_X10_takeLimit (l : Launch) (X : xW) (Γ : Nat → Option Nat) (H0 : Heap) (hC0 : Conf X Γ H0) (h0 : Nat) (g0 : Γ h0 = some 3) (h1 : Nat) (g1 : Γ h1 = some 5) (p2 : Int32) {a2 : Int} (e2 : p2.toInt = a2) (o3 : Option Nat) (g3 : ∀ q, o3 = some q → Γ q = some 12) (p4 : Int32) {a4 : Int} (e4 : p4.toInt = a4) (ra : Nat) (gra : Γ ra = some 2) (ur : ∀ a, Γ a = some 2 → a = ra) (kd vl : Nat → Int) (N i : Nat) (S : YSt) (cu : CU X Γ H0 ra kd vl N i) (ys : YSC X Γ H0 h0 h1 vl S) (bfi : Nat) (hbf : bfi < 29) (ho : o3 = some (wad X bfi)) (r0 : kd i = 2) (r1 : 0 ≤ a2) (r2 : a2 ≤ 3) : Ctr l X Γ yX10_takeLimit cX10_takeLimit 5 (some .boolean) 3 [.ref h0, .ref h1, .int p2, va_rf o3, .int p4] H0 (QI X Γ (fun v H1 => Kp X Γ [0, 2, 3, 4, 5, 18, 21, 23, 25, 27, 29, 31, 37, 39, 41] H0 H1 ∧ ((v = 1 ∧ (∃ (S1 : YSt) (i1 : Nat), gLim kd vl bfi a2 a4 S i S1 i1 ∧ CU X Γ H1 ra kd vl N i1 ∧ YSC X Γ H1 h0 h1 vl S1 ∧ AKY X Γ H0 H1 h1)) ∨ (v = 0 ∧ ((∀ (S1 : YSt) (i1 : Nat), ¬ gLim kd vl bfi a2 a4 S i S1 i1) ∧ AKY X Γ H0 H1 h1))))) := by
  refine q_enterZ (own := "SnowForts$YardText") (by decide) rfl (by cases o3 <;> exact Nat.le_of_ble_eq_true rfl) ?_
  intro p e s m args below meth c ls Qz E hl ret hS0
  have hx := E.1; have hb := E.2.1
  have hKp0 : Kp X Γ [0, 2, 3, 4, 5, 18, 21, 23, 25, 27, 29, 31, 37, 39, 41] H0 H0 := Kp.rf
  have hl : lv_has ls 5 [(0, .ref h0), (1, .ref h1), (2, .int p2), (3, va_rf o3), (4, .int p4)] := by revert hl; cases o3 <;> exact fun h => h
  obtain ⟨ar, har, gar⟩ := f_ref hC0 g1 (ci := 8) (kf := 10) rfl rfl
  have gry := cu.g; have gyt := g0; have gyy := g1
  have ark : ARK Γ H0 H0 ar := ARK.rf
  refine lv_aload_n hx hb dX10_takeLimit_0 rfl (lv_at hl 0 rfl) ?_
  refine q_getU E hC0 g0 fa_RX10_21 ur dX10_takeLimit_1 ?_
  refine q_goV (q_runV (As := []) (rest := []) E hC0 hS0 (m_X4_advance l X Γ H0 hC0 ra gra) cw_X4_advance cl_RX10_154 gra ⟨rfl, rfl⟩ rfl hl.1 rfl (Nat.zero_le _) (by decide) dX10_takeLimit_4) hS0 (fun H21 locs21 hr21 hC21 hS21 => ?_)
  obtain ⟨hp21, hr21⟩ := hr21
  have hKp21 := hKp0.tr (hp21.mono rfl)
  have ys := ys.kp hp21 gyt gyy rfl
  have ark : ARK Γ H0 H21 ar := ark.kp hp21 rfl
  have f21_0 := hr21
  have cu := cu.next (by omega) hp21 rfl f21_0
  refine lv_aload_n hx hb dX10_takeLimit_7 rfl (lv_at hl 0 rfl) ?_
  refine q_getU E hC21 g0 fa_RX10_21 ur dX10_takeLimit_8 ?_
  refine q_alq_n (o := o3) hx hb dX10_takeLimit_11 rfl (lv_at hl 3 rfl) ?_
  refine q_goI (q_runV (As := [va_rf o3]) (rest := []) E hC21 hS21 (m_X4_take l X Γ H21 hC21 ra gra o3 g3) cw_X4_take cl_RX10_75 gra ⟨rfl, rfl⟩ rfl hl.1 rfl (Nat.zero_le _) (by decide) dX10_takeLimit_12) hS21 (fun v22 H22 locs22 hr22 hC22 hS22 => ?_)
  obtain ⟨hp22, hr22⟩ := hr22
  have hKp22 := hKp21.tr (hp22.mono rfl)
  have ys := ys.kp hp22 gyt gyy rfl
  have ark : ARK Γ H0 H22 ar := ark.kp hp22 rfl
  rcases hr22.2 kd vl N (i + 1) cu bfi hbf ho with ⟨rfl, wb, cu⟩ | ⟨rfl, wb⟩
  · refine q_if_eq hx hb (a := 1) (by decide) (tgt := 41) dX10_takeLimit_15 rfl (fun c23 => absurd c23 (by omega)) (fun c23 => ?_)
    refine lv_aload_n hx hb dX10_takeLimit_18 rfl (lv_at hl 0 rfl) ?_
    refine q_getU E hC22 g0 fa_RX10_21 ur dX10_takeLimit_19 ?_
    refine lv_iconst (v := 0) hx hb dX10_takeLimit_22 rfl ?_
    refine lv_iload hx hb dX10_takeLimit_23 (lv_at hl 4 rfl) ?_
    refine q_goI (q_runV (As := [.int 0, .int p4]) (rest := []) E hC22 hS22 (m_X4_takeNumber l X Γ H22 hC22 ra gra 0 (a1 := 0) (by decide) p4 (a2 := a4) e4) cw_X4_takeNumber cl_RX10_79 gra ⟨rfl, rfl⟩ rfl hl.1 rfl (Nat.zero_le _) (by decide) dX10_takeLimit_25) hS22 (fun v24 H24 locs24 hr24 hC24 hS24 => ?_)
    obtain ⟨hp24, hr24⟩ := hr24
    have hKp24 := hKp22.tr (hp24.mono rfl)
    have ys := ys.kp hp24 gyt gyy rfl
    have ark : ARK Γ H0 H24 ar := ark.kp hp24 rfl
    rcases hr24.2 kd vl N (i + 2) cu with ⟨rfl, wl, nl, cu⟩ | ⟨rfl, wl⟩
    · refine q_if_eq hx hb (a := 1) (by decide) (tgt := 41) dX10_takeLimit_28 rfl (fun c25 => absurd c25 (by omega)) (fun c25 => ?_)
      refine lv_iload_n hx hb dX10_takeLimit_31 rfl (lv_at hl 2 rfl) ?_
      refine lv_i2l (v := p2.toInt64) hx hb dX10_takeLimit_32 rfl (lv_topl (fun v26 ev26 => ?_))
      have ev26i : v26.toInt = a2 := l_ofi ev26.symm e2
      refine lv_iconst (v := 0) hx hb dX10_takeLimit_33 rfl ?_
      refine lv_iconst (v := 3) hx hb dX10_takeLimit_34 rfl ?_
      refine q_goIp (q_runSN (As := [.long v26, .int 0, .int 3]) (rest := []) E hS24 (m_X11_isWithin l X Γ H24 hC24 v26 (a0 := a2) ev26i 0 (a1 := 0) (by decide) 3 (a2 := 3) (by decide)) cw_X11_isWithin cl_RX10_147 rfl hl.1 rfl (Nat.zero_le _) (by decide) dX10_takeLimit_35) hS24 (fun v27 locs27 hr27 hS27 => ?_)
      rcases hr27 with ⟨rfl, f27a0, f27a1⟩ | ⟨rfl, f27b⟩
      · refine q_if_ne hx hb (a := 1) (by decide) (tgt := 43) dX10_takeLimit_38 rfl (fun c28 => ?_) (fun c28 => absurd c28 (by omega))
        refine lv_aload_n hx hb dX10_takeLimit_43 rfl (lv_at hl 1 rfl) ?_
        refine q_getR E hC24 g1 fa_RX10_200 dX10_takeLimit_44 (fun q29 eq29 gq29 => ?_)
        have hqa := eq29; have gqa := gq29
        have hqe : q29 = ar := Option.some.inj (eq29.symm.trans ((kp_R hKp24 g1 (ci := 8) (k := 10) rfl (by decide) rfl).trans har))
        refine lv_iload_n hx hb dX10_takeLimit_47 rfl (lv_at hl 2 rfl) ?_
        refine lv_aload_n hx hb dX10_takeLimit_48 rfl (lv_at hl 0 rfl) ?_
        refine q_getU E hC24 g0 fa_RX10_21 ur dX10_takeLimit_49 ?_
        refine q_getI E hC24 gra fa_RX10_83 dX10_takeLimit_52 (fun v30 ev30 _ _ => ?_)
        have m31 : (sI H24 ra (X.1.2 4 13)).toInt = v30.toInt := congrArg Int32.toInt ev30
        refine q_iast E hC24 hS27 gq29 (by decide) rfl rfl (i_in (a := a2) e2 (by omega) (by omega)) tv_F dX10_takeLimit_55 (fun H32 locs32 hC32 hS32 U32 => ?_)
        have hKp32 := Kp.upA gq29 rfl (by decide) rfl U32 hKp24
        have cu := cu.ne U32 gq29 (by decide)
        have ys := ys.art U32 gyt gyy hqa gqa (w := a2) (z := vl (i + 2)) (by rw [i_ix e2]; omega) (by omega)
        have ark : ARK Γ H0 H32 ar := ark.up U32 hqe
        refine lv_iconst (v := 1) hx hb dX10_takeLimit_56 rfl ?_
        have hyes : ∃ (S1 : YSt) (i1 : Nat), gLim kd vl bfi a2 a4 S i S1 i1 ∧ CU X Γ H32 ra kd vl N i1 ∧ YSC X Γ H32 h0 h1 vl S1 ∧ AKY X Γ H0 H32 h1 := ⟨_, _, ⟨wb, wl, rfl, rfl⟩, cu, ys, AKY.of har ark⟩
        exact ret 1 H32 locs32 _ _ dX10_takeLimit_57 (Or.inr rfl) ⟨hKp32, Or.inl ⟨rfl, hyes⟩⟩ hC32 hS32
      · refine q_if_ne hx hb (a := 0) (by decide) (tgt := 43) dX10_takeLimit_38 rfl (fun c33 => absurd c33 (by omega)) (fun c33 => ?_)
        refine lv_iconst (v := 0) hx hb dX10_takeLimit_41 rfl ?_
        have hno : ∀ (S1 : YSt) (i1 : Nat), ¬ gLim kd vl bfi a2 a4 S i S1 i1 := fun S1 i1 q => by obtain ⟨q1, q2, -, -⟩ := q; first | exact wb q1 | exact wl q2 | omega
        exact ret 0 H24 locs27 _ _ dX10_takeLimit_42 (Or.inl rfl) ⟨hKp24, Or.inr ⟨rfl, ⟨hno, AKY.of har ark⟩⟩⟩ hC24 hS27
    · refine q_if_eq hx hb (a := 0) (by decide) (tgt := 41) dX10_takeLimit_28 rfl (fun c34 => ?_) (fun c34 => absurd c34 (by omega))
      refine lv_iconst (v := 0) hx hb dX10_takeLimit_41 rfl ?_
      have hno : ∀ (S1 : YSt) (i1 : Nat), ¬ gLim kd vl bfi a2 a4 S i S1 i1 := fun S1 i1 q => by obtain ⟨q1, q2, -, -⟩ := q; first | exact wb q1 | exact wl q2 | omega
      exact ret 0 H24 locs24 _ _ dX10_takeLimit_42 (Or.inl rfl) ⟨hKp24, Or.inr ⟨rfl, ⟨hno, AKY.of har ark⟩⟩⟩ hC24 hS24
  · refine q_if_eq hx hb (a := 0) (by decide) (tgt := 41) dX10_takeLimit_15 rfl (fun c35 => ?_) (fun c35 => absurd c35 (by omega))
    refine lv_iconst (v := 0) hx hb dX10_takeLimit_41 rfl ?_
    have hno : ∀ (S1 : YSt) (i1 : Nat), ¬ gLim kd vl bfi a2 a4 S i S1 i1 := fun S1 i1 q => by obtain ⟨q1, q2, -, -⟩ := q; first | exact wb q1 | exact wl q2 | omega
    exact ret 0 H22 locs22 _ _ dX10_takeLimit_42 (Or.inl rfl) ⟨hKp22, Or.inr ⟨rfl, ⟨hno, AKY.of har ark⟩⟩⟩ hC22 hS22
set_option maxRecDepth 100000 in
set_option maxHeartbeats 4000000 in
theorem m_X10_takeArticle (l : Launch) (X : xW) (Γ : Nat → Option Nat) (H0 : Heap) (hC0 : Conf X Γ H0) (h0 : Nat) (g0 : Γ h0 = some 3) (h1 : Nat) (g1 : Γ h1 = some 5) (ra : Nat) (gra : Γ ra = some 2) (ur : ∀ a, Γ a = some 2 → a = ra) (kd vl : Nat → Int) (N i : Nat) (S : YSt) (cu : CU X Γ H0 ra kd vl N i) (ys : YSC X Γ H0 h0 h1 vl S) : Ctr l X Γ yX10_takeArticle cX10_takeArticle 2 (some .boolean) 4 [.ref h0, .ref h1] H0 (QI X Γ (fun v H1 => Kp X Γ [0, 2, 3, 4, 5, 18, 21, 23, 25, 27, 29, 31, 37, 39, 41] H0 H1 ∧ ((v = 1 ∧ (∃ (S1 : YSt) (i1 : Nat), gArt kd vl S i S1 i1 ∧ CU X Γ H1 ra kd vl N i1 ∧ YSC X Γ H1 h0 h1 vl S1 ∧ AKY X Γ H0 H1 h1)) ∨ (v = 0 ∧ ((∀ (S1 : YSt) (i1 : Nat), ¬ gArt kd vl S i S1 i1) ∧ AKY X Γ H0 H1 h1))))) := by
  refine q_enterZ (own := "SnowForts$YardText") (by decide) rfl (Nat.le_of_ble_eq_true rfl) ?_
  intro p e s m args below meth c ls Qz E hl ret hS0
  have hx := E.1; have hb := E.2.1
  have hKp0 : Kp X Γ [0, 2, 3, 4, 5, 18, 21, 23, 25, 27, 29, 31, 37, 39, 41] H0 H0 := Kp.rf
  have hl : lv_has ls 2 [(0, .ref h0), (1, .ref h1)] := hl
  obtain ⟨ar, har, gar⟩ := f_ref hC0 g1 (ci := 8) (kf := 10) rfl rfl
  have gry := cu.g; have gyt := g0; have gyy := g1
  have ark : ARK Γ H0 H0 ar := ARK.rf
  refine lv_aload_n hx hb dX10_takeArticle_0 rfl (lv_at hl 0 rfl) ?_
  refine q_getU E hC0 g0 fa_RX10_21 ur dX10_takeArticle_1 ?_
  refine q_getQ E hC0 gra fa_RX10_101 dX10_takeArticle_4 (fun q21 eq21 gq21 => ?_)
  refine q_word E hS0 (i := 6) (by decide) w_671 dX10_takeArticle_7 (fun g22 => ?_)
  refine lv_acmp_ne (rx := q21) (ry := (some (wad X 6))) (tgt := 42) hx hb dX10_takeArticle_10 rfl (fun c23 => ?_) (fun c23 => ?_)
  · have kn6 := cu.nsw eq21 c23 (by decide)
    refine lv_aload_n hx hb dX10_takeArticle_42 rfl (lv_at hl 0 rfl) ?_
    refine q_getU E hC0 g0 fa_RX10_21 ur dX10_takeArticle_43 ?_
    refine q_getQ E hC0 gra fa_RX10_101 dX10_takeArticle_46 (fun q24 eq24 gq24 => ?_)
    refine q_word E hS0 (i := 12) (by decide) w_695 dX10_takeArticle_49 (fun g25 => ?_)
    refine lv_acmp_ne (rx := q24) (ry := (some (wad X 12))) (tgt := 84) hx hb dX10_takeArticle_52 rfl (fun c26 => ?_) (fun c26 => ?_)
    · have kn12 := cu.nsw eq24 c26 (by decide)
      refine lv_aload_n hx hb dX10_takeArticle_84 rfl (lv_at hl 0 rfl) ?_
      refine q_getU E hC0 g0 fa_RX10_21 ur dX10_takeArticle_85 ?_
      refine q_getQ E hC0 gra fa_RX10_101 dX10_takeArticle_88 (fun q27 eq27 gq27 => ?_)
      refine q_word E hS0 (i := 15) (by decide) w_699 dX10_takeArticle_91 (fun g28 => ?_)
      refine lv_acmp_ne (rx := q27) (ry := (some (wad X 15))) (tgt := 126) hx hb dX10_takeArticle_94 rfl (fun c29 => ?_) (fun c29 => ?_)
      · have kn15 := cu.nsw eq27 c29 (by decide)
        refine lv_aload_n hx hb dX10_takeArticle_126 rfl (lv_at hl 0 rfl) ?_
        refine q_getU E hC0 g0 fa_RX10_21 ur dX10_takeArticle_127 ?_
        refine q_getQ E hC0 gra fa_RX10_101 dX10_takeArticle_130 (fun q30 eq30 gq30 => ?_)
        refine q_word E hS0 (i := 14) (by decide) w_701 dX10_takeArticle_133 (fun g31 => ?_)
        refine lv_acmp_eq (rx := q30) (ry := (some (wad X 14))) (tgt := 147) hx hb dX10_takeArticle_136 rfl (fun c32 => ?_) (fun c32 => ?_)
        · have kw14 := cu.isw E eq30 c32 (by decide)
          refine lv_aload_n hx hb dX10_takeArticle_147 rfl (lv_at hl 0 rfl) ?_
          refine lv_aload_n hx hb dX10_takeArticle_148 rfl (lv_at hl 1 rfl) ?_
          refine lv_iconst (v := 2) hx hb dX10_takeArticle_149 rfl ?_
          refine q_goI (q_runV (As := [.ref h1, .int 2]) (rest := []) E hC0 hS0 (m_X10_isNew l X Γ H0 hC0 h0 g0 h1 g1 2 (a2 := 2) (by decide) ra gra ur kd vl N (_) S cu ys (by omega) (by omega)) cw_X10_isNew cl_RX10_177 g0 ⟨rfl, rfl⟩ rfl hl.1 rfl (Nat.zero_le _) (by decide) dX10_takeArticle_150) hS0 (fun v33 H33 locs33 hr33 hC33 hS33 => ?_)
          obtain ⟨hp33, hr33⟩ := hr33
          have hKp33 := hKp0.tr (hp33.mono rfl)
          have cu := cu.kp hp33 rfl rfl
          have ys := ys.kp hp33 gyt gyy rfl
          have ark : ARK Γ H0 H33 ar := ark.kp hp33 rfl
          rcases hr33 with ⟨rfl, ha⟩ | ⟨rfl, ha⟩
          · refine q_if_ne hx hb (a := 1) (by decide) (tgt := 158) dX10_takeArticle_153 rfl (fun c34 => ?_) (fun c34 => absurd c34 (by omega))
            refine lv_aload_n hx hb dX10_takeArticle_158 rfl (lv_at hl 1 rfl) ?_
            refine q_getR E hC33 g1 fa_RX10_200 dX10_takeArticle_159 (fun q35 eq35 gq35 => ?_)
            have hqa := eq35; have gqa := gq35
            have hqe : q35 = ar := Option.some.inj (eq35.symm.trans ((kp_R hKp33 g1 (ci := 8) (k := 10) rfl (by decide) rfl).trans har))
            refine lv_iconst (v := 2) hx hb dX10_takeArticle_162 rfl ?_
            refine lv_iconst (v := 0) hx hb dX10_takeArticle_163 rfl ?_
            refine q_iast E hC33 hS33 gq35 (by decide) rfl rfl (i_in (a := 2) (show (2 : Int32).toInt = 2 from by decide) (by omega) (by omega)) tv_F dX10_takeArticle_164 (fun H36 locs36 hC36 hS36 U36 => ?_)
            have hKp36 := Kp.upA gq35 rfl (by decide) rfl U36 hKp33
            have cu := cu.ne U36 gq35 (by decide)
            have ys := ys.art U36 gyt gyy hqa gqa (w := 2) (z := 0) (by decide) (by decide)
            have ark : ARK Γ H0 H36 ar := ark.up U36 hqe
            refine lv_aload_n hx hb dX10_takeArticle_165 rfl (lv_at hl 0 rfl) ?_
            refine q_getU E hC36 g0 fa_RX10_21 ur dX10_takeArticle_166 ?_
            refine q_goV (q_runV (As := []) (rest := []) E hC36 hS36 (m_X4_advance l X Γ H36 hC36 ra gra) cw_X4_advance cl_RX10_154 gra ⟨rfl, rfl⟩ rfl hl.1 rfl (Nat.zero_le _) (by decide) dX10_takeArticle_169) hS36 (fun H37 locs37 hr37 hC37 hS37 => ?_)
            obtain ⟨hp37, hr37⟩ := hr37
            have hKp37 := hKp36.tr (hp37.mono rfl)
            have ys := ys.kp hp37 gyt gyy rfl
            have ark : ARK Γ H0 H37 ar := ark.kp hp37 rfl
            have f37_0 := hr37
            have cu := cu.next (by have := kw14.1; omega) hp37 rfl f37_0
            refine lv_iconst (v := 1) hx hb dX10_takeArticle_172 rfl ?_
            have hyes : ∃ (S1 : YSt) (i1 : Nat), gArt kd vl S i S1 i1 ∧ CU X Γ H37 ra kd vl N i1 ∧ YSC X Γ H37 h0 h1 vl S1 ∧ AKY X Γ H0 H37 h1 := ⟨_, _, Or.inr (Or.inr (Or.inr ⟨kw14, ha, rfl, rfl⟩)), cu, ys, AKY.of har ark⟩
            exact ret 1 H37 locs37 _ _ dX10_takeArticle_173 (Or.inr rfl) ⟨hKp37, Or.inl ⟨rfl, hyes⟩⟩ hC37 hS37
          · have hno : ∀ (S1 : YSt) (i1 : Nat), ¬ gArt kd vl S i S1 i1 := fun S1 i1 q => by rcases q with ⟨q1, q2, q3⟩ | ⟨q1, q2, q3⟩ | ⟨q1, q2, q3⟩ | ⟨q1, q2, -, -⟩ <;> first | exact absurd q1 (by assumption) | exact absurd q2 ha | exact hg _ _ q3 | exact absurd (okW_j q1 kw6 (by decide) (by decide)) (by decide) | exact absurd (okW_j q1 kw12 (by decide) (by decide)) (by decide) | exact absurd (okW_j q1 kw15 (by decide) (by decide)) (by decide) | exact absurd (okW_j q1 kw14 (by decide) (by decide)) (by decide)
            refine q_if_ne hx hb (a := 0) (by decide) (tgt := 158) dX10_takeArticle_153 rfl (fun c38 => absurd c38 (by omega)) (fun c38 => ?_)
            refine lv_iconst (v := 0) hx hb dX10_takeArticle_156 rfl ?_
            exact ret 0 H33 locs33 _ _ dX10_takeArticle_157 (Or.inl rfl) ⟨hKp33, Or.inr ⟨rfl, ⟨hno, AKY.of har ark⟩⟩⟩ hC33 hS33
        · have kn14 := cu.nsw eq30 c32 (by decide)
          refine lv_aload_n hx hb dX10_takeArticle_139 rfl (lv_at hl 0 rfl) ?_
          refine q_getU E hC0 g0 fa_RX10_21 ur dX10_takeArticle_140 ?_
          have hno : ∀ (S1 : YSt) (i1 : Nat), ¬ gArt kd vl S i S1 i1 := fun S1 i1 q => by rcases q with ⟨q1, q2, q3⟩ | ⟨q1, q2, q3⟩ | ⟨q1, q2, q3⟩ | ⟨q1, q2, -, -⟩ <;> first | exact absurd q1 (by assumption) | exact absurd q2 ha | exact hg _ _ q3 | exact absurd (okW_j q1 kw6 (by decide) (by decide)) (by decide) | exact absurd (okW_j q1 kw12 (by decide) (by decide)) (by decide) | exact absurd (okW_j q1 kw15 (by decide) (by decide)) (by decide) | exact absurd (okW_j q1 kw14 (by decide) (by decide)) (by decide)
          refine q_goI (q_runV (As := []) (rest := []) E hC0 hS0 (m_X4_misfit l X Γ H0 hC0 ra gra) cw_X4_misfit cl_RX10_161 gra ⟨rfl, rfl⟩ rfl hl.1 rfl (Nat.zero_le _) (by decide) dX10_takeArticle_143) hS0 (fun v39 H39 locs39 hr39 hC39 hS39 => ?_)
          obtain ⟨hp39, hr39⟩ := hr39
          have hKp39 := hKp0.tr (hp39.mono rfl)
          have cu := cu.kp hp39 rfl rfl
          have ys := ys.kp hp39 gyt gyy rfl
          have ark : ARK Γ H0 H39 ar := ark.kp hp39 rfl
          rcases hr39 with ⟨rfl, f39a⟩ | ⟨rfl, -⟩
          · exact absurd f39a (by decide)
          · exact ret 0 H39 locs39 _ _ dX10_takeArticle_146 (Or.inl rfl) ⟨hKp39, Or.inr ⟨rfl, ⟨hno, AKY.of har ark⟩⟩⟩ hC39 hS39
      · have kw15 := cu.isw E eq27 c29 (by decide)
        refine lv_aload_n hx hb dX10_takeArticle_97 rfl (lv_at hl 0 rfl) ?_
        refine lv_aload_n hx hb dX10_takeArticle_98 rfl (lv_at hl 1 rfl) ?_
        refine lv_iconst (v := 3) hx hb dX10_takeArticle_99 rfl ?_
        refine q_goI (q_runV (As := [.ref h1, .int 3]) (rest := []) E hC0 hS0 (m_X10_isNew l X Γ H0 hC0 h0 g0 h1 g1 3 (a2 := 3) (by decide) ra gra ur kd vl N (_) S cu ys (by omega) (by omega)) cw_X10_isNew cl_RX10_177 g0 ⟨rfl, rfl⟩ rfl hl.1 rfl (Nat.zero_le _) (by decide) dX10_takeArticle_100) hS0 (fun v40 H40 locs40 hr40 hC40 hS40 => ?_)
        obtain ⟨hp40, hr40⟩ := hr40
        have hKp40 := hKp0.tr (hp40.mono rfl)
        have cu := cu.kp hp40 rfl rfl
        have ys := ys.kp hp40 gyt gyy rfl
        have ark : ARK Γ H0 H40 ar := ark.kp hp40 rfl
        rcases hr40 with ⟨rfl, ha⟩ | ⟨rfl, ha⟩
        · refine q_if_eq hx hb (a := 1) (by decide) (tgt := 124) dX10_takeArticle_103 rfl (fun c41 => absurd c41 (by omega)) (fun c41 => ?_)
          refine lv_aload_n hx hb dX10_takeArticle_106 rfl (lv_at hl 0 rfl) ?_
          refine lv_aload_n hx hb dX10_takeArticle_107 rfl (lv_at hl 1 rfl) ?_
          refine lv_iconst (v := 3) hx hb dX10_takeArticle_108 rfl ?_
          refine q_word E hS40 (i := 11) (by decide) w_689 dX10_takeArticle_109 (fun g42 => ?_)
          refine lv_bipush (v := 18) hx hb dX10_takeArticle_112 rfl ?_
          have hare := ((kp_R hKp40 g1 (ci := 8) (k := 10) rfl (by decide) rfl).trans har)
          refine q_goI (q_runV (As := [.ref h1, .int 3, va_rf (some (wad X 11)), .int 18]) (rest := []) E hC40 hS40 (m_X10_takeLimit l X Γ H40 hC40 h0 g0 h1 g1 3 (a2 := 3) (by decide) (some (wad X 11)) (fun _ h => by cases h; exact g42) 18 (a4 := 18) (by decide) ra gra ur kd vl N (_) S cu ys 11 (by decide) rfl (by first | exact kw6.1 | exact kw12.1 | exact kw15.1) (by omega) (by omega)) cw_X10_takeLimit cl_RX10_184 g0 ⟨rfl, rfl⟩ rfl hl.1 rfl (Nat.zero_le _) (by decide) dX10_takeArticle_114) hS40 (fun v43 H43 locs43 hr43 hC43 hS43 => ?_)
          obtain ⟨hp43, hr43⟩ := hr43
          have hKp43 := hKp40.tr (hp43.mono rfl)
          rcases hr43 with ⟨rfl, S1, i1, hg, cu, ys, ak⟩ | ⟨rfl, hg, ak⟩
          · have ark : ARK Γ H0 H43 ar := ark.tr (ak ar hare)
            have hyes : ∃ (S1 : YSt) (i1 : Nat), gArt kd vl S i S1 i1 ∧ CU X Γ H43 ra kd vl N i1 ∧ YSC X Γ H43 h0 h1 vl S1 ∧ AKY X Γ H0 H43 h1 := ⟨S1, i1, by first | exact Or.inl ⟨kw6, ha, hg⟩ | exact Or.inr (Or.inl ⟨kw12, ha, hg⟩) | exact Or.inr (Or.inr (Or.inl ⟨kw15, ha, hg⟩)), cu, ys, AKY.of har ark⟩
            refine q_if_eq hx hb (a := 1) (by decide) (tgt := 124) dX10_takeArticle_117 rfl (fun c44 => absurd c44 (by omega)) (fun c44 => ?_)
            refine lv_iconst (v := 1) hx hb dX10_takeArticle_120 rfl ?_
            refine lv_goto (tgt := 125) hx hb dX10_takeArticle_121 rfl ?_
            exact ret 1 H43 locs43 _ _ dX10_takeArticle_125 (Or.inr rfl) ⟨hKp43, Or.inl ⟨rfl, hyes⟩⟩ hC43 hS43
          · have ark : ARK Γ H0 H43 ar := ark.tr (ak ar hare)
            have hno : ∀ (S1 : YSt) (i1 : Nat), ¬ gArt kd vl S i S1 i1 := fun S1 i1 q => by rcases q with ⟨q1, q2, q3⟩ | ⟨q1, q2, q3⟩ | ⟨q1, q2, q3⟩ | ⟨q1, q2, -, -⟩ <;> first | exact absurd q1 (by assumption) | exact absurd q2 ha | exact hg _ _ q3 | exact absurd (okW_j q1 kw6 (by decide) (by decide)) (by decide) | exact absurd (okW_j q1 kw12 (by decide) (by decide)) (by decide) | exact absurd (okW_j q1 kw15 (by decide) (by decide)) (by decide) | exact absurd (okW_j q1 kw14 (by decide) (by decide)) (by decide)
            refine q_if_eq hx hb (a := 0) (by decide) (tgt := 124) dX10_takeArticle_117 rfl (fun c45 => ?_) (fun c45 => absurd c45 (by omega))
            refine lv_iconst (v := 0) hx hb dX10_takeArticle_124 rfl ?_
            exact ret 0 H43 locs43 _ _ dX10_takeArticle_125 (Or.inl rfl) ⟨hKp43, Or.inr ⟨rfl, ⟨hno, AKY.of har ark⟩⟩⟩ hC43 hS43
        · have hno : ∀ (S1 : YSt) (i1 : Nat), ¬ gArt kd vl S i S1 i1 := fun S1 i1 q => by rcases q with ⟨q1, q2, q3⟩ | ⟨q1, q2, q3⟩ | ⟨q1, q2, q3⟩ | ⟨q1, q2, -, -⟩ <;> first | exact absurd q1 (by assumption) | exact absurd q2 ha | exact hg _ _ q3 | exact absurd (okW_j q1 kw6 (by decide) (by decide)) (by decide) | exact absurd (okW_j q1 kw12 (by decide) (by decide)) (by decide) | exact absurd (okW_j q1 kw15 (by decide) (by decide)) (by decide) | exact absurd (okW_j q1 kw14 (by decide) (by decide)) (by decide)
          refine q_if_eq hx hb (a := 0) (by decide) (tgt := 124) dX10_takeArticle_103 rfl (fun c46 => ?_) (fun c46 => absurd c46 (by omega))
          refine lv_iconst (v := 0) hx hb dX10_takeArticle_124 rfl ?_
          exact ret 0 H40 locs40 _ _ dX10_takeArticle_125 (Or.inl rfl) ⟨hKp40, Or.inr ⟨rfl, ⟨hno, AKY.of har ark⟩⟩⟩ hC40 hS40
    · have kw12 := cu.isw E eq24 c26 (by decide)
      refine lv_aload_n hx hb dX10_takeArticle_55 rfl (lv_at hl 0 rfl) ?_
      refine lv_aload_n hx hb dX10_takeArticle_56 rfl (lv_at hl 1 rfl) ?_
      refine lv_iconst (v := 1) hx hb dX10_takeArticle_57 rfl ?_
      refine q_goI (q_runV (As := [.ref h1, .int 1]) (rest := []) E hC0 hS0 (m_X10_isNew l X Γ H0 hC0 h0 g0 h1 g1 1 (a2 := 1) (by decide) ra gra ur kd vl N (_) S cu ys (by omega) (by omega)) cw_X10_isNew cl_RX10_177 g0 ⟨rfl, rfl⟩ rfl hl.1 rfl (Nat.zero_le _) (by decide) dX10_takeArticle_58) hS0 (fun v47 H47 locs47 hr47 hC47 hS47 => ?_)
      obtain ⟨hp47, hr47⟩ := hr47
      have hKp47 := hKp0.tr (hp47.mono rfl)
      have cu := cu.kp hp47 rfl rfl
      have ys := ys.kp hp47 gyt gyy rfl
      have ark : ARK Γ H0 H47 ar := ark.kp hp47 rfl
      rcases hr47 with ⟨rfl, ha⟩ | ⟨rfl, ha⟩
      · refine q_if_eq hx hb (a := 1) (by decide) (tgt := 82) dX10_takeArticle_61 rfl (fun c48 => absurd c48 (by omega)) (fun c48 => ?_)
        refine lv_aload_n hx hb dX10_takeArticle_64 rfl (lv_at hl 0 rfl) ?_
        refine lv_aload_n hx hb dX10_takeArticle_65 rfl (lv_at hl 1 rfl) ?_
        refine lv_iconst (v := 1) hx hb dX10_takeArticle_66 rfl ?_
        refine q_word E hS47 (i := 13) (by decide) w_697 dX10_takeArticle_67 (fun g49 => ?_)
        refine lv_bipush (v := 40) hx hb dX10_takeArticle_70 rfl ?_
        have hare := ((kp_R hKp47 g1 (ci := 8) (k := 10) rfl (by decide) rfl).trans har)
        refine q_goI (q_runV (As := [.ref h1, .int 1, va_rf (some (wad X 13)), .int 40]) (rest := []) E hC47 hS47 (m_X10_takeLimit l X Γ H47 hC47 h0 g0 h1 g1 1 (a2 := 1) (by decide) (some (wad X 13)) (fun _ h => by cases h; exact g49) 40 (a4 := 40) (by decide) ra gra ur kd vl N (_) S cu ys 13 (by decide) rfl (by first | exact kw6.1 | exact kw12.1 | exact kw15.1) (by omega) (by omega)) cw_X10_takeLimit cl_RX10_184 g0 ⟨rfl, rfl⟩ rfl hl.1 rfl (Nat.zero_le _) (by decide) dX10_takeArticle_72) hS47 (fun v50 H50 locs50 hr50 hC50 hS50 => ?_)
        obtain ⟨hp50, hr50⟩ := hr50
        have hKp50 := hKp47.tr (hp50.mono rfl)
        rcases hr50 with ⟨rfl, S1, i1, hg, cu, ys, ak⟩ | ⟨rfl, hg, ak⟩
        · have ark : ARK Γ H0 H50 ar := ark.tr (ak ar hare)
          have hyes : ∃ (S1 : YSt) (i1 : Nat), gArt kd vl S i S1 i1 ∧ CU X Γ H50 ra kd vl N i1 ∧ YSC X Γ H50 h0 h1 vl S1 ∧ AKY X Γ H0 H50 h1 := ⟨S1, i1, by first | exact Or.inl ⟨kw6, ha, hg⟩ | exact Or.inr (Or.inl ⟨kw12, ha, hg⟩) | exact Or.inr (Or.inr (Or.inl ⟨kw15, ha, hg⟩)), cu, ys, AKY.of har ark⟩
          refine q_if_eq hx hb (a := 1) (by decide) (tgt := 82) dX10_takeArticle_75 rfl (fun c51 => absurd c51 (by omega)) (fun c51 => ?_)
          refine lv_iconst (v := 1) hx hb dX10_takeArticle_78 rfl ?_
          refine lv_goto (tgt := 83) hx hb dX10_takeArticle_79 rfl ?_
          exact ret 1 H50 locs50 _ _ dX10_takeArticle_83 (Or.inr rfl) ⟨hKp50, Or.inl ⟨rfl, hyes⟩⟩ hC50 hS50
        · have ark : ARK Γ H0 H50 ar := ark.tr (ak ar hare)
          have hno : ∀ (S1 : YSt) (i1 : Nat), ¬ gArt kd vl S i S1 i1 := fun S1 i1 q => by rcases q with ⟨q1, q2, q3⟩ | ⟨q1, q2, q3⟩ | ⟨q1, q2, q3⟩ | ⟨q1, q2, -, -⟩ <;> first | exact absurd q1 (by assumption) | exact absurd q2 ha | exact hg _ _ q3 | exact absurd (okW_j q1 kw6 (by decide) (by decide)) (by decide) | exact absurd (okW_j q1 kw12 (by decide) (by decide)) (by decide) | exact absurd (okW_j q1 kw15 (by decide) (by decide)) (by decide) | exact absurd (okW_j q1 kw14 (by decide) (by decide)) (by decide)
          refine q_if_eq hx hb (a := 0) (by decide) (tgt := 82) dX10_takeArticle_75 rfl (fun c52 => ?_) (fun c52 => absurd c52 (by omega))
          refine lv_iconst (v := 0) hx hb dX10_takeArticle_82 rfl ?_
          exact ret 0 H50 locs50 _ _ dX10_takeArticle_83 (Or.inl rfl) ⟨hKp50, Or.inr ⟨rfl, ⟨hno, AKY.of har ark⟩⟩⟩ hC50 hS50
      · have hno : ∀ (S1 : YSt) (i1 : Nat), ¬ gArt kd vl S i S1 i1 := fun S1 i1 q => by rcases q with ⟨q1, q2, q3⟩ | ⟨q1, q2, q3⟩ | ⟨q1, q2, q3⟩ | ⟨q1, q2, -, -⟩ <;> first | exact absurd q1 (by assumption) | exact absurd q2 ha | exact hg _ _ q3 | exact absurd (okW_j q1 kw6 (by decide) (by decide)) (by decide) | exact absurd (okW_j q1 kw12 (by decide) (by decide)) (by decide) | exact absurd (okW_j q1 kw15 (by decide) (by decide)) (by decide) | exact absurd (okW_j q1 kw14 (by decide) (by decide)) (by decide)
        refine q_if_eq hx hb (a := 0) (by decide) (tgt := 82) dX10_takeArticle_61 rfl (fun c53 => ?_) (fun c53 => absurd c53 (by omega))
        refine lv_iconst (v := 0) hx hb dX10_takeArticle_82 rfl ?_
        exact ret 0 H47 locs47 _ _ dX10_takeArticle_83 (Or.inl rfl) ⟨hKp47, Or.inr ⟨rfl, ⟨hno, AKY.of har ark⟩⟩⟩ hC47 hS47
  · have kw6 := cu.isw E eq21 c23 (by decide)
    refine lv_aload_n hx hb dX10_takeArticle_13 rfl (lv_at hl 0 rfl) ?_
    refine lv_aload_n hx hb dX10_takeArticle_14 rfl (lv_at hl 1 rfl) ?_
    refine lv_iconst (v := 0) hx hb dX10_takeArticle_15 rfl ?_
    refine q_goI (q_runV (As := [.ref h1, .int 0]) (rest := []) E hC0 hS0 (m_X10_isNew l X Γ H0 hC0 h0 g0 h1 g1 0 (a2 := 0) (by decide) ra gra ur kd vl N (_) S cu ys (by omega) (by omega)) cw_X10_isNew cl_RX10_177 g0 ⟨rfl, rfl⟩ rfl hl.1 rfl (Nat.zero_le _) (by decide) dX10_takeArticle_16) hS0 (fun v54 H54 locs54 hr54 hC54 hS54 => ?_)
    obtain ⟨hp54, hr54⟩ := hr54
    have hKp54 := hKp0.tr (hp54.mono rfl)
    have cu := cu.kp hp54 rfl rfl
    have ys := ys.kp hp54 gyt gyy rfl
    have ark : ARK Γ H0 H54 ar := ark.kp hp54 rfl
    rcases hr54 with ⟨rfl, ha⟩ | ⟨rfl, ha⟩
    · refine q_if_eq hx hb (a := 1) (by decide) (tgt := 40) dX10_takeArticle_19 rfl (fun c55 => absurd c55 (by omega)) (fun c55 => ?_)
      refine lv_aload_n hx hb dX10_takeArticle_22 rfl (lv_at hl 0 rfl) ?_
      refine lv_aload_n hx hb dX10_takeArticle_23 rfl (lv_at hl 1 rfl) ?_
      refine lv_iconst (v := 0) hx hb dX10_takeArticle_24 rfl ?_
      refine q_word E hS54 (i := 11) (by decide) w_689 dX10_takeArticle_25 (fun g56 => ?_)
      refine lv_bipush (v := 20) hx hb dX10_takeArticle_28 rfl ?_
      have hare := ((kp_R hKp54 g1 (ci := 8) (k := 10) rfl (by decide) rfl).trans har)
      refine q_goI (q_runV (As := [.ref h1, .int 0, va_rf (some (wad X 11)), .int 20]) (rest := []) E hC54 hS54 (m_X10_takeLimit l X Γ H54 hC54 h0 g0 h1 g1 0 (a2 := 0) (by decide) (some (wad X 11)) (fun _ h => by cases h; exact g56) 20 (a4 := 20) (by decide) ra gra ur kd vl N (_) S cu ys 11 (by decide) rfl (by first | exact kw6.1 | exact kw12.1 | exact kw15.1) (by omega) (by omega)) cw_X10_takeLimit cl_RX10_184 g0 ⟨rfl, rfl⟩ rfl hl.1 rfl (Nat.zero_le _) (by decide) dX10_takeArticle_30) hS54 (fun v57 H57 locs57 hr57 hC57 hS57 => ?_)
      obtain ⟨hp57, hr57⟩ := hr57
      have hKp57 := hKp54.tr (hp57.mono rfl)
      rcases hr57 with ⟨rfl, S1, i1, hg, cu, ys, ak⟩ | ⟨rfl, hg, ak⟩
      · have ark : ARK Γ H0 H57 ar := ark.tr (ak ar hare)
        have hyes : ∃ (S1 : YSt) (i1 : Nat), gArt kd vl S i S1 i1 ∧ CU X Γ H57 ra kd vl N i1 ∧ YSC X Γ H57 h0 h1 vl S1 ∧ AKY X Γ H0 H57 h1 := ⟨S1, i1, by first | exact Or.inl ⟨kw6, ha, hg⟩ | exact Or.inr (Or.inl ⟨kw12, ha, hg⟩) | exact Or.inr (Or.inr (Or.inl ⟨kw15, ha, hg⟩)), cu, ys, AKY.of har ark⟩
        refine q_if_eq hx hb (a := 1) (by decide) (tgt := 40) dX10_takeArticle_33 rfl (fun c58 => absurd c58 (by omega)) (fun c58 => ?_)
        refine lv_iconst (v := 1) hx hb dX10_takeArticle_36 rfl ?_
        refine lv_goto (tgt := 41) hx hb dX10_takeArticle_37 rfl ?_
        exact ret 1 H57 locs57 _ _ dX10_takeArticle_41 (Or.inr rfl) ⟨hKp57, Or.inl ⟨rfl, hyes⟩⟩ hC57 hS57
      · have ark : ARK Γ H0 H57 ar := ark.tr (ak ar hare)
        have hno : ∀ (S1 : YSt) (i1 : Nat), ¬ gArt kd vl S i S1 i1 := fun S1 i1 q => by rcases q with ⟨q1, q2, q3⟩ | ⟨q1, q2, q3⟩ | ⟨q1, q2, q3⟩ | ⟨q1, q2, -, -⟩ <;> first | exact absurd q1 (by assumption) | exact absurd q2 ha | exact hg _ _ q3 | exact absurd (okW_j q1 kw6 (by decide) (by decide)) (by decide) | exact absurd (okW_j q1 kw12 (by decide) (by decide)) (by decide) | exact absurd (okW_j q1 kw15 (by decide) (by decide)) (by decide) | exact absurd (okW_j q1 kw14 (by decide) (by decide)) (by decide)
        refine q_if_eq hx hb (a := 0) (by decide) (tgt := 40) dX10_takeArticle_33 rfl (fun c59 => ?_) (fun c59 => absurd c59 (by omega))
        refine lv_iconst (v := 0) hx hb dX10_takeArticle_40 rfl ?_
        exact ret 0 H57 locs57 _ _ dX10_takeArticle_41 (Or.inl rfl) ⟨hKp57, Or.inr ⟨rfl, ⟨hno, AKY.of har ark⟩⟩⟩ hC57 hS57
    · have hno : ∀ (S1 : YSt) (i1 : Nat), ¬ gArt kd vl S i S1 i1 := fun S1 i1 q => by rcases q with ⟨q1, q2, q3⟩ | ⟨q1, q2, q3⟩ | ⟨q1, q2, q3⟩ | ⟨q1, q2, -, -⟩ <;> first | exact absurd q1 (by assumption) | exact absurd q2 ha | exact hg _ _ q3 | exact absurd (okW_j q1 kw6 (by decide) (by decide)) (by decide) | exact absurd (okW_j q1 kw12 (by decide) (by decide)) (by decide) | exact absurd (okW_j q1 kw15 (by decide) (by decide)) (by decide) | exact absurd (okW_j q1 kw14 (by decide) (by decide)) (by decide)
      refine q_if_eq hx hb (a := 0) (by decide) (tgt := 40) dX10_takeArticle_19 rfl (fun c60 => ?_) (fun c60 => absurd c60 (by omega))
      refine lv_iconst (v := 0) hx hb dX10_takeArticle_40 rfl ?_
      exact ret 0 H54 locs54 _ _ dX10_takeArticle_41 (Or.inl rfl) ⟨hKp54, Or.inr ⟨rfl, ⟨hno, AKY.of har ark⟩⟩⟩ hC54 hS54
set_option maxRecDepth 100000 in
set_option maxHeartbeats 4000000 in
theorem m_X10_takePart (l : Launch) (X : xW) (Γ : Nat → Option Nat) (H0 : Heap) (hC0 : Conf X Γ H0) (h0 : Nat) (g0 : Γ h0 = some 3) (h1 : Nat) (g1 : Γ h1 = some 5) (ra : Nat) (gra : Γ ra = some 2) (ur : ∀ a, Γ a = some 2 → a = ra) (kd vl : Nat → Int) (N i : Nat) (S : YSt) (cu : CU X Γ H0 ra kd vl N i) (ys : YSC X Γ H0 h0 h1 vl S) : Ctr l X Γ yX10_takePart cX10_takePart 2 (some .boolean) 5 [.ref h0, .ref h1] H0 (QI X Γ (fun v H1 => Kp X Γ [0, 2, 3, 4, 5, 18, 21, 23, 25, 27, 29, 31, 37, 39, 41] H0 H1 ∧ ((v = 1 ∧ (∃ (S1 : YSt) (i1 : Nat), gPart kd vl S i S1 i1 ∧ CU X Γ H1 ra kd vl N i1 ∧ YSC X Γ H1 h0 h1 vl S1 ∧ AKY X Γ H0 H1 h1)) ∨ (v = 0 ∧ ((∀ (S1 : YSt) (i1 : Nat), ¬ gPart kd vl S i S1 i1) ∧ AKY X Γ H0 H1 h1))))) := by
  refine q_enterZ (own := "SnowForts$YardText") (by decide) rfl (Nat.le_of_ble_eq_true rfl) ?_
  intro p e s m args below meth c ls Qz E hl ret hS0
  have hx := E.1; have hb := E.2.1
  have hKp0 : Kp X Γ [0, 2, 3, 4, 5, 18, 21, 23, 25, 27, 29, 31, 37, 39, 41] H0 H0 := Kp.rf
  have hl : lv_has ls 2 [(0, .ref h0), (1, .ref h1)] := hl
  obtain ⟨ar, har, gar⟩ := f_ref hC0 g1 (ci := 8) (kf := 10) rfl rfl
  have gry := cu.g; have gyt := g0; have gyy := g1
  have ark : ARK Γ H0 H0 ar := ARK.rf
  refine lv_aload_n hx hb dX10_takePart_0 rfl (lv_at hl 0 rfl) ?_
  refine q_getU E hC0 g0 fa_RX10_21 ur dX10_takePart_1 ?_
  refine q_getQ E hC0 gra fa_RX10_101 dX10_takePart_4 (fun q21 eq21 gq21 => ?_)
  refine q_word E hS0 (i := 2) (by decide) w_648 dX10_takePart_7 (fun g22 => ?_)
  refine lv_acmp_ne (rx := q21) (ry := (some (wad X 2))) (tgt := 19) hx hb dX10_takePart_10 rfl (fun c23 => ?_) (fun c23 => ?_)
  · have kn2 := cu.nsw eq21 c23 (by decide)
    refine lv_aload_n hx hb dX10_takePart_19 rfl (lv_at hl 0 rfl) ?_
    refine q_getU E hC0 g0 fa_RX10_21 ur dX10_takePart_20 ?_
    refine q_getQ E hC0 gra fa_RX10_101 dX10_takePart_23 (fun q24 eq24 gq24 => ?_)
    refine q_word E hS0 (i := 4) (by decide) w_663 dX10_takePart_26 (fun g25 => ?_)
    refine lv_acmp_ne (rx := q24) (ry := (some (wad X 4))) (tgt := 51) hx hb dX10_takePart_29 rfl (fun c26 => ?_) (fun c26 => ?_)
    · have kn4 := cu.nsw eq24 c26 (by decide)
      refine lv_aload_n hx hb dX10_takePart_51 rfl (lv_at hl 0 rfl) ?_
      refine q_getU E hC0 g0 fa_RX10_21 ur dX10_takePart_52 ?_
      refine q_getQ E hC0 gra fa_RX10_101 dX10_takePart_55 (fun q27 eq27 gq27 => ?_)
      refine q_word E hS0 (i := 6) (by decide) w_671 dX10_takePart_58 (fun g28 => ?_)
      refine lv_acmp_ne (rx := q27) (ry := (some (wad X 6))) (tgt := 83) hx hb dX10_takePart_61 rfl (fun c29 => ?_) (fun c29 => ?_)
      · have kn6 := cu.nsw eq27 c29 (by decide)
        refine lv_aload_n hx hb dX10_takePart_83 rfl (lv_at hl 0 rfl) ?_
        refine q_getU E hC0 g0 fa_RX10_21 ur dX10_takePart_84 ?_
        refine q_getQ E hC0 gra fa_RX10_101 dX10_takePart_87 (fun q30 eq30 gq30 => ?_)
        refine q_word E hS0 (i := 8) (by decide) w_675 dX10_takePart_90 (fun g31 => ?_)
        refine lv_acmp_ne (rx := q30) (ry := (some (wad X 8))) (tgt := 115) hx hb dX10_takePart_93 rfl (fun c32 => ?_) (fun c32 => ?_)
        · have kn8 := cu.nsw eq30 c32 (by decide)
          refine lv_aload_n hx hb dX10_takePart_115 rfl (lv_at hl 0 rfl) ?_
          refine q_getU E hC0 g0 fa_RX10_21 ur dX10_takePart_116 ?_
          refine q_word E hS0 (i := 10) (by decide) w_679 dX10_takePart_119 (fun g33 => ?_)
          refine q_goI (q_runV (As := [va_rf (some (wad X 10))]) (rest := []) E hC0 hS0 (m_X4_take l X Γ H0 hC0 ra gra (some (wad X 10)) (fun _ h => by cases h; exact g33)) cw_X4_take cl_RX10_75 gra ⟨rfl, rfl⟩ rfl hl.1 rfl (Nat.zero_le _) (by decide) dX10_takePart_122) hS0 (fun v34 H34 locs34 hr34 hC34 hS34 => ?_)
          obtain ⟨hp34, hr34⟩ := hr34
          have hKp34 := hKp0.tr (hp34.mono rfl)
          have ys := ys.kp hp34 gyt gyy rfl
          have ark : ARK Γ H0 H34 ar := ark.kp hp34 rfl
          rcases hr34.2 kd vl N (_) cu 10 (by decide) rfl with ⟨rfl, kw10, cu⟩ | ⟨rfl, kn10⟩
          · refine q_if_eq hx hb (a := 1) (by decide) (tgt := 140) dX10_takePart_125 rfl (fun c35 => absurd c35 (by omega)) (fun c35 => ?_)
            refine lv_aload_n hx hb dX10_takePart_128 rfl (lv_at hl 0 rfl) ?_
            refine lv_aload_n hx hb dX10_takePart_129 rfl (lv_at hl 1 rfl) ?_
            have hare := ((kp_R hKp34 g1 (ci := 8) (k := 10) rfl (by decide) rfl).trans har)
            refine q_goI (q_runV (As := [.ref h1]) (rest := []) E hC34 hS34 (m_X10_takeArticle l X Γ H34 hC34 h0 g0 h1 g1 ra gra ur kd vl N (_) S cu ys) cw_X10_takeArticle cl_RX10_141 g0 ⟨rfl, rfl⟩ rfl hl.1 rfl (Nat.zero_le _) (by decide) dX10_takePart_130) hS34 (fun v36 H36 locs36 hr36 hC36 hS36 => ?_)
            obtain ⟨hp36, hr36⟩ := hr36
            have hKp36 := hKp34.tr (hp36.mono rfl)
            rcases hr36 with ⟨rfl, S1, i1, hg, cu, ys, ak⟩ | ⟨rfl, hg, ak⟩
            · have ark : ARK Γ H0 H36 ar := ark.tr (ak ar hare)
              have hyes : ∃ (S1 : YSt) (i1 : Nat), gPart kd vl S i S1 i1 ∧ CU X Γ H36 ra kd vl N i1 ∧ YSC X Γ H36 h0 h1 vl S1 ∧ AKY X Γ H0 H36 h1 := ⟨S1, i1, by first | exact Or.inl ⟨kw2, hg⟩ | exact Or.inr (Or.inl ⟨kw4, hg⟩) | exact Or.inr (Or.inr (Or.inl ⟨kw6, hg⟩)) | exact Or.inr (Or.inr (Or.inr (Or.inl ⟨kw8, hg⟩))) | exact Or.inr (Or.inr (Or.inr (Or.inr ⟨kw10, hg⟩))), cu, ys, AKY.of har ark⟩
              refine q_if_eq hx hb (a := 1) (by decide) (tgt := 140) dX10_takePart_133 rfl (fun c37 => absurd c37 (by omega)) (fun c37 => ?_)
              refine lv_iconst (v := 1) hx hb dX10_takePart_136 rfl ?_
              refine lv_goto (tgt := 141) hx hb dX10_takePart_137 rfl ?_
              exact ret 1 H36 locs36 _ _ dX10_takePart_141 (Or.inr rfl) ⟨hKp36, Or.inl ⟨rfl, hyes⟩⟩ hC36 hS36
            · have ark : ARK Γ H0 H36 ar := ark.tr (ak ar hare)
              have hno : ∀ (S1 : YSt) (i1 : Nat), ¬ gPart kd vl S i S1 i1 := fun S1 i1 q => by rcases q with ⟨q1, q2⟩ | ⟨q1, q2⟩ | ⟨q1, q2⟩ | ⟨q1, q2⟩ | ⟨q1, q2⟩ <;> first | exact absurd q1 (by assumption) | exact hg _ _ q2 | exact absurd (okW_j q1 kw2 (by decide) (by decide)) (by decide) | exact absurd (okW_j q1 kw4 (by decide) (by decide)) (by decide) | exact absurd (okW_j q1 kw6 (by decide) (by decide)) (by decide) | exact absurd (okW_j q1 kw8 (by decide) (by decide)) (by decide) | exact absurd (okW_j q1 kw10 (by decide) (by decide)) (by decide)
              refine q_if_eq hx hb (a := 0) (by decide) (tgt := 140) dX10_takePart_133 rfl (fun c38 => ?_) (fun c38 => absurd c38 (by omega))
              refine lv_iconst (v := 0) hx hb dX10_takePart_140 rfl ?_
              exact ret 0 H36 locs36 _ _ dX10_takePart_141 (Or.inl rfl) ⟨hKp36, Or.inr ⟨rfl, ⟨hno, AKY.of har ark⟩⟩⟩ hC36 hS36
          · have hno : ∀ (S1 : YSt) (i1 : Nat), ¬ gPart kd vl S i S1 i1 := fun S1 i1 q => by rcases q with ⟨q1, q2⟩ | ⟨q1, q2⟩ | ⟨q1, q2⟩ | ⟨q1, q2⟩ | ⟨q1, q2⟩ <;> first | exact absurd q1 (by assumption) | exact hg _ _ q2 | exact absurd (okW_j q1 kw2 (by decide) (by decide)) (by decide) | exact absurd (okW_j q1 kw4 (by decide) (by decide)) (by decide) | exact absurd (okW_j q1 kw6 (by decide) (by decide)) (by decide) | exact absurd (okW_j q1 kw8 (by decide) (by decide)) (by decide) | exact absurd (okW_j q1 kw10 (by decide) (by decide)) (by decide)
            refine q_if_eq hx hb (a := 0) (by decide) (tgt := 140) dX10_takePart_125 rfl (fun c39 => ?_) (fun c39 => absurd c39 (by omega))
            refine lv_iconst (v := 0) hx hb dX10_takePart_140 rfl ?_
            exact ret 0 H34 locs34 _ _ dX10_takePart_141 (Or.inl rfl) ⟨hKp34, Or.inr ⟨rfl, ⟨hno, AKY.of har ark⟩⟩⟩ hC34 hS34
        · have kw8 := cu.isw E eq30 c32 (by decide)
          refine lv_aload_n hx hb dX10_takePart_96 rfl (lv_at hl 0 rfl) ?_
          refine lv_aload_n hx hb dX10_takePart_97 rfl (lv_at hl 1 rfl) ?_
          refine lv_aload_n hx hb dX10_takePart_98 rfl (lv_at hl 1 rfl) ?_
          refine q_getR E hC0 g1 fa_RX10_132 dX10_takePart_99 (fun q40 eq40 gq40 => ?_)
          refine lv_aload_n hx hb dX10_takePart_102 rfl (lv_at hl 0 rfl) ?_
          refine q_getR E hC0 g0 fa_RX10_18 dX10_takePart_103 (fun q41 eq41 gq41 => ?_)
          have etl := eq41
          refine q_word E hS0 (i := 9) (by decide) w_677 dX10_takePart_106 (fun g42 => ?_)
          refine lv_bipush (v := 9) hx hb dX10_takePart_109 rfl ?_
          refine q_goI (q_runV (As := [.ref h1, .ref q40, .ref q41, va_rf (some (wad X 9)), .int 9]) (rest := []) E hC0 hS0 (m_X10_takeHeap_77 l X Γ H0 hC0 h0 g0 h1 g1 q40 gq40 q41 gq41 (some (wad X 9)) (fun _ h => by cases h; exact g42) 9 (a5 := 9) (by decide) ra gra ur kd vl N (_) S cu ys 9 (by decide) rfl etl (by first | exact kw4.1 | exact kw6.1 | exact kw8.1)) cw_X10_takeHeap cl_RX10_119 g0 ⟨rfl, rfl⟩ rfl hl.1 rfl (Nat.zero_le _) (by decide) dX10_takePart_111) hS0 (fun v43 H43 locs43 hr43 hC43 hS43 => ?_)
          obtain ⟨hp43, hr43⟩ := hr43
          have hKp43 := hKp0.tr (hp43.mono rfl)
          have ark : ARK Γ H0 H43 ar := ark.kp hp43 rfl
          rcases hr43 with ⟨rfl, S1, i1, hg, cu, ys⟩ | ⟨rfl, hg⟩
          · have hyes : ∃ (S1 : YSt) (i1 : Nat), gPart kd vl S i S1 i1 ∧ CU X Γ H43 ra kd vl N i1 ∧ YSC X Γ H43 h0 h1 vl S1 ∧ AKY X Γ H0 H43 h1 := ⟨S1, i1, by first | exact Or.inl ⟨kw2, hg⟩ | exact Or.inr (Or.inl ⟨kw4, hg⟩) | exact Or.inr (Or.inr (Or.inl ⟨kw6, hg⟩)) | exact Or.inr (Or.inr (Or.inr (Or.inl ⟨kw8, hg⟩))) | exact Or.inr (Or.inr (Or.inr (Or.inr ⟨kw10, hg⟩))), cu, ys, AKY.of har ark⟩
            exact ret 1 H43 locs43 _ _ dX10_takePart_114 (Or.inr rfl) ⟨hKp43, Or.inl ⟨rfl, hyes⟩⟩ hC43 hS43
          · have hno : ∀ (S1 : YSt) (i1 : Nat), ¬ gPart kd vl S i S1 i1 := fun S1 i1 q => by rcases q with ⟨q1, q2⟩ | ⟨q1, q2⟩ | ⟨q1, q2⟩ | ⟨q1, q2⟩ | ⟨q1, q2⟩ <;> first | exact absurd q1 (by assumption) | exact hg _ _ q2 | exact absurd (okW_j q1 kw2 (by decide) (by decide)) (by decide) | exact absurd (okW_j q1 kw4 (by decide) (by decide)) (by decide) | exact absurd (okW_j q1 kw6 (by decide) (by decide)) (by decide) | exact absurd (okW_j q1 kw8 (by decide) (by decide)) (by decide) | exact absurd (okW_j q1 kw10 (by decide) (by decide)) (by decide)
            exact ret 0 H43 locs43 _ _ dX10_takePart_114 (Or.inl rfl) ⟨hKp43, Or.inr ⟨rfl, ⟨hno, AKY.of har ark⟩⟩⟩ hC43 hS43
      · have kw6 := cu.isw E eq27 c29 (by decide)
        refine lv_aload_n hx hb dX10_takePart_64 rfl (lv_at hl 0 rfl) ?_
        refine lv_aload_n hx hb dX10_takePart_65 rfl (lv_at hl 1 rfl) ?_
        refine lv_aload_n hx hb dX10_takePart_66 rfl (lv_at hl 1 rfl) ?_
        refine q_getR E hC0 g1 fa_RX10_57 dX10_takePart_67 (fun q44 eq44 gq44 => ?_)
        refine lv_aload_n hx hb dX10_takePart_70 rfl (lv_at hl 0 rfl) ?_
        refine q_getR E hC0 g0 fa_RX10_15 dX10_takePart_71 (fun q45 eq45 gq45 => ?_)
        have etl := eq45
        refine q_word E hS0 (i := 7) (by decide) w_673 dX10_takePart_74 (fun g46 => ?_)
        refine lv_bipush (v := 99) hx hb dX10_takePart_77 rfl ?_
        refine q_goI (q_runV (As := [.ref h1, .ref q44, .ref q45, va_rf (some (wad X 7)), .int 99]) (rest := []) E hC0 hS0 (m_X10_takeHeap_76 l X Γ H0 hC0 h0 g0 h1 g1 q44 gq44 q45 gq45 (some (wad X 7)) (fun _ h => by cases h; exact g46) 99 (a5 := 99) (by decide) ra gra ur kd vl N (_) S cu ys 7 (by decide) rfl etl (by first | exact kw4.1 | exact kw6.1 | exact kw8.1)) cw_X10_takeHeap cl_RX10_119 g0 ⟨rfl, rfl⟩ rfl hl.1 rfl (Nat.zero_le _) (by decide) dX10_takePart_79) hS0 (fun v47 H47 locs47 hr47 hC47 hS47 => ?_)
        obtain ⟨hp47, hr47⟩ := hr47
        have hKp47 := hKp0.tr (hp47.mono rfl)
        have ark : ARK Γ H0 H47 ar := ark.kp hp47 rfl
        rcases hr47 with ⟨rfl, S1, i1, hg, cu, ys⟩ | ⟨rfl, hg⟩
        · have hyes : ∃ (S1 : YSt) (i1 : Nat), gPart kd vl S i S1 i1 ∧ CU X Γ H47 ra kd vl N i1 ∧ YSC X Γ H47 h0 h1 vl S1 ∧ AKY X Γ H0 H47 h1 := ⟨S1, i1, by first | exact Or.inl ⟨kw2, hg⟩ | exact Or.inr (Or.inl ⟨kw4, hg⟩) | exact Or.inr (Or.inr (Or.inl ⟨kw6, hg⟩)) | exact Or.inr (Or.inr (Or.inr (Or.inl ⟨kw8, hg⟩))) | exact Or.inr (Or.inr (Or.inr (Or.inr ⟨kw10, hg⟩))), cu, ys, AKY.of har ark⟩
          exact ret 1 H47 locs47 _ _ dX10_takePart_82 (Or.inr rfl) ⟨hKp47, Or.inl ⟨rfl, hyes⟩⟩ hC47 hS47
        · have hno : ∀ (S1 : YSt) (i1 : Nat), ¬ gPart kd vl S i S1 i1 := fun S1 i1 q => by rcases q with ⟨q1, q2⟩ | ⟨q1, q2⟩ | ⟨q1, q2⟩ | ⟨q1, q2⟩ | ⟨q1, q2⟩ <;> first | exact absurd q1 (by assumption) | exact hg _ _ q2 | exact absurd (okW_j q1 kw2 (by decide) (by decide)) (by decide) | exact absurd (okW_j q1 kw4 (by decide) (by decide)) (by decide) | exact absurd (okW_j q1 kw6 (by decide) (by decide)) (by decide) | exact absurd (okW_j q1 kw8 (by decide) (by decide)) (by decide) | exact absurd (okW_j q1 kw10 (by decide) (by decide)) (by decide)
          exact ret 0 H47 locs47 _ _ dX10_takePart_82 (Or.inl rfl) ⟨hKp47, Or.inr ⟨rfl, ⟨hno, AKY.of har ark⟩⟩⟩ hC47 hS47
    · have kw4 := cu.isw E eq24 c26 (by decide)
      refine lv_aload_n hx hb dX10_takePart_32 rfl (lv_at hl 0 rfl) ?_
      refine lv_aload_n hx hb dX10_takePart_33 rfl (lv_at hl 1 rfl) ?_
      refine lv_aload_n hx hb dX10_takePart_34 rfl (lv_at hl 1 rfl) ?_
      refine q_getR E hC0 g1 fa_RX10_113 dX10_takePart_35 (fun q48 eq48 gq48 => ?_)
      refine lv_aload_n hx hb dX10_takePart_38 rfl (lv_at hl 0 rfl) ?_
      refine q_getR E hC0 g0 fa_RX10_9 dX10_takePart_39 (fun q49 eq49 gq49 => ?_)
      have etl := eq49
      refine q_word E hS0 (i := 5) (by decide) w_665 dX10_takePart_42 (fun g50 => ?_)
      refine lv_bipush (v := 99) hx hb dX10_takePart_45 rfl ?_
      refine q_goI (q_runV (As := [.ref h1, .ref q48, .ref q49, va_rf (some (wad X 5)), .int 99]) (rest := []) E hC0 hS0 (m_X10_takeHeap_42 l X Γ H0 hC0 h0 g0 h1 g1 q48 gq48 q49 gq49 (some (wad X 5)) (fun _ h => by cases h; exact g50) 99 (a5 := 99) (by decide) ra gra ur kd vl N (_) S cu ys 5 (by decide) rfl etl (by first | exact kw4.1 | exact kw6.1 | exact kw8.1)) cw_X10_takeHeap cl_RX10_119 g0 ⟨rfl, rfl⟩ rfl hl.1 rfl (Nat.zero_le _) (by decide) dX10_takePart_47) hS0 (fun v51 H51 locs51 hr51 hC51 hS51 => ?_)
      obtain ⟨hp51, hr51⟩ := hr51
      have hKp51 := hKp0.tr (hp51.mono rfl)
      have ark : ARK Γ H0 H51 ar := ark.kp hp51 rfl
      rcases hr51 with ⟨rfl, S1, i1, hg, cu, ys⟩ | ⟨rfl, hg⟩
      · have hyes : ∃ (S1 : YSt) (i1 : Nat), gPart kd vl S i S1 i1 ∧ CU X Γ H51 ra kd vl N i1 ∧ YSC X Γ H51 h0 h1 vl S1 ∧ AKY X Γ H0 H51 h1 := ⟨S1, i1, by first | exact Or.inl ⟨kw2, hg⟩ | exact Or.inr (Or.inl ⟨kw4, hg⟩) | exact Or.inr (Or.inr (Or.inl ⟨kw6, hg⟩)) | exact Or.inr (Or.inr (Or.inr (Or.inl ⟨kw8, hg⟩))) | exact Or.inr (Or.inr (Or.inr (Or.inr ⟨kw10, hg⟩))), cu, ys, AKY.of har ark⟩
        exact ret 1 H51 locs51 _ _ dX10_takePart_50 (Or.inr rfl) ⟨hKp51, Or.inl ⟨rfl, hyes⟩⟩ hC51 hS51
      · have hno : ∀ (S1 : YSt) (i1 : Nat), ¬ gPart kd vl S i S1 i1 := fun S1 i1 q => by rcases q with ⟨q1, q2⟩ | ⟨q1, q2⟩ | ⟨q1, q2⟩ | ⟨q1, q2⟩ | ⟨q1, q2⟩ <;> first | exact absurd q1 (by assumption) | exact hg _ _ q2 | exact absurd (okW_j q1 kw2 (by decide) (by decide)) (by decide) | exact absurd (okW_j q1 kw4 (by decide) (by decide)) (by decide) | exact absurd (okW_j q1 kw6 (by decide) (by decide)) (by decide) | exact absurd (okW_j q1 kw8 (by decide) (by decide)) (by decide) | exact absurd (okW_j q1 kw10 (by decide) (by decide)) (by decide)
        exact ret 0 H51 locs51 _ _ dX10_takePart_50 (Or.inl rfl) ⟨hKp51, Or.inr ⟨rfl, ⟨hno, AKY.of har ark⟩⟩⟩ hC51 hS51
  · have kw2 := cu.isw E eq21 c23 (by decide)
    refine lv_aload_n hx hb dX10_takePart_13 rfl (lv_at hl 0 rfl) ?_
    refine lv_aload_n hx hb dX10_takePart_14 rfl (lv_at hl 1 rfl) ?_
    refine q_goI (q_runV (As := [.ref h1]) (rest := []) E hC0 hS0 (m_X10_takeSchool l X Γ H0 hC0 h0 g0 h1 g1 ra gra ur kd vl N (_) S cu ys kw2) cw_X10_takeSchool cl_RX10_107 g0 ⟨rfl, rfl⟩ rfl hl.1 rfl (Nat.zero_le _) (by decide) dX10_takePart_15) hS0 (fun v52 H52 locs52 hr52 hC52 hS52 => ?_)
    obtain ⟨hp52, hr52⟩ := hr52
    have hKp52 := hKp0.tr (hp52.mono rfl)
    have ark : ARK Γ H0 H52 ar := ark.kp hp52 rfl
    rcases hr52 with ⟨rfl, S1, i1, hg, cu, ys⟩ | ⟨rfl, hg⟩
    · have hyes : ∃ (S1 : YSt) (i1 : Nat), gPart kd vl S i S1 i1 ∧ CU X Γ H52 ra kd vl N i1 ∧ YSC X Γ H52 h0 h1 vl S1 ∧ AKY X Γ H0 H52 h1 := ⟨S1, i1, by first | exact Or.inl ⟨kw2, hg⟩ | exact Or.inr (Or.inl ⟨kw4, hg⟩) | exact Or.inr (Or.inr (Or.inl ⟨kw6, hg⟩)) | exact Or.inr (Or.inr (Or.inr (Or.inl ⟨kw8, hg⟩))) | exact Or.inr (Or.inr (Or.inr (Or.inr ⟨kw10, hg⟩))), cu, ys, AKY.of har ark⟩
      exact ret 1 H52 locs52 _ _ dX10_takePart_18 (Or.inr rfl) ⟨hKp52, Or.inl ⟨rfl, hyes⟩⟩ hC52 hS52
    · have hno : ∀ (S1 : YSt) (i1 : Nat), ¬ gPart kd vl S i S1 i1 := fun S1 i1 q => by rcases q with ⟨q1, q2⟩ | ⟨q1, q2⟩ | ⟨q1, q2⟩ | ⟨q1, q2⟩ | ⟨q1, q2⟩ <;> first | exact absurd q1 (by assumption) | exact hg _ _ q2 | exact absurd (okW_j q1 kw2 (by decide) (by decide)) (by decide) | exact absurd (okW_j q1 kw4 (by decide) (by decide)) (by decide) | exact absurd (okW_j q1 kw6 (by decide) (by decide)) (by decide) | exact absurd (okW_j q1 kw8 (by decide) (by decide)) (by decide) | exact absurd (okW_j q1 kw10 (by decide) (by decide)) (by decide)
      exact ret 0 H52 locs52 _ _ dX10_takePart_18 (Or.inl rfl) ⟨hKp52, Or.inr ⟨rfl, ⟨hno, AKY.of har ark⟩⟩⟩ hC52 hS52
set_option maxRecDepth 100000 in
set_option maxHeartbeats 4000000 in
theorem m_X10_parse (l : Launch) (X : xW) (Γ : Nat → Option Nat) (H0 : Heap) (hC0 : Conf X Γ H0) (h0 : Nat) (g0 : Γ h0 = some 3) (p1 : Int32) {a1 : Int} (e1 : p1.toInt = a1) (h2 : Nat) (g2 : Γ h2 = some 5) (ra : Nat) (gra : Γ ra = some 2) (ur : ∀ a, Γ a = some 2 → a = ra) (tp : Nat) (htp : sR H0 ra (X.1.2 4 0) = some tp) (gtp : Γ tp = some 25) (r0 : 0 ≤ a1) (r1 : a1 ≤ 900) : Ctr l X Γ yX10_parse cX10_parse 4 (some .boolean) 6 [.ref h0, .int p1, .ref h2] H0 (QI X Γ (fun v H1 => Kp X Γ [0, 2, 3, 4, 5, 18, 21, 23, 25, 27, 29, 37, 39, 41] H0 H1 ∧ ((v = 0 ∨ v = 1) ∧ (∃ (kd vl w3 : Nat → Int) (pos : Nat → Nat) (N : Nat), TKS (bf H0 tp) (a1).toNat N pos kd vl w3 ∧ AKY X Γ H0 H1 h2 ∧ ((v = 1 ∧ ∃ w h, gYard kd vl w h ∧ (sI H1 h2 (X.1.2 8 0)).toInt = w ∧ (sI H1 h2 (X.1.2 8 1)).toInt = h ∧ ∃ T, gFin kd vl 1000 (Si0 vl) 5 T ∧ ∀ t, sR H0 h2 (X.1.2 8 10) = some t → ∀ k : Nat, k < 4 → (sI H1 t k).toInt = T.2.2.2.2.2 k) ∨ (v = 0 ∧ ∀ w h, ¬ gYard kd vl w h)))))) := by
  refine q_enterZ (own := "SnowForts$YardText") (by decide) rfl (Nat.le_of_ble_eq_true rfl) ?_
  intro p e s m args below meth c ls Qz E hl ret hS0
  have hx := E.1; have hb := E.2.1
  have hKp0 : Kp X Γ [0, 2, 3, 4, 5, 18, 21, 23, 25, 27, 29, 37, 39, 41] H0 H0 := Kp.rf
  have hl : lv_has ls 4 [(0, .ref h0), (1, .int p1), (2, .ref h2)] := hl
  have gyt := g0; have gyy := g2
  obtain ⟨ar, har, gar⟩ := f_ref hC0 g2 (ci := 8) (kf := 10) rfl rfl
  have gat := gar
  have tpt : ∀ j, sI H0 tp j = sI H0 tp j := fun _ => rfl
  refine lv_aload_n hx hb dX10_parse_0 rfl (lv_at hl 2 rfl) ?_
  refine q_goV (q_runV (As := []) (rest := []) E hC0 hS0 (m_X9_clear l X Γ H0 hC0 h2 g2) cw_X9_clear cl_RX10_25 g2 ⟨rfl, rfl⟩ rfl hl.1 rfl (Nat.zero_le _) (by decide) dX10_parse_1) hS0 (fun H21 locs21 hr21 hC21 hS21 => ?_)
  obtain ⟨hp21, hr21⟩ := hr21
  have hKp21 := hKp0.tr (hp21.mono rfl)
  have tpt : ∀ j, sI H21 tp j = sI H0 tp j := fun j => (kp_aI hp21 j gtp rfl rfl).trans (tpt j)
  obtain ⟨f21_0, f21_1⟩ := hr21
  have ycl := f21_0
  have ark : ARK Γ H0 H21 ar := f21_1 ar har
  refine lv_aload_n hx hb dX10_parse_4 rfl (lv_at hl 0 rfl) ?_
  refine q_getR E hC21 g0 fa_RX10_9 dX10_parse_5 (fun q22 eq22 gq22 => ?_)
  have eq1 := eq22; have gq1 := gq22
  refine lv_iconst (v := 0) hx hb dX10_parse_8 rfl ?_
  refine q_goV (q_runS (As := [.ref q22, .int 0]) (rest := []) E hS21 (m_fillI l X Γ H21 hC21 q22 gq22 (by decide) rfl rfl (fun _ => rfl) (by decide) 0) cw_J7_fill_53178 cl_RX10_30 rfl hl.1 rfl (Nat.zero_le _) (by decide) dX10_parse_9) hS21 (fun H23 locs23 U23 hC23 hS23 => ?_)
  obtain ⟨U23, F23⟩ := U23
  have hKp23 := Kp.upC gq22 rfl (by decide) rfl U23 hKp21
  have tpt : ∀ j, sI H23 tp j = sI H0 tp j := fun j => (cp_I U23 (nek gtp gq22 (by decide))).trans (tpt j)
  have ycl := ycl.cp gyy U23 gq22 (by decide)
  have ark : ARK Γ H0 H23 ar := ark.cp U23 gq22 (by decide)
  have tz1 := TZO.mk (k := 42) gyt eq1 gq1 (by decide) U23 F23
  refine lv_aload_n hx hb dX10_parse_12 rfl (lv_at hl 0 rfl) ?_
  refine q_getR E hC23 g0 fa_RX10_15 dX10_parse_13 (fun q24 eq24 gq24 => ?_)
  have eq2 := eq24; have gq2 := gq24
  refine lv_iconst (v := 0) hx hb dX10_parse_16 rfl ?_
  refine q_goV (q_runS (As := [.ref q24, .int 0]) (rest := []) E hS23 (m_fillI l X Γ H23 hC23 q24 gq24 (by decide) rfl rfl (fun _ => rfl) (by decide) 0) cw_J7_fill_53178 cl_RX10_30 rfl hl.1 rfl (Nat.zero_le _) (by decide) dX10_parse_17) hS23 (fun H25 locs25 U25 hC25 hS25 => ?_)
  obtain ⟨U25, F25⟩ := U25
  have hKp25 := Kp.upC gq24 rfl (by decide) rfl U25 hKp23
  have tpt : ∀ j, sI H25 tp j = sI H0 tp j := fun j => (cp_I U25 (nek gtp gq24 (by decide))).trans (tpt j)
  have ycl := ycl.cp gyy U25 gq24 (by decide)
  have ark : ARK Γ H0 H25 ar := ark.cp U25 gq24 (by decide)
  have tz1 := tz1.cp gyt U25 gq24 (by decide)
  have tz2 := TZO.mk (k := 76) gyt eq2 gq2 (by decide) U25 F25
  refine lv_aload_n hx hb dX10_parse_20 rfl (lv_at hl 0 rfl) ?_
  refine q_getR E hC25 g0 fa_RX10_18 dX10_parse_21 (fun q26 eq26 gq26 => ?_)
  have eq3 := eq26; have gq3 := gq26
  refine lv_iconst (v := 0) hx hb dX10_parse_24 rfl ?_
  refine q_goV (q_runS (As := [.ref q26, .int 0]) (rest := []) E hS25 (m_fillI l X Γ H25 hC25 q26 gq26 (by decide) rfl rfl (fun _ => rfl) (by decide) 0) cw_J7_fill_53178 cl_RX10_30 rfl hl.1 rfl (Nat.zero_le _) (by decide) dX10_parse_25) hS25 (fun H27 locs27 U27 hC27 hS27 => ?_)
  obtain ⟨U27, F27⟩ := U27
  have hKp27 := Kp.upC gq26 rfl (by decide) rfl U27 hKp25
  have tpt : ∀ j, sI H27 tp j = sI H0 tp j := fun j => (cp_I U27 (nek gtp gq26 (by decide))).trans (tpt j)
  have ycl := ycl.cp gyy U27 gq26 (by decide)
  have ark : ARK Γ H0 H27 ar := ark.cp U27 gq26 (by decide)
  have tz1 := tz1.cp gyt U27 gq26 (by decide)
  have tz2 := tz2.cp gyt U27 gq26 (by decide)
  have tz3 := TZO.mk (k := 77) gyt eq3 gq3 (by decide) U27 F27
  refine lv_aload_n hx hb dX10_parse_28 rfl (lv_at hl 0 rfl) ?_
  refine q_getU E hC27 g0 fa_RX10_21 ur dX10_parse_29 ?_
  refine lv_iload_n hx hb dX10_parse_32 rfl (lv_at hl 1 rfl) ?_
  have tb := bf_eq tpt
  refine q_goV (q_runV (As := [.int p1]) (rest := []) E hC27 hS27 (m_X4_start l X Γ H27 hC27 ra gra p1 (a1 := a1) e1 tp ((kp_R hKp27 gra (ci := 4) (k := 0) rfl (by decide) rfl).trans htp) gtp (by omega) (by omega)) cw_X4_start cl_RX10_36 gra ⟨rfl, rfl⟩ rfl hl.1 rfl (Nat.zero_le _) (by decide) dX10_parse_33) hS27 (fun H28 locs28 hr28 hC28 hS28 => ?_)
  obtain ⟨hp28, hr28⟩ := hr28
  have hKp28 := hKp27.tr (hp28.mono rfl)
  have tpt : ∀ j, sI H28 tp j = sI H0 tp j := fun j => (kp_aI hp28 j gtp rfl rfl).trans (tpt j)
  have ycl := ycl.kp gyy hp28 rfl
  have ark : ARK Γ H0 H28 ar := ark.kp hp28 rfl
  have tz1 := tz1.kp gyt hp28 rfl (by decide)
  have tz2 := tz2.kp gyt hp28 rfl (by decide)
  have tz3 := tz3.kp gyt hp28 rfl (by decide)
  have f28_0 := hr28
  obtain ⟨kd, vl, w3, pos, N, htk, cu⟩ := f28_0
  rw [tb] at htk
  have ys := YSC.start (vl := vl) ycl tz1 tz2 tz3
  have cu := cu
  refine lv_aload_n hx hb dX10_parse_36 rfl (lv_at hl 0 rfl) ?_
  refine lv_aload_n hx hb dX10_parse_37 rfl (lv_at hl 2 rfl) ?_
  refine q_goI (q_runV (As := [.ref h2]) (rest := []) E hC28 hS28 (m_X10_takeSize l X Γ H28 hC28 h0 g0 h2 g2 ra gra ur kd vl N 0 (2, 1, 0, 0, (fun _ _ => 0), fun _ => -1) cu ys rfl) cw_X10_takeSize cl_RX10_42 g0 ⟨rfl, rfl⟩ rfl hl.1 rfl (Nat.zero_le _) (by decide) dX10_parse_38) hS28 (fun v29 H29 locs29 hr29 hC29 hS29 => ?_)
  obtain ⟨hp29, hr29⟩ := hr29
  have hKp29 := hKp28.tr (hp29.mono rfl)
  have ark : ARK Γ H0 H29 ar := ark.kp hp29 rfl
  rcases hr29 with ⟨rfl, S1, hg, hS, cu, ys⟩ | ⟨rfl, hg⟩
  · have hyi := fun w h => yard_iff (w := w) (h := h) hg hS
    have hSi := Si0_eq hg hS
    refine q_if_ne hx hb (a := 1) (by decide) (tgt := 46) dX10_parse_41 rfl (fun c30 => ?_) (fun c30 => absurd c30 (by omega))
    refine lv_iconst (v := 0) hx hb dX10_parse_46 rfl ?_
    refine lv_istore_n hx hb dX10_parse_47 rfl hl (by decide) rfl (fun ls hl => ?_)
    have hl : lv_has ls 4 [(3, .int 0), (0, .ref h0), (1, .int p1), (2, .ref h2)] := hl
    have L48 : ∀ (n32 : Nat) (H32 : Heap) (locs32 : List Loc) (v31 : Int32) (z31 : Int) (ls : Array Slot), (900 - z31).toNat < n32 → v31.toInt = z31 → z31 ≤ 900 → 0 ≤ z31 → PIV X Γ H32 ra h0 h2 kd vl N S1 z31 → Conf X Γ H32 → va_S (AΓ Γ) H0 H32 locs32 → Kp X Γ [0, 2, 3, 4, 5, 18, 21, 23, 25, 27, 29, 37, 39, 41] H0 H32 → (ARK Γ H0 H32 ar) → lv_has ls 4 [(3, .int v31), (0, .ref h0), (1, .int p1), (2, .ref h2)] → W p l e (rmL 6) s m args below meth c H32 locs32 0 0 Qz (F0 m 48 ls []) := by
      intro n32
      induction n32 with
      | zero => intro H32 locs32 v31 z31 ls hm32 ev31 iv32_0 iv32_1 iv32_2 hC32 hS32 hKp32 ark hl; exact absurd hm32 (Nat.not_lt_zero _)
      | succ n32 ih32 =>
        intro H32 locs32 v31 z31 ls hm32 ev31 iv32_0 iv32_1 iv32_2 hC32 hS32 hKp32 ark hl
        obtain ⟨S, i, f, cu, ys, hgw, hgh, hga, hgi, hgf, hgt⟩ := iv32_2
        have hiN := cu.2.2.2
        have hcuk := cu.kk
        have cu := cu
        have ys := ys
        refine lv_iload_n hx hb dX10_parse_48 rfl (lv_at hl 0 rfl) ?_
        refine lv_sipush (v := 900) hx hb dX10_parse_49 rfl ?_
        refine q_icmp_ge hx hb (a := z31) (b := 900) ev31 (by decide) (tgt := 93) dX10_parse_52 rfl (fun c33 => ?_) (fun c33 => ?_)
        · have hacc : gAcc kd vl 1000 S1 5 := by first | exact hga.mp (by obtain ⟨f2, rfl⟩ : ∃ f2, f = f2 + 1 := ⟨f - 1, by have := cu.2.2.2; omega⟩; exact gAcc_end (by have := cu.kk; omega)) | (exfalso; have q1 := cu.2.2.2; have q2 := cu.2.1.1; omega)
          have hw0 := ys.1.trans hgw; have hh0 := ys.2.1.trans hgh
          have gsy := g2
          have yw : (sI H32 h2 (X.1.2 8 0)).toInt = S1.1 := hw0
          have yh : (sI H32 h2 (X.1.2 8 1)).toInt = S1.2.1 := hh0
          have hfin : gFin kd vl 1000 S1 5 S := by first | exact hgt S (by obtain ⟨f2, rfl⟩ : ∃ f2, f = f2 + 1 := ⟨f - 1, by have := cu.2.2.2; omega⟩; exact gFin_end (by have := cu.kk; omega)) | (exfalso; have q1 := cu.2.2.2; have q2 := cu.2.1.1; omega)
          obtain ⟨tr9, hr9, gr9, ha9⟩ := ys.2.2.2.2.2.2.2.2
          have yar : ∀ k : Nat, k < 4 → (sI H32 ar k).toInt = S.2.2.2.2.2 k := by have e9 := Option.some.inj ((((kp_R hKp32 g2 (ci := 8) (k := 10) rfl (by decide) rfl).trans har)).symm.trans hr9); rw [e9]; exact ha9
          refine lv_aload_n hx hb dX10_parse_93 rfl (lv_at hl 3 rfl) ?_
          refine q_getR E hC32 g2 fa_RX10_57 dX10_parse_94 (fun q34 eq34 gq34 => ?_)
          refine lv_iconst (v := 0) hx hb dX10_parse_97 rfl ?_
          refine lv_aload_n hx hb dX10_parse_98 rfl (lv_at hl 3 rfl) ?_
          refine q_getR E hC32 g2 fa_RX10_60 dX10_parse_99 (fun q35 eq35 gq35 => ?_)
          refine lv_iconst (v := 0) hx hb dX10_parse_102 rfl ?_
          refine lv_bipush (v := 36) hx hb dX10_parse_103 rfl ?_
          refine q_copyI E hl.1 w_703 arrw hC32 hS32 gq34 gq35 (by decide) rfl rfl rfl rfl (fun _ => rfl) (fun _ => rfl) (a := 0) (b := 0) (d := 36) (show (0 : Int32).toInt = 0 from by decide) (show (0 : Int32).toInt = 0 from by decide) (show (36 : Int32).toInt = 36 from by decide) (by omega) (by omega) (by omega) (by omega) (by omega) (by decide) (Nat.zero_le _) dX10_parse_105 (fun H36 locs36 hC36 hS36 U36 => ?_)
          obtain ⟨U36, C36⟩ := U36
          have hKp36 := Kp.upC gq35 rfl (by decide) rfl U36 hKp32
          have ark : ARK Γ H0 H36 ar := ark.cp U36 gq35 (by decide)
          have yw : (sI H36 h2 (X.1.2 8 0)).toInt = S1.1 := (congrArg Int32.toInt (cp_I U36 (nek gsy gq35 (by decide)))).trans yw
          have yh : (sI H36 h2 (X.1.2 8 1)).toInt = S1.2.1 := (congrArg Int32.toInt (cp_I U36 (nek gsy gq35 (by decide)))).trans yh
          have yar : ∀ k : Nat, k < 4 → (sI H36 ar k).toInt = S.2.2.2.2.2 k := fun k hk => by rw [cp_I U36 (nek gat gq35 (by decide))]; exact yar k hk
          refine lv_iconst (v := 1) hx hb dX10_parse_108 rfl ?_
          exact ret 1 H36 locs36 _ _ dX10_parse_109 (Or.inr rfl) ⟨hKp36, ⟨Or.inr rfl, ⟨kd, vl, w3, pos, N, htk, AKY.of har ark, Or.inl ⟨rfl, S1.1, S1.2.1, (hyi _ _).mpr ⟨rfl, rfl, hacc⟩, yw, yh, S, by rw [← hSi]; exact hfin, fun t q k hk => by rw [← Option.some.inj (har.symm.trans q)]; exact yar k hk⟩⟩⟩⟩ hC36 hS36
        · refine lv_aload_n hx hb dX10_parse_55 rfl (lv_at hl 1 rfl) ?_
          refine q_getU E hC32 g0 fa_RX10_21 ur dX10_parse_56 ?_
          refine q_getI E hC32 gra fa_RX10_46 dX10_parse_59 (fun v37 ev37 _ _ => ?_)
          have m38 : (sI H32 ra (X.1.2 4 9)).toInt = v37.toInt := congrArg Int32.toInt ev37
          refine q_if_eq hx hb (a := v37.toInt) rfl (tgt := 93) dX10_parse_62 rfl (fun c39 => ?_) (fun c39 => ?_)
          · have hacc : gAcc kd vl 1000 S1 5 := by first | exact hga.mp (by obtain ⟨f2, rfl⟩ : ∃ f2, f = f2 + 1 := ⟨f - 1, by have := cu.2.2.2; omega⟩; exact gAcc_end (by have := cu.kk; omega)) | (exfalso; have q1 := cu.2.2.2; have q2 := cu.2.1.1; omega)
            have hw0 := ys.1.trans hgw; have hh0 := ys.2.1.trans hgh
            have gsy := g2
            have yw : (sI H32 h2 (X.1.2 8 0)).toInt = S1.1 := hw0
            have yh : (sI H32 h2 (X.1.2 8 1)).toInt = S1.2.1 := hh0
            have hfin : gFin kd vl 1000 S1 5 S := by first | exact hgt S (by obtain ⟨f2, rfl⟩ : ∃ f2, f = f2 + 1 := ⟨f - 1, by have := cu.2.2.2; omega⟩; exact gFin_end (by have := cu.kk; omega)) | (exfalso; have q1 := cu.2.2.2; have q2 := cu.2.1.1; omega)
            obtain ⟨tr9, hr9, gr9, ha9⟩ := ys.2.2.2.2.2.2.2.2
            have yar : ∀ k : Nat, k < 4 → (sI H32 ar k).toInt = S.2.2.2.2.2 k := by have e9 := Option.some.inj ((((kp_R hKp32 g2 (ci := 8) (k := 10) rfl (by decide) rfl).trans har)).symm.trans hr9); rw [e9]; exact ha9
            refine lv_aload_n hx hb dX10_parse_93 rfl (lv_at hl 3 rfl) ?_
            refine q_getR E hC32 g2 fa_RX10_57 dX10_parse_94 (fun q40 eq40 gq40 => ?_)
            refine lv_iconst (v := 0) hx hb dX10_parse_97 rfl ?_
            refine lv_aload_n hx hb dX10_parse_98 rfl (lv_at hl 3 rfl) ?_
            refine q_getR E hC32 g2 fa_RX10_60 dX10_parse_99 (fun q41 eq41 gq41 => ?_)
            refine lv_iconst (v := 0) hx hb dX10_parse_102 rfl ?_
            refine lv_bipush (v := 36) hx hb dX10_parse_103 rfl ?_
            refine q_copyI E hl.1 w_703 arrw hC32 hS32 gq40 gq41 (by decide) rfl rfl rfl rfl (fun _ => rfl) (fun _ => rfl) (a := 0) (b := 0) (d := 36) (show (0 : Int32).toInt = 0 from by decide) (show (0 : Int32).toInt = 0 from by decide) (show (36 : Int32).toInt = 36 from by decide) (by omega) (by omega) (by omega) (by omega) (by omega) (by decide) (Nat.zero_le _) dX10_parse_105 (fun H42 locs42 hC42 hS42 U42 => ?_)
            obtain ⟨U42, C42⟩ := U42
            have hKp42 := Kp.upC gq41 rfl (by decide) rfl U42 hKp32
            have ark : ARK Γ H0 H42 ar := ark.cp U42 gq41 (by decide)
            have yw : (sI H42 h2 (X.1.2 8 0)).toInt = S1.1 := (congrArg Int32.toInt (cp_I U42 (nek gsy gq41 (by decide)))).trans yw
            have yh : (sI H42 h2 (X.1.2 8 1)).toInt = S1.2.1 := (congrArg Int32.toInt (cp_I U42 (nek gsy gq41 (by decide)))).trans yh
            have yar : ∀ k : Nat, k < 4 → (sI H42 ar k).toInt = S.2.2.2.2.2 k := fun k hk => by rw [cp_I U42 (nek gat gq41 (by decide))]; exact yar k hk
            refine lv_iconst (v := 1) hx hb dX10_parse_108 rfl ?_
            exact ret 1 H42 locs42 _ _ dX10_parse_109 (Or.inr rfl) ⟨hKp42, ⟨Or.inr rfl, ⟨kd, vl, w3, pos, N, htk, AKY.of har ark, Or.inl ⟨rfl, S1.1, S1.2.1, (hyi _ _).mpr ⟨rfl, rfl, hacc⟩, yw, yh, S, by rw [← hSi]; exact hfin, fun t q k hk => by rw [← Option.some.inj (har.symm.trans q)]; exact yar k hk⟩⟩⟩⟩ hC42 hS42
          · have hk0 : kd i ≠ 0 := by omega
            refine lv_aload_n hx hb dX10_parse_65 rfl (lv_at hl 1 rfl) ?_
            refine lv_aload_n hx hb dX10_parse_66 rfl (lv_at hl 3 rfl) ?_
            have hare := ((kp_R hKp32 g2 (ci := 8) (k := 10) rfl (by decide) rfl).trans har)
            refine q_goI (q_runV (As := [.ref h2]) (rest := []) E hC32 hS32 (m_X10_takePart l X Γ H32 hC32 h0 g0 h2 g2 ra gra ur kd vl N (_) S cu ys) cw_X10_takePart cl_RX10_50 g0 ⟨rfl, rfl⟩ rfl hl.1 rfl (Nat.zero_le _) (by decide) dX10_parse_67) hS32 (fun v43 H43 locs43 hr43 hC43 hS43 => ?_)
            obtain ⟨hp43, hr43⟩ := hr43
            have hKp43 := hKp32.tr (hp43.mono rfl)
            rcases hr43 with ⟨rfl, S1, i1, hg, cu, ys, ak⟩ | ⟨rfl, hg, ak⟩
            · have ark : ARK Γ H0 H43 ar := ark.tr (ak ar hare)
              refine q_if_eq hx hb (a := 1) (by decide) (tgt := 85) dX10_parse_70 rfl (fun c44 => absurd c44 (by omega)) (fun c44 => ?_)
              refine lv_aload_n hx hb dX10_parse_73 rfl (lv_at hl 1 rfl) ?_
              refine q_getU E hC43 g0 fa_RX10_21 ur dX10_parse_74 ?_
              refine lv_bipush (v := 59) hx hb dX10_parse_77 rfl ?_
              refine q_goI (q_runV (As := [.int 59]) (rest := []) E hC43 hS43 (m_X4_takeSign l X Γ H43 hC43 ra gra 59 (a1 := 59) (by decide)) cw_X4_takeSign cl_RX10_53 gra ⟨rfl, rfl⟩ rfl hl.1 rfl (Nat.zero_le _) (by decide) dX10_parse_79) hS43 (fun v45 H45 locs45 hr45 hC45 hS45 => ?_)
              obtain ⟨hp45, hr45⟩ := hr45
              have hKp45 := hKp43.tr (hp45.mono rfl)
              have ark : ARK Γ H0 H45 ar := ark.kp hp45 rfl
              have ys := ys.kp hp45 gyt gyy rfl
              rcases hr45.2 kd vl N _ cu (by decide) with ⟨rfl, w59, cu⟩ | ⟨rfl, w59⟩
              · refine q_if_ne hx hb (a := 1) (by decide) (tgt := 87) dX10_parse_82 rfl (fun c46 => ?_) (fun c46 => absurd c46 (by omega))
                obtain ⟨v47, ev47⟩ : ∃ z, z = v31 + Int32.ofInt 1 := ⟨_, rfl⟩
                have ev47i : v47.toInt = (z31 + 1) := i_add ev47 ev31 (by decide) (by omega) (by omega)
                refine lv_iinc hx hb dX10_parse_87 hl (k := 0) rfl ev47.symm (by decide) rfl (fun ls hl => ?_)
                have hl : lv_has ls 4 [(3, .int v47), (0, .ref h0), (1, .int p1), (2, .ref h2)] := hl
                refine lv_goto (tgt := 48) hx hb dX10_parse_90 rfl ?_
                exact ih32 H45 locs45 v47 ((z31 + 1)) ls (by omega) ev47i (by omega) (by omega) (PIV.step hg hk0 w59 cu ys hgw hgh hga hgi hgf hgt hiN) hC45 hS45 hKp45 ark hl
              · have hno : ∀ w h, ¬ gYard kd vl w h := fun w h q => PIV.sign (N := N) hg hk0 w59 hga ((hyi w h).mp q).2.2
                refine q_if_ne hx hb (a := 0) (by decide) (tgt := 87) dX10_parse_82 rfl (fun c48 => absurd c48 (by omega)) (fun c48 => ?_)
                refine lv_iconst (v := 0) hx hb dX10_parse_85 rfl ?_
                exact ret 0 H45 locs45 _ _ dX10_parse_86 (Or.inl rfl) ⟨hKp45, ⟨Or.inl rfl, ⟨kd, vl, w3, pos, N, htk, AKY.of har ark, Or.inr ⟨rfl, hno⟩⟩⟩⟩ hC45 hS45
            · have ark : ARK Γ H0 H43 ar := ark.tr (ak ar hare)
              have hno : ∀ w h, ¬ gYard kd vl w h := fun w h q => PIV.part (N := N) hg (by have := cu.kk; omega) hga ((hyi w h).mp q).2.2
              refine q_if_eq hx hb (a := 0) (by decide) (tgt := 85) dX10_parse_70 rfl (fun c49 => ?_) (fun c49 => absurd c49 (by omega))
              refine lv_iconst (v := 0) hx hb dX10_parse_85 rfl ?_
              exact ret 0 H43 locs43 _ _ dX10_parse_86 (Or.inl rfl) ⟨hKp43, ⟨Or.inl rfl, ⟨kd, vl, w3, pos, N, htk, AKY.of har ark, Or.inr ⟨rfl, hno⟩⟩⟩⟩ hC43 hS43
    exact L48 _ H29 locs29 0 0 ls (Nat.lt_succ_self _) (by decide) (by omega) (by omega) (PIV.start cu ys) hC29 hS29 hKp29 ark hl
  · have hno : ∀ w h, ¬ gYard kd vl w h := fun w h q => hg w h q.1
    refine q_if_ne hx hb (a := 0) (by decide) (tgt := 46) dX10_parse_41 rfl (fun c50 => absurd c50 (by omega)) (fun c50 => ?_)
    refine lv_iconst (v := 0) hx hb dX10_parse_44 rfl ?_
    exact ret 0 H29 locs29 _ _ dX10_parse_45 (Or.inl rfl) ⟨hKp29, ⟨Or.inl rfl, ⟨kd, vl, w3, pos, N, htk, AKY.of har ark, Or.inr ⟨rfl, hno⟩⟩⟩⟩ hC29 hS29
set_option maxRecDepth 100000 in
set_option maxHeartbeats 4000000 in
theorem m_X2_clear (l : Launch) (X : xW) (Γ : Nat → Option Nat) (H0 : Heap) (hC0 : Conf X Γ H0) (h0 : Nat) (g0 : Γ h0 = some 6) : Ctr l X Γ yX2_clear cX2_clear 1 none 0 [.ref h0] H0 (QV X Γ (fun H1 => Kp X Γ [0, 2, 3, 4, 5, 18, 21, 23, 25, 27, 29, 31, 32, 33, 34, 37, 39, 40, 41] H0 H1)) := by
  refine q_enterV (own := "SnowForts$Orders") (by decide) rfl (Nat.le_of_ble_eq_true rfl) ?_
  intro p e s m args below meth c ls Qz E hl ret hS0
  have hx := E.1; have hb := E.2.1
  have hKp0 : Kp X Γ [0, 2, 3, 4, 5, 18, 21, 23, 25, 27, 29, 31, 32, 33, 34, 37, 39, 40, 41] H0 H0 := Kp.rf
  have hl : lv_has ls 1 [(0, .ref h0)] := hl
  refine lv_aload_n hx hb dX2_clear_0 rfl (lv_at hl 0 rfl) ?_
  refine lv_iconst (v := 0) hx hb dX2_clear_1 rfl ?_
  refine q_put E hC0 hS0 g0 fp_RX2_28 (tv_I (show (0 : Int32).toInt = 0 from by decide) (by omega) (by omega)) (z_of (z01 (show (0 : Int32).toInt = 0 from by decide) (by omega) (by omega))) (fit_B (z01 (show (0 : Int32).toInt = 0 from by decide) (by omega) (by omega))) dX2_clear_2 (fun H21 locs21 hC21 hS21 U21 => ?_)
  have hKp21 := Kp.upO E g0 fp_RX2_28 rfl U21 hKp0
  have e22 := up_I U21
  refine lv_aload_n hx hb dX2_clear_5 rfl (lv_at hl 0 rfl) ?_
  refine lv_iconst (v := 0) hx hb dX2_clear_6 rfl ?_
  refine q_put E hC21 hS21 g0 fp_RX2_32 tv_F rfl rfl dX2_clear_7 (fun H23 locs23 hC23 hS23 U23 => ?_)
  have hKp23 := Kp.upO E g0 fp_RX2_32 rfl U23 hKp21
  have e24 := up_I U23
  refine lv_aload_n hx hb dX2_clear_10 rfl (lv_at hl 0 rfl) ?_
  refine lv_iconst (v := 0) hx hb dX2_clear_11 rfl ?_
  refine q_put E hC23 hS23 g0 fp_RX2_36 tv_F rfl rfl dX2_clear_12 (fun H25 locs25 hC25 hS25 U25 => ?_)
  have hKp25 := Kp.upO E g0 fp_RX2_36 rfl U25 hKp23
  have e26 := up_I U25
  exact ret H25 locs25 _ _ dX2_clear_15 hKp25 hC25 hS25
set_option maxRecDepth 100000 in
set_option maxHeartbeats 4000000 in
theorem m_X11_answer (l : Launch) (X : xW) (Γ : Nat → Option Nat) (H0 : Heap) (hC0 : Conf X Γ H0) (h0 : Nat) (g0 : Γ h0 = some 0) (p1 : Int32) {a1 : Int} (e1 : p1.toInt = a1) : Ctr l X Γ yX11_answer cX11_answer 2 (some .int) 0 [.ref h0, .int p1] H0 (QI X Γ (fun v H1 => Kp X Γ [0, 2, 3, 4, 5, 18, 21, 23, 25, 27, 29, 31, 32, 33, 34, 37, 39, 40, 41] H0 H1 ∧ ((v.toInt = a1)))) := by
  refine q_enterI (own := "SnowForts") (by decide) rfl (Nat.le_of_ble_eq_true rfl) ?_
  intro p e s m args below meth c ls Qz E hl ret hS0
  have hx := E.1; have hb := E.2.1
  have hKp0 : Kp X Γ [0, 2, 3, 4, 5, 18, 21, 23, 25, 27, 29, 31, 32, 33, 34, 37, 39, 40, 41] H0 H0 := Kp.rf
  have hl : lv_has ls 2 [(0, .ref h0), (1, .int p1)] := hl
  refine lv_aload_n hx hb dX11_answer_0 rfl (lv_at hl 0 rfl) ?_
  refine lv_iconst (v := 0) hx hb dX11_answer_1 rfl ?_
  refine q_put E hC0 hS0 g0 fp_RX11_102 tv_F rfl rfl dX11_answer_2 (fun H21 locs21 hC21 hS21 U21 => ?_)
  have hKp21 := Kp.upO E g0 fp_RX11_102 rfl U21 hKp0
  have e22 := up_I U21
  refine lv_iload_n hx hb dX11_answer_5 rfl (lv_at hl 1 rfl) ?_
  have c23 : p1.toInt = a1 := e1
  exact ret p1 H21 locs21 _ _ dX11_answer_6 ⟨hKp21, by omega⟩ hC21 hS21
