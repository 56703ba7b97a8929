set_option maxRecDepth 100000 in
set_option maxHeartbeats 4000000 in
theorem m_X11_works (l : Launch) (X : xW) (Γ : Nat → Option Nat) (H0 : Heap) (hC0 : Conf X Γ H0) (h0 : Nat) (g0 : Γ h0 = some 0) (p1 : Int32) {a1 : Int} (e1 : p1.toInt = a1) (p2 : Int32) {a2 : Int} (e2 : p2.toInt = a2) (p3 : Int32) {a3 : Int} (e3 : p3.toInt = a3) (ta : Nat) (td nd : Nat → Nat) (sh : SHP X Γ H0 h0 ta td nd) (mo : Nat) (hmo : sR H0 h0 (X.1.2 10 13) = some mo) (gmo : Γ mo = some 8) : Ctr l X Γ yX11_works cX11_works 6 (some .long) 3 [.ref h0, .int p1, .int p2, .int p3] H0 (QJ X Γ (fun v H1 => Kp X Γ [0, 2, 3, 4, 18, 21, 23, 25, 27] H0 H1 ∧ (((WKY a1 a2 (sI H0 (td (a1 : Int).toNat) (X.1.2 6 2)).toInt (sI H0 (td (a2 : Int).toNat) (X.1.2 6 2)).toInt a3 (HTn (nCI nd H0 a1) (nCI nd H0 a2) a3) ∧ v.toInt = wA (nCI nd H0 a1) (nCI nd H0 a2) ((a3 - 1 : Int).toNat) ∧ MoS X H1 mo (wA (nCI nd H0 a1) (nCI nd H0 a2) ((a3 - 1 : Int).toNat)) (wF (nCI nd H0 a1) (nCI nd H0 a2) ((a3 - 1 : Int).toNat)) (wG (nCI nd H0 a1) (nCI nd H0 a2) ((a3 - 1 : Int).toNat)) (wN (nCI nd H0 a1) (nCI nd H0 a2) ((a3 - 1 : Int).toNat))) ∨ (¬ WKY a1 a2 (sI H0 (td (a1 : Int).toNat) (X.1.2 6 2)).toInt (sI H0 (td (a2 : Int).toNat) (X.1.2 6 2)).toInt a3 (HTn (nCI nd H0 a1) (nCI nd H0 a2) a3) ∧ v.toInt = -1 ∧ MoK X H0 H1 mo))))) := by
  refine q_enterJ (own := "SnowForts") (by decide) rfl (Nat.le_of_ble_eq_true rfl) ?_
  intro p e s m args below meth c ls Qz E hl ret hS0
  have hx := E.1; have hb := E.2.1
  have hKp0 : Kp X Γ [0, 2, 3, 4, 18, 21, 23, 25, 27] H0 H0 := Kp.rf
  have hl : lv_has ls 6 [(0, .ref h0), (1, .int p1), (2, .int p2), (3, .int p3)] := hl
  have mok : MoK X H0 H0 mo := MoK.rf
  refine lv_iload_n hx hb dX11_works_0 rfl (lv_at hl 1 rfl) ?_
  refine q_goIp (q_runS (As := [.int p1]) (rest := []) E hS0 (m_X11_isTray l X Γ H0 hC0 p1 (a0 := a1) e1) cw_X11_isTray cl_RX11_117 rfl hl.1 rfl (Nat.zero_le _) (by decide) dX11_works_1) hS0 (fun v21 locs21 hr21 hS21 => ?_)
  rcases hr21 with ⟨rfl, f21a0, f21a1⟩ | ⟨rfl, f21b⟩
  · refine q_if_eq hx hb (a := 1) (by decide) (tgt := 14) dX11_works_4 rfl (fun c22 => absurd c22 (by omega)) (fun c22 => ?_)
    refine lv_iload_n hx hb dX11_works_7 rfl (lv_at hl 2 rfl) ?_
    refine q_goIp (q_runS (As := [.int p2]) (rest := []) E hS21 (m_X11_isTray l X Γ H0 hC0 p2 (a0 := a2) e2) cw_X11_isTray cl_RX11_117 rfl hl.1 rfl (Nat.zero_le _) (by decide) dX11_works_8) hS21 (fun v23 locs23 hr23 hS23 => ?_)
    rcases hr23 with ⟨rfl, f23a0, f23a1⟩ | ⟨rfl, f23b⟩
    · refine q_if_ne hx hb (a := 1) (by decide) (tgt := 21) dX11_works_11 rfl (fun c24 => ?_) (fun c24 => absurd c24 (by omega))
      refine lv_aload_n hx hb dX11_works_21 rfl (lv_at hl 0 rfl) ?_
      refine q_getS E hC0 g0 fa_RX11_10 sh.2.1 dX11_works_22 (fun _ => ?_)
      refine lv_iload_n hx hb dX11_works_25 rfl (lv_at hl 1 rfl) ?_
      refine q_aaldS E hC0 sh.1 rfl rfl (fun _ => rfl) (C := "SnowForts$Tray") rfl (z := a1) e1 (by omega) (by omega) ((sh.2.2.1 _ (by omega)).1) dX11_works_26 (fun g25 => ?_)
      refine lv_astore hx hb dX11_works_27 hl (by decide) rfl (fun ls hl => ?_)
      replace hl : lv_has ls 6 [(4, .ref (td (a1 : Int).toNat)), (0, .ref h0), (1, .int p1), (2, .int p2), (3, .int p3)] := hl
      refine lv_aload_n hx hb dX11_works_29 rfl (lv_at hl 1 rfl) ?_
      refine q_getS E hC0 g0 fa_RX11_10 sh.2.1 dX11_works_30 (fun _ => ?_)
      refine lv_iload_n hx hb dX11_works_33 rfl (lv_at hl 3 rfl) ?_
      refine q_aaldS E hC0 sh.1 rfl rfl (fun _ => rfl) (C := "SnowForts$Tray") rfl (z := a2) e2 (by omega) (by omega) ((sh.2.2.1 _ (by omega)).1) dX11_works_34 (fun g26 => ?_)
      refine lv_astore hx hb dX11_works_35 hl (by decide) rfl (fun ls hl => ?_)
      replace hl : lv_has ls 6 [(5, .ref (td (a2 : Int).toNat)), (4, .ref (td (a1 : Int).toNat)), (0, .ref h0), (1, .int p1), (2, .int p2), (3, .int p3)] := hl
      refine lv_aload hx hb dX11_works_37 (lv_at hl 1 rfl) ?_
      refine q_goIp (q_runV (As := []) (rest := []) E hC0 hS23 (m_X6_isMissing l X Γ H0 hC0 (td (a1 : Int).toNat) g25) cw_X6_isMissing cl_RX11_121 g25 ⟨rfl, rfl⟩ rfl hl.1 rfl (Nat.zero_le _) (by decide) dX11_works_39) hS23 (fun v27 locs27 hr27 hS27 => ?_)
      rcases hr27 with ⟨rfl, f27a⟩ | ⟨rfl, f27b⟩
      · refine q_if_ne hx hb (a := 1) (by decide) (tgt := 53) dX11_works_42 rfl (fun c28 => ?_) (fun c28 => absurd c28 (by omega))
        refine lv_aload_n hx hb dX11_works_53 rfl (lv_at hl 2 rfl) ?_
        refine lv_iconst (v := 3) hx hb dX11_works_54 rfl ?_
        refine q_goI (q_runV (As := [.int 3]) (rest := []) E hC0 hS27 (m_X11_refuse l X Γ H0 hC0 h0 g0 3 (a1 := 3) (by decide)) cw_X11_refuse cl_RX11_146 g0 ⟨rfl, rfl⟩ rfl hl.1 rfl (Nat.zero_le _) (by decide) dX11_works_55) hS27 (fun v29 H29 locs29 hr29 hC29 hS29 => ?_)
        obtain ⟨hp29, hr29⟩ := hr29
        have hKp29 := hKp0.tr (hp29.mono rfl)
        replace mok : MoK X H0 H29 mo := MoK.kp mok hp29 gmo rfl
        have f29_0 := hr29
        refine lv_i2l (v := v29.toInt64) hx hb dX11_works_58 rfl (lv_topl (fun v30 ev30 => ?_))
        have ev30i : v30.toInt = v29.toInt := l_ofi ev30.symm rfl
        have hpost : (WKY a1 a2 (sI H0 (td (a1 : Int).toNat) (X.1.2 6 2)).toInt (sI H0 (td (a2 : Int).toNat) (X.1.2 6 2)).toInt a3 (HTn (nCI nd H0 a1) (nCI nd H0 a2) a3) ∧ (v30 : Int64).toInt = wA (nCI nd H0 a1) (nCI nd H0 a2) ((a3 - 1 : Int).toNat) ∧ MoS X H29 mo (wA (nCI nd H0 a1) (nCI nd H0 a2) ((a3 - 1 : Int).toNat)) (wF (nCI nd H0 a1) (nCI nd H0 a2) ((a3 - 1 : Int).toNat)) (wG (nCI nd H0 a1) (nCI nd H0 a2) ((a3 - 1 : Int).toNat)) (wN (nCI nd H0 a1) (nCI nd H0 a2) ((a3 - 1 : Int).toNat))) ∨ (¬ WKY a1 a2 (sI H0 (td (a1 : Int).toNat) (X.1.2 6 2)).toInt (sI H0 (td (a2 : Int).toNat) (X.1.2 6 2)).toInt a3 (HTn (nCI nd H0 a1) (nCI nd H0 a2) a3) ∧ (v30 : Int64).toInt = -1 ∧ MoK X H0 H29 mo) := Or.inr ⟨fun h => by obtain ⟨q1, q2, q3, q4, q5, q6, q7, q8, -⟩ := h; omega, by omega, mok⟩
        exact ret v30 H29 locs29 _ _ dX11_works_59 ⟨hKp29, hpost⟩ hC29 hS29
      · refine q_if_ne hx hb (a := 0) (by decide) (tgt := 53) dX11_works_42 rfl (fun c31 => absurd c31 (by omega)) (fun c31 => ?_)
        refine lv_aload hx hb dX11_works_45 (lv_at hl 0 rfl) ?_
        refine q_goIp (q_runV (As := []) (rest := []) E hC0 hS27 (m_X6_isMissing l X Γ H0 hC0 (td (a2 : Int).toNat) g26) cw_X6_isMissing cl_RX11_121 g26 ⟨rfl, rfl⟩ rfl hl.1 rfl (Nat.zero_le _) (by decide) dX11_works_47) hS27 (fun v32 locs32 hr32 hS32 => ?_)
        rcases hr32 with ⟨rfl, f32a⟩ | ⟨rfl, f32b⟩
        · refine q_if_eq hx hb (a := 1) (by decide) (tgt := 60) dX11_works_50 rfl (fun c33 => absurd c33 (by omega)) (fun c33 => ?_)
          refine lv_aload_n hx hb dX11_works_53 rfl (lv_at hl 2 rfl) ?_
          refine lv_iconst (v := 3) hx hb dX11_works_54 rfl ?_
          refine q_goI (q_runV (As := [.int 3]) (rest := []) E hC0 hS32 (m_X11_refuse l X Γ H0 hC0 h0 g0 3 (a1 := 3) (by decide)) cw_X11_refuse cl_RX11_146 g0 ⟨rfl, rfl⟩ rfl hl.1 rfl (Nat.zero_le _) (by decide) dX11_works_55) hS32 (fun v34 H34 locs34 hr34 hC34 hS34 => ?_)
          obtain ⟨hp34, hr34⟩ := hr34
          have hKp34 := hKp0.tr (hp34.mono rfl)
          replace mok : MoK X H0 H34 mo := MoK.kp mok hp34 gmo rfl
          have f34_0 := hr34
          refine lv_i2l (v := v34.toInt64) hx hb dX11_works_58 rfl (lv_topl (fun v35 ev35 => ?_))
          have ev35i : v35.toInt = v34.toInt := l_ofi ev35.symm rfl
          have hpost : (WKY a1 a2 (sI H0 (td (a1 : Int).toNat) (X.1.2 6 2)).toInt (sI H0 (td (a2 : Int).toNat) (X.1.2 6 2)).toInt a3 (HTn (nCI nd H0 a1) (nCI nd H0 a2) a3) ∧ (v35 : Int64).toInt = wA (nCI nd H0 a1) (nCI nd H0 a2) ((a3 - 1 : Int).toNat) ∧ MoS X H34 mo (wA (nCI nd H0 a1) (nCI nd H0 a2) ((a3 - 1 : Int).toNat)) (wF (nCI nd H0 a1) (nCI nd H0 a2) ((a3 - 1 : Int).toNat)) (wG (nCI nd H0 a1) (nCI nd H0 a2) ((a3 - 1 : Int).toNat)) (wN (nCI nd H0 a1) (nCI nd H0 a2) ((a3 - 1 : Int).toNat))) ∨ (¬ WKY a1 a2 (sI H0 (td (a1 : Int).toNat) (X.1.2 6 2)).toInt (sI H0 (td (a2 : Int).toNat) (X.1.2 6 2)).toInt a3 (HTn (nCI nd H0 a1) (nCI nd H0 a2) a3) ∧ (v35 : Int64).toInt = -1 ∧ MoK X H0 H34 mo) := Or.inr ⟨fun h => by obtain ⟨q1, q2, q3, q4, q5, q6, q7, q8, -⟩ := h; omega, by omega, mok⟩
          exact ret v35 H34 locs34 _ _ dX11_works_59 ⟨hKp34, hpost⟩ hC34 hS34
        · refine q_if_eq hx hb (a := 0) (by decide) (tgt := 60) dX11_works_50 rfl (fun c36 => ?_) (fun c36 => absurd c36 (by omega))
          refine lv_aload hx hb dX11_works_60 (lv_at hl 1 rfl) ?_
          refine q_getI E hC0 g25 fa_RX11_307 dX11_works_62 (fun v37 ev37 lv37 uv37 => ?_)
          have m38 : (sI H0 (td (a1 : Int).toNat) (X.1.2 6 2)).toInt = v37.toInt := congrArg Int32.toInt ev37
          refine lv_iload_n hx hb dX11_works_65 rfl (lv_at hl 5 rfl) ?_
          have c39 := i_rng p3; rw [show p3.toInt = a3 from e3] at c39
          refine q_icmp_lt hx hb (a := v37.toInt) (b := a3) rfl e3 (tgt := 83) dX11_works_66 rfl (fun c40 => ?_) (fun c40 => ?_)
          · refine lv_aload_n hx hb dX11_works_83 rfl (lv_at hl 2 rfl) ?_
            refine lv_iconst (v := 4) hx hb dX11_works_84 rfl ?_
            refine q_goI (q_runV (As := [.int 4]) (rest := []) E hC0 hS32 (m_X11_refuse l X Γ H0 hC0 h0 g0 4 (a1 := 4) (by decide)) cw_X11_refuse cl_RX11_146 g0 ⟨rfl, rfl⟩ rfl hl.1 rfl (Nat.zero_le _) (by decide) dX11_works_85) hS32 (fun v41 H41 locs41 hr41 hC41 hS41 => ?_)
            obtain ⟨hp41, hr41⟩ := hr41
            have hKp41 := hKp0.tr (hp41.mono rfl)
            replace mok : MoK X H0 H41 mo := MoK.kp mok hp41 gmo rfl
            have f41_0 := hr41
            refine lv_i2l (v := v41.toInt64) hx hb dX11_works_88 rfl (lv_topl (fun v42 ev42 => ?_))
            have ev42i : v42.toInt = v41.toInt := l_ofi ev42.symm rfl
            have hpost : (WKY a1 a2 (sI H0 (td (a1 : Int).toNat) (X.1.2 6 2)).toInt (sI H0 (td (a2 : Int).toNat) (X.1.2 6 2)).toInt a3 (HTn (nCI nd H0 a1) (nCI nd H0 a2) a3) ∧ (v42 : Int64).toInt = wA (nCI nd H0 a1) (nCI nd H0 a2) ((a3 - 1 : Int).toNat) ∧ MoS X H41 mo (wA (nCI nd H0 a1) (nCI nd H0 a2) ((a3 - 1 : Int).toNat)) (wF (nCI nd H0 a1) (nCI nd H0 a2) ((a3 - 1 : Int).toNat)) (wG (nCI nd H0 a1) (nCI nd H0 a2) ((a3 - 1 : Int).toNat)) (wN (nCI nd H0 a1) (nCI nd H0 a2) ((a3 - 1 : Int).toNat))) ∨ (¬ WKY a1 a2 (sI H0 (td (a1 : Int).toNat) (X.1.2 6 2)).toInt (sI H0 (td (a2 : Int).toNat) (X.1.2 6 2)).toInt a3 (HTn (nCI nd H0 a1) (nCI nd H0 a2) a3) ∧ (v42 : Int64).toInt = -1 ∧ MoK X H0 H41 mo) := Or.inr ⟨fun h => by obtain ⟨q1, q2, q3, q4, q5, q6, q7, q8, -⟩ := h; omega, by omega, mok⟩
            exact ret v42 H41 locs41 _ _ dX11_works_89 ⟨hKp41, hpost⟩ hC41 hS41
          · refine lv_aload hx hb dX11_works_69 (lv_at hl 0 rfl) ?_
            refine q_getI E hC0 g26 fa_RX11_307 dX11_works_71 (fun v43 ev43 lv43 uv43 => ?_)
            have m44 : (sI H0 (td (a2 : Int).toNat) (X.1.2 6 2)).toInt = v43.toInt := congrArg Int32.toInt ev43
            refine lv_i2l (v := v43.toInt64) hx hb dX11_works_74 rfl (lv_topl (fun v45 ev45 => ?_))
            have ev45i : v45.toInt = v43.toInt := l_ofi ev45.symm rfl
            refine lv_iload_n hx hb dX11_works_75 rfl (lv_at hl 5 rfl) ?_
            refine lv_i2l (v := p3.toInt64) hx hb dX11_works_76 rfl (lv_topl (fun v46 ev46 => ?_))
            have ev46i : v46.toInt = a3 := l_ofi ev46.symm e3
            refine lv_lconst (v := 1) hx hb dX11_works_77 rfl ?_
            refine lv_lsub hx hb dX11_works_78 (lv_topl (fun v47 ev47 => ?_))
            have ev47i : v47.toInt = (a3 - 1) := l_sub ev47 ev46i (show (1 : Int64).toInt = 1 from by decide) (by omega) (by omega)
            refine q_lcmp_ge hx hb (a := v43.toInt) (b := (a3 - 1)) ev45i ev47i (tgt := 90) dX11_works_79 dX11_works_80 rfl (fun c48 => ?_) (fun c48 => ?_)
            · refine lv_iload_n hx hb dX11_works_90 rfl (lv_at hl 5 rfl) ?_
              refine lv_i2l (v := p3.toInt64) hx hb dX11_works_91 rfl (lv_topl (fun v49 ev49 => ?_))
              have ev49i : v49.toInt = a3 := l_ofi ev49.symm e3
              refine lv_iconst (v := 2) hx hb dX11_works_92 rfl ?_
              refine lv_bipush (v := 12) hx hb dX11_works_93 rfl ?_
              refine q_goIp (q_runS (As := [.long v49, .int 2, .int 12]) (rest := []) E hS32 (m_X11_isWithin l X Γ H0 hC0 v49 (a0 := a3) ev49i 2 (a1 := 2) (by decide) 12 (a2 := 12) (by decide)) cw_X11_isWithin cl_RX11_113 rfl hl.1 rfl (Nat.zero_le _) (by decide) dX11_works_95) hS32 (fun v50 locs50 hr50 hS50 => ?_)
              rcases hr50 with ⟨rfl, f50a0, f50a1⟩ | ⟨rfl, f50b⟩
              · refine q_if_eq hx hb (a := 1) (by decide) (tgt := 125) dX11_works_98 rfl (fun c51 => absurd c51 (by omega)) (fun c51 => ?_)
                have hn1 := nuN_td sh (z := a1) (by omega) (by omega)
                have hn2 := nuN_td sh (z := a2) (by omega) (by omega)
                refine lv_aload hx hb dX11_works_101 (lv_at hl 1 rfl) ?_
                refine lv_iload_n hx hb dX11_works_103 rfl (lv_at hl 5 rfl) ?_
                refine lv_bipush (v := 99) hx hb dX11_works_104 rfl ?_
                refine q_goIp (q_runV (As := [.int p3, .int 99]) (rest := []) E hC0 hS50 (m_X6_holdsWithin l X Γ H0 hC0 (td (a1 : Int).toNat) g25 p3 (a1 := a3) e3 99 (a2 := 99) (by decide)) cw_X6_holdsWithin cl_RX11_310 g25 ⟨rfl, rfl⟩ rfl hl.1 rfl (Nat.zero_le _) (by decide) dX11_works_106) hS50 (fun v52 locs52 hr52 hS52 => ?_)
                rcases hr52 with ⟨rfl, f52a⟩ | ⟨rfl, f52b⟩
                · refine q_if_eq hx hb (a := 1) (by decide) (tgt := 125) dX11_works_109 rfl (fun c53 => absurd c53 (by omega)) (fun c53 => ?_)
                  refine lv_aload hx hb dX11_works_112 (lv_at hl 0 rfl) ?_
                  refine lv_iload_n hx hb dX11_works_114 rfl (lv_at hl 5 rfl) ?_
                  refine lv_iconst (v := 1) hx hb dX11_works_115 rfl ?_
                  refine lv_isub hx hb dX11_works_116 (lv_topi (fun v54 ev54 => ?_))
                  have ev54i : v54.toInt = (a3 - 1) := i_sub ev54 e3 (by decide) (by omega) (by omega)
                  refine lv_bipush (v := 20) hx hb dX11_works_117 rfl ?_
                  refine q_goIp (q_runV (As := [.int v54, .int 20]) (rest := []) E hC0 hS52 (m_X6_holdsWithin l X Γ H0 hC0 (td (a2 : Int).toNat) g26 v54 (a1 := (a3 - 1)) ev54i 20 (a2 := 20) (by decide)) cw_X6_holdsWithin cl_RX11_310 g26 ⟨rfl, rfl⟩ rfl hl.1 rfl (Nat.zero_le _) (by decide) dX11_works_119) hS52 (fun v55 locs55 hr55 hS55 => ?_)
                  rcases hr55 with ⟨rfl, f55a⟩ | ⟨rfl, f55b⟩
                  · refine q_if_ne hx hb (a := 1) (by decide) (tgt := 132) dX11_works_122 rfl (fun c56 => ?_) (fun c56 => absurd c56 (by omega))
                    refine lv_aload_n hx hb dX11_works_132 rfl (lv_at hl 2 rfl) ?_
                    refine q_getS E hC0 g0 fa_RX11_77 hmo dX11_works_133 (fun _ => ?_)
                    refine lv_aload hx hb dX11_works_136 (lv_at hl 1 rfl) ?_
                    refine lv_aload hx hb dX11_works_138 (lv_at hl 0 rfl) ?_
                    refine lv_iload_n hx hb dX11_works_140 rfl (lv_at hl 5 rfl) ?_
                    refine q_goV (q_runV (As := [.ref (td (a1 : Int).toNat), .ref (td (a2 : Int).toNat), .int p3]) (rest := []) E hC0 hS55 (m_X0_explain l X Γ H0 hC0 mo gmo (td (a1 : Int).toNat) g25 (td (a2 : Int).toNat) g26 p3 (a3 := a3) e3 (by omega) (by omega) (by assumption) (by assumption)) cw_X0_explain cl_RX11_313 gmo ⟨rfl, rfl⟩ rfl hl.1 rfl (Nat.zero_le _) (by decide) dX11_works_141) hS55 (fun H57 locs57 hr57 hC57 hS57 => ?_)
                    obtain ⟨hp57, hr57⟩ := hr57
                    have hKp57 := hKp0.tr (hp57.mono rfl)
                    have f57_0 := hr57
                    have hmo1 := f57_0
                    rw [hn1, hn2] at hmo1
                    have mos : MoS X H57 mo (wA (nCI nd H0 a1) (nCI nd H0 a2) ((a3 - 1 : Int).toNat)) (wF (nCI nd H0 a1) (nCI nd H0 a2) ((a3 - 1 : Int).toNat)) (wG (nCI nd H0 a1) (nCI nd H0 a2) ((a3 - 1 : Int).toNat)) (wN (nCI nd H0 a1) (nCI nd H0 a2) ((a3 - 1 : Int).toNat)) := hmo1
                    refine lv_aload_n hx hb dX11_works_144 rfl (lv_at hl 2 rfl) ?_
                    refine lv_iconst (v := 0) hx hb dX11_works_145 rfl ?_
                    refine q_put E hC57 hS57 g0 fp_RX11_102 tv_F rfl rfl dX11_works_146 (fun H58 locs58 hC58 hS58 U58 => ?_)
                    have hKp58 := Kp.upO E g0 fp_RX11_102 rfl U58 hKp57
                    have e59 := up_I U58
                    replace mos : MoS X H58 mo (wA (nCI nd H0 a1) (nCI nd H0 a2) ((a3 - 1 : Int).toNat)) (wF (nCI nd H0 a1) (nCI nd H0 a2) ((a3 - 1 : Int).toNat)) (wG (nCI nd H0 a1) (nCI nd H0 a2) ((a3 - 1 : Int).toNat)) (wN (nCI nd H0 a1) (nCI nd H0 a2) ((a3 - 1 : Int).toNat)) := MoS.ne mos U58 (nek g0 gmo (by decide))
                    refine lv_aload_n hx hb dX11_works_149 rfl (lv_at hl 2 rfl) ?_
                    refine q_getS E hC58 g0 fa_RX11_77 ((kp_R hKp58 g0 (ci := 10) (k := 13) rfl (by decide) rfl).trans hmo) dX11_works_150 (fun _ => ?_)
                    refine q_getJ E hC58 gmo fa_RX11_317 dX11_works_153 (fun v60 ev60 => ?_)
                    have hrv : v60.toInt = wA (nCI nd H0 a1) (nCI nd H0 a2) ((a3 - 1 : Int).toNat) := by rw [← ev60]; exact mos.1
                    have hwa : HW X H0 (td (a1 : Int).toNat) a3 99 := by assumption
                    have hwb : HW X H0 (td (a2 : Int).toNat) (a3 - 1) 20 := by assumption
                    have hpost : (WKY a1 a2 (sI H0 (td (a1 : Int).toNat) (X.1.2 6 2)).toInt (sI H0 (td (a2 : Int).toNat) (X.1.2 6 2)).toInt a3 (HTn (nCI nd H0 a1) (nCI nd H0 a2) a3) ∧ (v60 : Int64).toInt = wA (nCI nd H0 a1) (nCI nd H0 a2) ((a3 - 1 : Int).toNat) ∧ MoS X H58 mo (wA (nCI nd H0 a1) (nCI nd H0 a2) ((a3 - 1 : Int).toNat)) (wF (nCI nd H0 a1) (nCI nd H0 a2) ((a3 - 1 : Int).toNat)) (wG (nCI nd H0 a1) (nCI nd H0 a2) ((a3 - 1 : Int).toNat)) (wN (nCI nd H0 a1) (nCI nd H0 a2) ((a3 - 1 : Int).toNat))) ∨ (¬ WKY a1 a2 (sI H0 (td (a1 : Int).toNat) (X.1.2 6 2)).toInt (sI H0 (td (a2 : Int).toNat) (X.1.2 6 2)).toInt a3 (HTn (nCI nd H0 a1) (nCI nd H0 a2) a3) ∧ (v60 : Int64).toInt = -1 ∧ MoK X H0 H58 mo) := Or.inl ⟨⟨by omega, by omega, by omega, by omega, by omega, by omega, by omega, by omega, fun i hi => by have q := (hwa i hi).2; rw [hn1] at q; exact q, fun i hi => by have q := (hwb i hi).2; rw [hn2] at q; exact q⟩, hrv, mos⟩
                    exact ret v60 H58 locs58 _ _ dX11_works_156 ⟨hKp58, hpost⟩ hC58 hS58
                  · refine q_if_ne hx hb (a := 0) (by decide) (tgt := 132) dX11_works_122 rfl (fun c61 => absurd c61 (by omega)) (fun c61 => ?_)
                    refine lv_aload_n hx hb dX11_works_125 rfl (lv_at hl 2 rfl) ?_
                    refine lv_iconst (v := 5) hx hb dX11_works_126 rfl ?_
                    refine q_goI (q_runV (As := [.int 5]) (rest := []) E hC0 hS55 (m_X11_refuse l X Γ H0 hC0 h0 g0 5 (a1 := 5) (by decide)) cw_X11_refuse cl_RX11_146 g0 ⟨rfl, rfl⟩ rfl hl.1 rfl (Nat.zero_le _) (by decide) dX11_works_127) hS55 (fun v62 H62 locs62 hr62 hC62 hS62 => ?_)
                    obtain ⟨hp62, hr62⟩ := hr62
                    have hKp62 := hKp0.tr (hp62.mono rfl)
                    replace mok : MoK X H0 H62 mo := MoK.kp mok hp62 gmo rfl
                    have f62_0 := hr62
                    refine lv_i2l (v := v62.toInt64) hx hb dX11_works_130 rfl (lv_topl (fun v63 ev63 => ?_))
                    have ev63i : v63.toInt = v62.toInt := l_ofi ev63.symm rfl
                    have hnc : ¬ WKY a1 a2 (sI H0 (td (a1 : Int).toNat) (X.1.2 6 2)).toInt (sI H0 (td (a2 : Int).toNat) (X.1.2 6 2)).toInt a3 (HTn (nCI nd H0 a1) (nCI nd H0 a2) a3) := fun h => by obtain ⟨q1, q2, q3, q4, q5, q6, q7, q8, q9⟩ := h; first | omega | (have hb : NW X H0 (td (a1 : Int).toNat) a3 99 := (by assumption); obtain ⟨i, i1, i2⟩ := hb; rw [hn1] at i2; have q := q9.1 i i1; unfold nCI at q; dsimp only at i2; omega) | (have hb : NW X H0 (td (a2 : Int).toNat) (a3 - 1) 20 := (by assumption); obtain ⟨i, i1, i2⟩ := hb; rw [hn2] at i2; have q := q9.2 i i1; unfold nCI at q; dsimp only at i2; omega)
                    have hpost : (WKY a1 a2 (sI H0 (td (a1 : Int).toNat) (X.1.2 6 2)).toInt (sI H0 (td (a2 : Int).toNat) (X.1.2 6 2)).toInt a3 (HTn (nCI nd H0 a1) (nCI nd H0 a2) a3) ∧ (v63 : Int64).toInt = wA (nCI nd H0 a1) (nCI nd H0 a2) ((a3 - 1 : Int).toNat) ∧ MoS X H62 mo (wA (nCI nd H0 a1) (nCI nd H0 a2) ((a3 - 1 : Int).toNat)) (wF (nCI nd H0 a1) (nCI nd H0 a2) ((a3 - 1 : Int).toNat)) (wG (nCI nd H0 a1) (nCI nd H0 a2) ((a3 - 1 : Int).toNat)) (wN (nCI nd H0 a1) (nCI nd H0 a2) ((a3 - 1 : Int).toNat))) ∨ (¬ WKY a1 a2 (sI H0 (td (a1 : Int).toNat) (X.1.2 6 2)).toInt (sI H0 (td (a2 : Int).toNat) (X.1.2 6 2)).toInt a3 (HTn (nCI nd H0 a1) (nCI nd H0 a2) a3) ∧ (v63 : Int64).toInt = -1 ∧ MoK X H0 H62 mo) := Or.inr ⟨hnc, by omega, mok⟩
                    exact ret v63 H62 locs62 _ _ dX11_works_131 ⟨hKp62, hpost⟩ hC62 hS62
                · refine q_if_eq hx hb (a := 0) (by decide) (tgt := 125) dX11_works_109 rfl (fun c64 => ?_) (fun c64 => absurd c64 (by omega))
                  refine lv_aload_n hx hb dX11_works_125 rfl (lv_at hl 2 rfl) ?_
                  refine lv_iconst (v := 5) hx hb dX11_works_126 rfl ?_
                  refine q_goI (q_runV (As := [.int 5]) (rest := []) E hC0 hS52 (m_X11_refuse l X Γ H0 hC0 h0 g0 5 (a1 := 5) (by decide)) cw_X11_refuse cl_RX11_146 g0 ⟨rfl, rfl⟩ rfl hl.1 rfl (Nat.zero_le _) (by decide) dX11_works_127) hS52 (fun v65 H65 locs65 hr65 hC65 hS65 => ?_)
                  obtain ⟨hp65, hr65⟩ := hr65
                  have hKp65 := hKp0.tr (hp65.mono rfl)
                  replace mok : MoK X H0 H65 mo := MoK.kp mok hp65 gmo rfl
                  have f65_0 := hr65
                  refine lv_i2l (v := v65.toInt64) hx hb dX11_works_130 rfl (lv_topl (fun v66 ev66 => ?_))
                  have ev66i : v66.toInt = v65.toInt := l_ofi ev66.symm rfl
                  have hnc : ¬ WKY a1 a2 (sI H0 (td (a1 : Int).toNat) (X.1.2 6 2)).toInt (sI H0 (td (a2 : Int).toNat) (X.1.2 6 2)).toInt a3 (HTn (nCI nd H0 a1) (nCI nd H0 a2) a3) := fun h => by obtain ⟨q1, q2, q3, q4, q5, q6, q7, q8, q9⟩ := h; first | omega | (have hb : NW X H0 (td (a1 : Int).toNat) a3 99 := (by assumption); obtain ⟨i, i1, i2⟩ := hb; rw [hn1] at i2; have q := q9.1 i i1; unfold nCI at q; dsimp only at i2; omega) | (have hb : NW X H0 (td (a2 : Int).toNat) (a3 - 1) 20 := (by assumption); obtain ⟨i, i1, i2⟩ := hb; rw [hn2] at i2; have q := q9.2 i i1; unfold nCI at q; dsimp only at i2; omega)
                  have hpost : (WKY a1 a2 (sI H0 (td (a1 : Int).toNat) (X.1.2 6 2)).toInt (sI H0 (td (a2 : Int).toNat) (X.1.2 6 2)).toInt a3 (HTn (nCI nd H0 a1) (nCI nd H0 a2) a3) ∧ (v66 : Int64).toInt = wA (nCI nd H0 a1) (nCI nd H0 a2) ((a3 - 1 : Int).toNat) ∧ MoS X H65 mo (wA (nCI nd H0 a1) (nCI nd H0 a2) ((a3 - 1 : Int).toNat)) (wF (nCI nd H0 a1) (nCI nd H0 a2) ((a3 - 1 : Int).toNat)) (wG (nCI nd H0 a1) (nCI nd H0 a2) ((a3 - 1 : Int).toNat)) (wN (nCI nd H0 a1) (nCI nd H0 a2) ((a3 - 1 : Int).toNat))) ∨ (¬ WKY a1 a2 (sI H0 (td (a1 : Int).toNat) (X.1.2 6 2)).toInt (sI H0 (td (a2 : Int).toNat) (X.1.2 6 2)).toInt a3 (HTn (nCI nd H0 a1) (nCI nd H0 a2) a3) ∧ (v66 : Int64).toInt = -1 ∧ MoK X H0 H65 mo) := Or.inr ⟨hnc, by omega, mok⟩
                  exact ret v66 H65 locs65 _ _ dX11_works_131 ⟨hKp65, hpost⟩ hC65 hS65
              · refine q_if_eq hx hb (a := 0) (by decide) (tgt := 125) dX11_works_98 rfl (fun c67 => ?_) (fun c67 => absurd c67 (by omega))
                refine lv_aload_n hx hb dX11_works_125 rfl (lv_at hl 2 rfl) ?_
                refine lv_iconst (v := 5) hx hb dX11_works_126 rfl ?_
                refine q_goI (q_runV (As := [.int 5]) (rest := []) E hC0 hS50 (m_X11_refuse l X Γ H0 hC0 h0 g0 5 (a1 := 5) (by decide)) cw_X11_refuse cl_RX11_146 g0 ⟨rfl, rfl⟩ rfl hl.1 rfl (Nat.zero_le _) (by decide) dX11_works_127) hS50 (fun v68 H68 locs68 hr68 hC68 hS68 => ?_)
                obtain ⟨hp68, hr68⟩ := hr68
                have hKp68 := hKp0.tr (hp68.mono rfl)
                replace mok : MoK X H0 H68 mo := MoK.kp mok hp68 gmo rfl
                have f68_0 := hr68
                refine lv_i2l (v := v68.toInt64) hx hb dX11_works_130 rfl (lv_topl (fun v69 ev69 => ?_))
                have ev69i : v69.toInt = v68.toInt := l_ofi ev69.symm rfl
                have hnc : ¬ WKY a1 a2 (sI H0 (td (a1 : Int).toNat) (X.1.2 6 2)).toInt (sI H0 (td (a2 : Int).toNat) (X.1.2 6 2)).toInt a3 (HTn (nCI nd H0 a1) (nCI nd H0 a2) a3) := fun h => by obtain ⟨q1, q2, q3, q4, q5, q6, q7, q8, q9⟩ := h; first | omega | (have hb : NW X H0 (td (a1 : Int).toNat) a3 99 := (by assumption); obtain ⟨i, i1, i2⟩ := hb; rw [hn1] at i2; have q := q9.1 i i1; unfold nCI at q; dsimp only at i2; omega) | (have hb : NW X H0 (td (a2 : Int).toNat) (a3 - 1) 20 := (by assumption); obtain ⟨i, i1, i2⟩ := hb; rw [hn2] at i2; have q := q9.2 i i1; unfold nCI at q; dsimp only at i2; omega)
                have hpost : (WKY a1 a2 (sI H0 (td (a1 : Int).toNat) (X.1.2 6 2)).toInt (sI H0 (td (a2 : Int).toNat) (X.1.2 6 2)).toInt a3 (HTn (nCI nd H0 a1) (nCI nd H0 a2) a3) ∧ (v69 : Int64).toInt = wA (nCI nd H0 a1) (nCI nd H0 a2) ((a3 - 1 : Int).toNat) ∧ MoS X H68 mo (wA (nCI nd H0 a1) (nCI nd H0 a2) ((a3 - 1 : Int).toNat)) (wF (nCI nd H0 a1) (nCI nd H0 a2) ((a3 - 1 : Int).toNat)) (wG (nCI nd H0 a1) (nCI nd H0 a2) ((a3 - 1 : Int).toNat)) (wN (nCI nd H0 a1) (nCI nd H0 a2) ((a3 - 1 : Int).toNat))) ∨ (¬ WKY a1 a2 (sI H0 (td (a1 : Int).toNat) (X.1.2 6 2)).toInt (sI H0 (td (a2 : Int).toNat) (X.1.2 6 2)).toInt a3 (HTn (nCI nd H0 a1) (nCI nd H0 a2) a3) ∧ (v69 : Int64).toInt = -1 ∧ MoK X H0 H68 mo) := Or.inr ⟨hnc, by omega, mok⟩
                exact ret v69 H68 locs68 _ _ dX11_works_131 ⟨hKp68, hpost⟩ hC68 hS68
            · refine lv_aload_n hx hb dX11_works_83 rfl (lv_at hl 2 rfl) ?_
              refine lv_iconst (v := 4) hx hb dX11_works_84 rfl ?_
              refine q_goI (q_runV (As := [.int 4]) (rest := []) E hC0 hS32 (m_X11_refuse l X Γ H0 hC0 h0 g0 4 (a1 := 4) (by decide)) cw_X11_refuse cl_RX11_146 g0 ⟨rfl, rfl⟩ rfl hl.1 rfl (Nat.zero_le _) (by decide) dX11_works_85) hS32 (fun v70 H70 locs70 hr70 hC70 hS70 => ?_)
              obtain ⟨hp70, hr70⟩ := hr70
              have hKp70 := hKp0.tr (hp70.mono rfl)
              replace mok : MoK X H0 H70 mo := MoK.kp mok hp70 gmo rfl
              have f70_0 := hr70
              refine lv_i2l (v := v70.toInt64) hx hb dX11_works_88 rfl (lv_topl (fun v71 ev71 => ?_))
              have ev71i : v71.toInt = v70.toInt := l_ofi ev71.symm rfl
              have hpost : (WKY a1 a2 (sI H0 (td (a1 : Int).toNat) (X.1.2 6 2)).toInt (sI H0 (td (a2 : Int).toNat) (X.1.2 6 2)).toInt a3 (HTn (nCI nd H0 a1) (nCI nd H0 a2) a3) ∧ (v71 : Int64).toInt = wA (nCI nd H0 a1) (nCI nd H0 a2) ((a3 - 1 : Int).toNat) ∧ MoS X H70 mo (wA (nCI nd H0 a1) (nCI nd H0 a2) ((a3 - 1 : Int).toNat)) (wF (nCI nd H0 a1) (nCI nd H0 a2) ((a3 - 1 : Int).toNat)) (wG (nCI nd H0 a1) (nCI nd H0 a2) ((a3 - 1 : Int).toNat)) (wN (nCI nd H0 a1) (nCI nd H0 a2) ((a3 - 1 : Int).toNat))) ∨ (¬ WKY a1 a2 (sI H0 (td (a1 : Int).toNat) (X.1.2 6 2)).toInt (sI H0 (td (a2 : Int).toNat) (X.1.2 6 2)).toInt a3 (HTn (nCI nd H0 a1) (nCI nd H0 a2) a3) ∧ (v71 : Int64).toInt = -1 ∧ MoK X H0 H70 mo) := Or.inr ⟨fun h => by obtain ⟨q1, q2, q3, q4, q5, q6, q7, q8, -⟩ := h; omega, by omega, mok⟩
              exact ret v71 H70 locs70 _ _ dX11_works_89 ⟨hKp70, hpost⟩ hC70 hS70
    · refine q_if_ne hx hb (a := 0) (by decide) (tgt := 21) dX11_works_11 rfl (fun c72 => absurd c72 (by omega)) (fun c72 => ?_)
      refine lv_aload_n hx hb dX11_works_14 rfl (lv_at hl 0 rfl) ?_
      refine lv_iconst (v := 1) hx hb dX11_works_15 rfl ?_
      refine q_goI (q_runV (As := [.int 1]) (rest := []) E hC0 hS23 (m_X11_refuse l X Γ H0 hC0 h0 g0 1 (a1 := 1) (by decide)) cw_X11_refuse cl_RX11_146 g0 ⟨rfl, rfl⟩ rfl hl.1 rfl (Nat.zero_le _) (by decide) dX11_works_16) hS23 (fun v73 H73 locs73 hr73 hC73 hS73 => ?_)
      obtain ⟨hp73, hr73⟩ := hr73
      have hKp73 := hKp0.tr (hp73.mono rfl)
      replace mok : MoK X H0 H73 mo := MoK.kp mok hp73 gmo rfl
      have f73_0 := hr73
      refine lv_i2l (v := v73.toInt64) hx hb dX11_works_19 rfl (lv_topl (fun v74 ev74 => ?_))
      have ev74i : v74.toInt = v73.toInt := l_ofi ev74.symm rfl
      have hpost : (WKY a1 a2 (sI H0 (td (a1 : Int).toNat) (X.1.2 6 2)).toInt (sI H0 (td (a2 : Int).toNat) (X.1.2 6 2)).toInt a3 (HTn (nCI nd H0 a1) (nCI nd H0 a2) a3) ∧ (v74 : Int64).toInt = wA (nCI nd H0 a1) (nCI nd H0 a2) ((a3 - 1 : Int).toNat) ∧ MoS X H73 mo (wA (nCI nd H0 a1) (nCI nd H0 a2) ((a3 - 1 : Int).toNat)) (wF (nCI nd H0 a1) (nCI nd H0 a2) ((a3 - 1 : Int).toNat)) (wG (nCI nd H0 a1) (nCI nd H0 a2) ((a3 - 1 : Int).toNat)) (wN (nCI nd H0 a1) (nCI nd H0 a2) ((a3 - 1 : Int).toNat))) ∨ (¬ WKY a1 a2 (sI H0 (td (a1 : Int).toNat) (X.1.2 6 2)).toInt (sI H0 (td (a2 : Int).toNat) (X.1.2 6 2)).toInt a3 (HTn (nCI nd H0 a1) (nCI nd H0 a2) a3) ∧ (v74 : Int64).toInt = -1 ∧ MoK X H0 H73 mo) := Or.inr ⟨fun h => by obtain ⟨q1, q2, q3, q4, q5, q6, q7, q8, -⟩ := h; omega, by omega, mok⟩
      exact ret v74 H73 locs73 _ _ dX11_works_20 ⟨hKp73, hpost⟩ hC73 hS73
  · refine q_if_eq hx hb (a := 0) (by decide) (tgt := 14) dX11_works_4 rfl (fun c75 => ?_) (fun c75 => absurd c75 (by omega))
    refine lv_aload_n hx hb dX11_works_14 rfl (lv_at hl 0 rfl) ?_
    refine lv_iconst (v := 1) hx hb dX11_works_15 rfl ?_
    refine q_goI (q_runV (As := [.int 1]) (rest := []) E hC0 hS21 (m_X11_refuse l X Γ H0 hC0 h0 g0 1 (a1 := 1) (by decide)) cw_X11_refuse cl_RX11_146 g0 ⟨rfl, rfl⟩ rfl hl.1 rfl (Nat.zero_le _) (by decide) dX11_works_16) hS21 (fun v76 H76 locs76 hr76 hC76 hS76 => ?_)
    obtain ⟨hp76, hr76⟩ := hr76
    have hKp76 := hKp0.tr (hp76.mono rfl)
    replace mok : MoK X H0 H76 mo := MoK.kp mok hp76 gmo rfl
    have f76_0 := hr76
    refine lv_i2l (v := v76.toInt64) hx hb dX11_works_19 rfl (lv_topl (fun v77 ev77 => ?_))
    have ev77i : v77.toInt = v76.toInt := l_ofi ev77.symm rfl
    have hpost : (WKY a1 a2 (sI H0 (td (a1 : Int).toNat) (X.1.2 6 2)).toInt (sI H0 (td (a2 : Int).toNat) (X.1.2 6 2)).toInt a3 (HTn (nCI nd H0 a1) (nCI nd H0 a2) a3) ∧ (v77 : Int64).toInt = wA (nCI nd H0 a1) (nCI nd H0 a2) ((a3 - 1 : Int).toNat) ∧ MoS X H76 mo (wA (nCI nd H0 a1) (nCI nd H0 a2) ((a3 - 1 : Int).toNat)) (wF (nCI nd H0 a1) (nCI nd H0 a2) ((a3 - 1 : Int).toNat)) (wG (nCI nd H0 a1) (nCI nd H0 a2) ((a3 - 1 : Int).toNat)) (wN (nCI nd H0 a1) (nCI nd H0 a2) ((a3 - 1 : Int).toNat))) ∨ (¬ WKY a1 a2 (sI H0 (td (a1 : Int).toNat) (X.1.2 6 2)).toInt (sI H0 (td (a2 : Int).toNat) (X.1.2 6 2)).toInt a3 (HTn (nCI nd H0 a1) (nCI nd H0 a2) a3) ∧ (v77 : Int64).toInt = -1 ∧ MoK X H0 H76 mo) := Or.inr ⟨fun h => by obtain ⟨q1, q2, q3, q4, q5, q6, q7, q8, -⟩ := h; omega, by omega, mok⟩
    exact ret v77 H76 locs76 _ _ dX11_works_20 ⟨hKp76, hpost⟩ hC76 hS76
