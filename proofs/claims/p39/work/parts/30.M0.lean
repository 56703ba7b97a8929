set_option maxRecDepth 100000 in
set_option maxHeartbeats 4000000 in
theorem m_X12_status (l : Launch) (X : xW) (Γ : Nat → Option Nat) (H0 : Heap) (hC0 : Conf X Γ H0) (h0 : Nat) (g0 : Γ h0 = some 11) (ca : Nat) (gca : Γ ca = some 64) (uc : ∀ a, Γ a = some 64 → a = ca) : Ctr l X Γ yX12_status cX12_status 1 (some .int) 0 [.ref h0] H0 (QI X Γ (fun v H1 => Kp X Γ [1, 6, 7, 8, 9, 10, 11, 12, 14, 15, 16, 17, 19, 22, 24, 26, 28] H0 H1 ∧ (True))) := by
  refine q_enterI (own := "SnowFortsModel") (by decide) rfl (Nat.le_of_ble_eq_true rfl) ?_
  intro p e s m args below meth c ls Qz E hl ret hS0
  have hx := E.1; have hb := E.2.1
  have hKp0 : Kp X Γ [1, 6, 7, 8, 9, 10, 11, 12, 14, 15, 16, 17, 19, 22, 24, 26, 28] H0 H0 := Kp.rf
  have hl : lv_has ls 1 [(0, .ref h0)] := hl
  refine lv_aload_n hx hb dX12_status_0 rfl (lv_at hl 0 rfl) ?_
  refine lv_iconst (v := 0) hx hb dX12_status_1 rfl ?_
  refine q_put E hC0 hS0 g0 fp_RX12_69 tv_F rfl rfl dX12_status_2 (fun H21 locs21 hC21 hS21 U21 => ?_)
  have hKp21 := Kp.upO E g0 fp_RX12_69 rfl U21 hKp0
  have e22 := up_I U21
  refine lv_aload_n hx hb dX12_status_5 rfl (lv_at hl 0 rfl) ?_
  refine q_getI E hC21 g0 fa_RX12_72 dX12_status_6 (fun v23 ev23 _ _ => ?_)
  exact ret v23 H21 locs21 _ _ dX12_status_9 ⟨hKp21, trivial⟩ hC21 hS21
set_option maxRecDepth 100000 in
set_option maxHeartbeats 4000000 in
theorem m_X12_top (l : Launch) (X : xW) (Γ : Nat → Option Nat) (H0 : Heap) (hC0 : Conf X Γ H0) (h0 : Nat) (g0 : Γ h0 = some 11) (ca : Nat) (gca : Γ ca = some 64) (uc : ∀ a, Γ a = some 64 → a = ca) : Ctr l X Γ yX12_top cX12_top 1 (some .long) 0 [.ref h0] H0 (QJ X Γ (fun v H1 => Kp X Γ [1, 6, 7, 8, 9, 10, 11, 12, 14, 15, 16, 17, 19, 22, 24, 26, 28] H0 H1 ∧ (True))) := by
  refine q_enterJ (own := "SnowFortsModel") (by decide) rfl (Nat.le_of_ble_eq_true rfl) ?_
  intro p e s m args below meth c ls Qz E hl ret hS0
  have hx := E.1; have hb := E.2.1
  have hKp0 : Kp X Γ [1, 6, 7, 8, 9, 10, 11, 12, 14, 15, 16, 17, 19, 22, 24, 26, 28] H0 H0 := Kp.rf
  have hl : lv_has ls 1 [(0, .ref h0)] := hl
  refine lv_aload_n hx hb dX12_top_0 rfl (lv_at hl 0 rfl) ?_
  refine lv_iconst (v := 0) hx hb dX12_top_1 rfl ?_
  refine q_put E hC0 hS0 g0 fp_RX12_69 tv_F rfl rfl dX12_top_2 (fun H21 locs21 hC21 hS21 U21 => ?_)
  have hKp21 := Kp.upO E g0 fp_RX12_69 rfl U21 hKp0
  have e22 := up_I U21
  refine lv_aload_n hx hb dX12_top_5 rfl (lv_at hl 0 rfl) ?_
  refine q_getJ E hC21 g0 fa_RX12_75 dX12_top_6 (fun v23 ev23 => ?_)
  exact ret v23 H21 locs21 _ _ dX12_top_9 ⟨hKp21, trivial⟩ hC21 hS21
set_option maxRecDepth 100000 in
set_option maxHeartbeats 4000000 in
theorem m_X12_bottom (l : Launch) (X : xW) (Γ : Nat → Option Nat) (H0 : Heap) (hC0 : Conf X Γ H0) (h0 : Nat) (g0 : Γ h0 = some 11) (ca : Nat) (gca : Γ ca = some 64) (uc : ∀ a, Γ a = some 64 → a = ca) : Ctr l X Γ yX12_bottom cX12_bottom 1 (some .long) 0 [.ref h0] H0 (QJ X Γ (fun v H1 => Kp X Γ [1, 6, 7, 8, 9, 10, 11, 12, 14, 15, 16, 17, 19, 22, 24, 26, 28] H0 H1 ∧ (True))) := by
  refine q_enterJ (own := "SnowFortsModel") (by decide) rfl (Nat.le_of_ble_eq_true rfl) ?_
  intro p e s m args below meth c ls Qz E hl ret hS0
  have hx := E.1; have hb := E.2.1
  have hKp0 : Kp X Γ [1, 6, 7, 8, 9, 10, 11, 12, 14, 15, 16, 17, 19, 22, 24, 26, 28] H0 H0 := Kp.rf
  have hl : lv_has ls 1 [(0, .ref h0)] := hl
  refine lv_aload_n hx hb dX12_bottom_0 rfl (lv_at hl 0 rfl) ?_
  refine lv_iconst (v := 0) hx hb dX12_bottom_1 rfl ?_
  refine q_put E hC0 hS0 g0 fp_RX12_69 tv_F rfl rfl dX12_bottom_2 (fun H21 locs21 hC21 hS21 U21 => ?_)
  have hKp21 := Kp.upO E g0 fp_RX12_69 rfl U21 hKp0
  have e22 := up_I U21
  refine lv_aload_n hx hb dX12_bottom_5 rfl (lv_at hl 0 rfl) ?_
  refine q_getJ E hC21 g0 fa_RX12_7 dX12_bottom_6 (fun v23 ev23 => ?_)
  exact ret v23 H21 locs21 _ _ dX12_bottom_9 ⟨hKp21, trivial⟩ hC21 hS21
set_option maxRecDepth 100000 in
set_option maxHeartbeats 4000000 in
theorem m_X12_no (l : Launch) (X : xW) (Γ : Nat → Option Nat) (H0 : Heap) (hC0 : Conf X Γ H0) (h0 : Nat) (g0 : Γ h0 = some 11) (p1 : Int32) {a1 : Int} (e1 : p1.toInt = a1) (ca : Nat) (gca : Γ ca = some 64) (uc : ∀ a, Γ a = some 64 → a = ca) : Ctr l X Γ yX12_no cX12_no 2 (some .boolean) 0 [.ref h0, .int p1] H0 (QI X Γ (fun v H1 => Kp X Γ [1, 6, 7, 8, 9, 10, 11, 12, 14, 15, 16, 17, 19, 22, 24, 26, 28] H0 H1 ∧ ((v = 1 ∧ ((0 : Int) = 1)) ∨ (v = 0 ∧ (True))))) := by
  refine q_enterZ (own := "SnowFortsModel") (by decide) rfl (Nat.le_of_ble_eq_true rfl) ?_
  intro p e s m args below meth c ls Qz E hl ret hS0
  have hx := E.1; have hb := E.2.1
  have hKp0 : Kp X Γ [1, 6, 7, 8, 9, 10, 11, 12, 14, 15, 16, 17, 19, 22, 24, 26, 28] H0 H0 := Kp.rf
  have hl : lv_has ls 2 [(0, .ref h0), (1, .int p1)] := hl
  refine lv_aload_n hx hb dX12_no_0 rfl (lv_at hl 0 rfl) ?_
  refine lv_iload_n hx hb dX12_no_1 rfl (lv_at hl 1 rfl) ?_
  refine q_put E hC0 hS0 g0 fp_RX12_72 tv_F rfl rfl dX12_no_2 (fun H21 locs21 hC21 hS21 U21 => ?_)
  have hKp21 := Kp.upO E g0 fp_RX12_72 rfl U21 hKp0
  have e22 := up_I U21
  refine lv_iconst (v := 0) hx hb dX12_no_5 rfl ?_
  exact ret 0 H21 locs21 _ _ dX12_no_6 (Or.inl rfl) ⟨hKp21, Or.inr ⟨rfl, trivial⟩⟩ hC21 hS21
set_option maxRecDepth 100000 in
set_option maxHeartbeats 4000000 in
theorem m_X12_tray (l : Launch) (X : xW) (Γ : Nat → Option Nat) (H0 : Heap) (hC0 : Conf X Γ H0) (h0 : Nat) (g0 : Γ h0 = some 11) (p1 : Int32) {a1 : Int} (e1 : p1.toInt = a1) (p2 : Int32) {a2 : Int} (e2 : p2.toInt = a2) (p3 : Int32) {a3 : Int} (e3 : p3.toInt = a3) (ca : Nat) (gca : Γ ca = some 64) (uc : ∀ a, Γ a = some 64 → a = ca) (tm ts : Nat) (gtm : Γ tm = some 61) (utm : ∀ a, Γ a = some 61 → a = tm) (gts : Γ ts = some 60) (uts : ∀ a, Γ a = some 60 → a = ts) (na : Nat) (gna : Γ na = some 62) (una : ∀ a, Γ a = some 62 → a = na) : Ctr l X Γ yX12_tray cX12_tray 5 (some .boolean) 1 [.ref h0, .int p1, .int p2, .int p3] H0 (QI X Γ (fun v H1 => Kp X Γ [1, 7, 8, 9, 10, 11, 12, 14, 15, 16, 17, 19, 26, 28] H0 H1 ∧ (((0 ≤ a1 ∧ a1 ≤ 3 ∧ 0 ≤ a2 ∧ a2 ≤ 3 ∧ 0 ≤ a3 ∧ a3 ≤ 60 ∧ v.toInt = 1 ∧ TMt tm ts H0 H1 a1 a3 a2 ∧ NZr (nM na H0) (nM na H1) a1 a3) ∨ ((a1 < 0 ∨ 3 < a1 ∨ a2 < 0 ∨ 3 < a2 ∨ a3 < 0 ∨ 60 < a3) ∧ v.toInt = 0 ∧ TMm tm ts H0 H1 ∧ NSm (nM na H0) (nM na H1)))))) := by
  refine q_enterZ (own := "SnowFortsModel") (by decide) rfl (Nat.le_of_ble_eq_true rfl) ?_
  intro p e s m args below meth c ls Qz E hl ret hS0
  have hx := E.1; have hb := E.2.1
  have hKp0 : Kp X Γ [1, 7, 8, 9, 10, 11, 12, 14, 15, 16, 17, 19, 26, 28] H0 H0 := Kp.rf
  have hl : lv_has ls 5 [(0, .ref h0), (1, .int p1), (2, .int p2), (3, .int p3)] := hl
  have tmm : TMm tm ts H0 H0 := TMm.rf
  have nms : NSm (nM na H0) (nM na H0) := NSm.rf
  refine lv_aload_n hx hb dX12_tray_0 rfl (lv_at hl 0 rfl) ?_
  refine lv_iconst (v := 0) hx hb dX12_tray_1 rfl ?_
  refine q_put E hC0 hS0 g0 fp_RX12_69 tv_F rfl rfl dX12_tray_2 (fun H21 locs21 hC21 hS21 U21 => ?_)
  have hKp21 := Kp.upO E g0 fp_RX12_69 rfl U21 hKp0
  have e22 := up_I U21
  replace tmm : TMm tm ts H0 H21 := TMm.ne tmm U21 (nek g0 gtm (by decide)) (nek g0 gts (by decide))
  replace nms : NSm (nM na H0) (nM na H21) := nM_ne nms U21 (nek g0 gna (by decide))
  refine lv_aload_n hx hb dX12_tray_5 rfl (lv_at hl 0 rfl) ?_
  refine lv_iconst (v := 0) hx hb dX12_tray_6 rfl ?_
  refine q_put E hC21 hS21 g0 fp_RX12_72 tv_F rfl rfl dX12_tray_7 (fun H23 locs23 hC23 hS23 U23 => ?_)
  have hKp23 := Kp.upO E g0 fp_RX12_72 rfl U23 hKp21
  have e24 := up_I U23
  replace tmm : TMm tm ts H0 H23 := TMm.ne tmm U23 (nek g0 gtm (by decide)) (nek g0 gts (by decide))
  replace nms : NSm (nM na H0) (nM na H23) := nM_ne nms U23 (nek g0 gna (by decide))
  refine lv_iload_n hx hb dX12_tray_10 rfl (lv_at hl 1 rfl) ?_
  refine q_if_lt hx hb (a := a1) e1 (tgt := 28) dX12_tray_11 rfl (fun c25 => ?_) (fun c25 => ?_)
  · refine lv_aload_n hx hb dX12_tray_28 rfl (lv_at hl 0 rfl) ?_
    refine lv_iconst (v := 1) hx hb dX12_tray_29 rfl ?_
    refine q_goI (q_runV (As := [.int 1]) (rest := []) E hC23 hS23 (m_X12_no l X Γ H23 hC23 h0 g0 1 (a1 := 1) (by decide) ca gca uc) cw_X12_no cl_RX12_84 g0 ⟨rfl, rfl⟩ rfl hl.1 rfl (Nat.zero_le _) (by decide) dX12_tray_30) hS23 (fun v26 H26 locs26 hr26 hC26 hS26 => ?_)
    obtain ⟨hp26, hr26⟩ := hr26
    have hKp26 := hKp23.tr (hp26.mono rfl)
    replace tmm : TMm tm ts H0 H26 := TMm.kp tmm hp26 gtm gts rfl
    replace nms : NSm (nM na H0) (nM na H26) := nM_kp nms hp26 gna rfl
    rcases hr26 with ⟨rfl, f26a⟩ | ⟨rfl, -⟩
    · exact absurd f26a (by decide)
    · have hpost : (0 ≤ a1 ∧ a1 ≤ 3 ∧ 0 ≤ a2 ∧ a2 ≤ 3 ∧ 0 ≤ a3 ∧ a3 ≤ 60 ∧ (0 : Int32).toInt = 1 ∧ TMt tm ts H0 H26 a1 a3 a2 ∧ NZr (nM na H0) (nM na H26) a1 a3) ∨ ((a1 < 0 ∨ 3 < a1 ∨ a2 < 0 ∨ 3 < a2 ∨ a3 < 0 ∨ 60 < a3) ∧ (0 : Int32).toInt = 0 ∧ TMm tm ts H0 H26 ∧ NSm (nM na H0) (nM na H26)) := Or.inr ⟨by omega, by decide, tmm, nms⟩
      have c27 : (0 : Int32).toInt = 0 := (by decide)
      exact ret 0 H26 locs26 _ _ dX12_tray_33 (Or.inl rfl) ⟨hKp26, hpost⟩ hC26 hS26
  · refine lv_iload_n hx hb dX12_tray_14 rfl (lv_at hl 1 rfl) ?_
    refine lv_iconst (v := 4) hx hb dX12_tray_15 rfl ?_
    refine q_icmp_ge hx hb (a := a1) (b := 4) e1 (by decide) (tgt := 28) dX12_tray_16 rfl (fun c28 => ?_) (fun c28 => ?_)
    · refine lv_aload_n hx hb dX12_tray_28 rfl (lv_at hl 0 rfl) ?_
      refine lv_iconst (v := 1) hx hb dX12_tray_29 rfl ?_
      refine q_goI (q_runV (As := [.int 1]) (rest := []) E hC23 hS23 (m_X12_no l X Γ H23 hC23 h0 g0 1 (a1 := 1) (by decide) ca gca uc) cw_X12_no cl_RX12_84 g0 ⟨rfl, rfl⟩ rfl hl.1 rfl (Nat.zero_le _) (by decide) dX12_tray_30) hS23 (fun v29 H29 locs29 hr29 hC29 hS29 => ?_)
      obtain ⟨hp29, hr29⟩ := hr29
      have hKp29 := hKp23.tr (hp29.mono rfl)
      replace tmm : TMm tm ts H0 H29 := TMm.kp tmm hp29 gtm gts rfl
      replace nms : NSm (nM na H0) (nM na H29) := nM_kp nms hp29 gna rfl
      rcases hr29 with ⟨rfl, f29a⟩ | ⟨rfl, -⟩
      · exact absurd f29a (by decide)
      · have hpost : (0 ≤ a1 ∧ a1 ≤ 3 ∧ 0 ≤ a2 ∧ a2 ≤ 3 ∧ 0 ≤ a3 ∧ a3 ≤ 60 ∧ (0 : Int32).toInt = 1 ∧ TMt tm ts H0 H29 a1 a3 a2 ∧ NZr (nM na H0) (nM na H29) a1 a3) ∨ ((a1 < 0 ∨ 3 < a1 ∨ a2 < 0 ∨ 3 < a2 ∨ a3 < 0 ∨ 60 < a3) ∧ (0 : Int32).toInt = 0 ∧ TMm tm ts H0 H29 ∧ NSm (nM na H0) (nM na H29)) := Or.inr ⟨by omega, by decide, tmm, nms⟩
        have c30 : (0 : Int32).toInt = 0 := (by decide)
        exact ret 0 H29 locs29 _ _ dX12_tray_33 (Or.inl rfl) ⟨hKp29, hpost⟩ hC29 hS29
    · refine lv_iload_n hx hb dX12_tray_19 rfl (lv_at hl 2 rfl) ?_
      refine q_if_lt hx hb (a := a2) e2 (tgt := 28) dX12_tray_20 rfl (fun c31 => ?_) (fun c31 => ?_)
      · refine lv_aload_n hx hb dX12_tray_28 rfl (lv_at hl 0 rfl) ?_
        refine lv_iconst (v := 1) hx hb dX12_tray_29 rfl ?_
        refine q_goI (q_runV (As := [.int 1]) (rest := []) E hC23 hS23 (m_X12_no l X Γ H23 hC23 h0 g0 1 (a1 := 1) (by decide) ca gca uc) cw_X12_no cl_RX12_84 g0 ⟨rfl, rfl⟩ rfl hl.1 rfl (Nat.zero_le _) (by decide) dX12_tray_30) hS23 (fun v32 H32 locs32 hr32 hC32 hS32 => ?_)
        obtain ⟨hp32, hr32⟩ := hr32
        have hKp32 := hKp23.tr (hp32.mono rfl)
        replace tmm : TMm tm ts H0 H32 := TMm.kp tmm hp32 gtm gts rfl
        replace nms : NSm (nM na H0) (nM na H32) := nM_kp nms hp32 gna rfl
        rcases hr32 with ⟨rfl, f32a⟩ | ⟨rfl, -⟩
        · exact absurd f32a (by decide)
        · have hpost : (0 ≤ a1 ∧ a1 ≤ 3 ∧ 0 ≤ a2 ∧ a2 ≤ 3 ∧ 0 ≤ a3 ∧ a3 ≤ 60 ∧ (0 : Int32).toInt = 1 ∧ TMt tm ts H0 H32 a1 a3 a2 ∧ NZr (nM na H0) (nM na H32) a1 a3) ∨ ((a1 < 0 ∨ 3 < a1 ∨ a2 < 0 ∨ 3 < a2 ∨ a3 < 0 ∨ 60 < a3) ∧ (0 : Int32).toInt = 0 ∧ TMm tm ts H0 H32 ∧ NSm (nM na H0) (nM na H32)) := Or.inr ⟨by omega, by decide, tmm, nms⟩
          have c33 : (0 : Int32).toInt = 0 := (by decide)
          exact ret 0 H32 locs32 _ _ dX12_tray_33 (Or.inl rfl) ⟨hKp32, hpost⟩ hC32 hS32
      · refine lv_iload_n hx hb dX12_tray_23 rfl (lv_at hl 2 rfl) ?_
        refine lv_iconst (v := 3) hx hb dX12_tray_24 rfl ?_
        refine q_icmp_le hx hb (a := a2) (b := 3) e2 (by decide) (tgt := 34) dX12_tray_25 rfl (fun c34 => ?_) (fun c34 => ?_)
        · refine lv_iload_n hx hb dX12_tray_34 rfl (lv_at hl 3 rfl) ?_
          refine lv_bipush (v := 60) hx hb dX12_tray_35 rfl ?_
          refine q_icmp_le hx hb (a := a3) (b := 60) e3 (by decide) (tgt := 46) dX12_tray_37 rfl (fun c35 => ?_) (fun c35 => ?_)
          · refine lv_iload_n hx hb dX12_tray_46 rfl (lv_at hl 3 rfl) ?_
            refine q_if_ge hx hb (a := a3) e3 (tgt := 57) dX12_tray_47 rfl (fun c36 => ?_) (fun c36 => ?_)
            · refine lv_aload_n hx hb dX12_tray_57 rfl (lv_at hl 0 rfl) ?_
              refine q_getU E hC23 g0 fa_RX12_13 uts dX12_tray_58 ?_
              refine lv_iload_n hx hb dX12_tray_61 rfl (lv_at hl 1 rfl) ?_
              refine lv_iload_n hx hb dX12_tray_62 rfl (lv_at hl 2 rfl) ?_
              refine q_tast E hC23 hS23 gts (by decide) rfl rfl (a := a1) e1 (by omega) (by omega) tv_F dX12_tray_63 (fun H37 locs37 hC37 hS37 U37 => ?_)
              have hKp37 := Kp.upA gts rfl (by decide) rfl U37 hKp23
              replace nms : NSm (nM na H0) (nM na H37) := nM_ne nms U37 (nek gts gna (by decide))
              have u63 := U37
              refine lv_aload_n hx hb dX12_tray_64 rfl (lv_at hl 0 rfl) ?_
              refine q_getU E hC37 g0 fa_RX12_17 utm dX12_tray_65 ?_
              refine lv_iload_n hx hb dX12_tray_68 rfl (lv_at hl 1 rfl) ?_
              refine lv_iload_n hx hb dX12_tray_69 rfl (lv_at hl 3 rfl) ?_
              refine q_tast E hC37 hS37 gtm (by decide) rfl rfl (a := a1) e1 (by omega) (by omega) (tv_I e3 (by omega) (by omega)) dX12_tray_70 (fun H38 locs38 hC38 hS38 U38 => ?_)
              have hKp38 := Kp.upA gtm rfl (by decide) rfl U38 hKp37
              replace nms : NSm (nM na H0) (nM na H38) := nM_ne nms U38 (nek gtm gna (by decide))
              have tmt : TMt tm ts H0 H38 a1 a3 a2 := TMt.mk tmm (nek gts gtm (by decide)) (by omega) (by omega) u63 U38 e3 e2
              refine lv_iconst (v := 0) hx hb dX12_tray_71 rfl ?_
              refine lv_istore hx hb dX12_tray_72 hl (by decide) rfl (fun ls hl => ?_)
              replace hl : lv_has ls 5 [(4, .int 0), (0, .ref h0), (1, .int p1), (2, .int p2), (3, .int p3)] := hl
              have L74 : ∀ (n40 : Nat) (H40 : Heap) (locs40 : List Loc) (v39 : Int32) (z39 : Int) (ls : Array Slot), (a3 - z39).toNat < n40 → v39.toInt = z39 → 0 ≤ z39 → z39 ≤ a3 → NZr (nM na H0) (nM na H40) a1 z39 → Conf X Γ H40 → va_S (AΓ Γ) H0 H40 locs40 → Kp X Γ [1, 7, 8, 9, 10, 11, 12, 14, 15, 16, 17, 19, 26, 28] H0 H40 → (TMt tm ts H0 H40 a1 a3 a2) → lv_has ls 5 [(4, .int v39), (0, .ref h0), (1, .int p1), (2, .int p2), (3, .int p3)] → W p l e (rmL 1) s m args below meth c H40 locs40 0 0 Qz (F0 m 74 ls []) := by
                intro n40
                induction n40 with
                | zero => intro H40 locs40 v39 z39 ls hm40 ev39 iv40_0 iv40_1 iv40_2 hC40 hS40 hKp40 tmt hl; exact absurd hm40 (Nat.not_lt_zero _)
                | succ n40 ih40 =>
                  intro H40 locs40 v39 z39 ls hm40 ev39 iv40_0 iv40_1 iv40_2 hC40 hS40 hKp40 tmt hl
                  have nzr := iv40_2
                  refine lv_iload hx hb dX12_tray_74 (lv_at hl 0 rfl) ?_
                  refine lv_iload_n hx hb dX12_tray_76 rfl (lv_at hl 4 rfl) ?_
                  refine q_icmp_ge hx hb (a := z39) (b := a3) ev39 e3 (tgt := 99) dX12_tray_77 rfl (fun c41 => ?_) (fun c41 => ?_)
                  · refine lv_iconst (v := 1) hx hb dX12_tray_99 rfl ?_
                    have nzf : NZr (nM na H0) (nM na H40) a1 a3 := by rw [show a3 = z39 from by omega]; exact nzr
                    have hpost : (0 ≤ a1 ∧ a1 ≤ 3 ∧ 0 ≤ a2 ∧ a2 ≤ 3 ∧ 0 ≤ a3 ∧ a3 ≤ 60 ∧ (1 : Int32).toInt = 1 ∧ TMt tm ts H0 H40 a1 a3 a2 ∧ NZr (nM na H0) (nM na H40) a1 a3) ∨ ((a1 < 0 ∨ 3 < a1 ∨ a2 < 0 ∨ 3 < a2 ∨ a3 < 0 ∨ 60 < a3) ∧ (1 : Int32).toInt = 0 ∧ TMm tm ts H0 H40 ∧ NSm (nM na H0) (nM na H40)) := Or.inl ⟨by omega, by omega, by omega, by omega, by omega, by omega, by decide, tmt, nzf⟩
                    have c42 : (1 : Int32).toInt = 1 := (by decide)
                    exact ret 1 H40 locs40 _ _ dX12_tray_100 (Or.inr rfl) ⟨hKp40, hpost⟩ hC40 hS40
                  · refine lv_aload_n hx hb dX12_tray_80 rfl (lv_at hl 1 rfl) ?_
                    refine q_getU E hC40 g0 fa_RX12_20 una dX12_tray_81 ?_
                    refine lv_bipush (v := 60) hx hb dX12_tray_84 rfl ?_
                    refine lv_iload_n hx hb dX12_tray_86 rfl (lv_at hl 2 rfl) ?_
                    refine lv_imul hx hb dX12_tray_87 (lv_topi (fun v43 ev43 => ?_))
                    have ev43i : v43.toInt = (60 * a1) := i_mul ev43 (by decide) e1 (by omega) (by omega)
                    refine lv_iload hx hb dX12_tray_88 (lv_at hl 0 rfl) ?_
                    refine lv_iadd hx hb dX12_tray_90 (lv_topi (fun v44 ev44 => ?_))
                    have ev44i : v44.toInt = ((60 * a1) + z39) := i_add ev44 ev43i ev39 (by omega) (by omega)
                    refine lv_lconst (v := 0) hx hb dX12_tray_91 rfl ?_
                    refine q_last2 E hC40 hS40 gna (by decide) rfl rfl (fun _ => rfl) (a := ((60 * a1) + z39)) ev44i (by omega) (by omega) dX12_tray_92 (fun H45 locs45 hC45 hS45 U45 => ?_)
                    have hKp45 := Kp.upA gna rfl (by decide) rfl U45 hKp40
                    replace tmt : TMt tm ts H0 H45 a1 a3 a2 := TMt.ne tmt U45 (nek gna gtm (by decide)) (nek gna gts (by decide))
                    have nzr2 : NZr (nM na H0) (nM na H45) a1 (z39 + 1) := nM_zr nzr (by omega) (by omega) (by omega) (by omega) (by omega) U45
                    obtain ⟨v46, ev46⟩ : ∃ z, z = v39 + Int32.ofInt 1 := ⟨_, rfl⟩
                    have ev46i : v46.toInt = (z39 + 1) := i_add ev46 ev39 (by decide) (by omega) (by omega)
                    refine lv_iinc hx hb dX12_tray_93 hl (k := 0) rfl ev46.symm (by decide) rfl (fun ls hl => ?_)
                    replace hl : lv_has ls 5 [(4, .int v46), (0, .ref h0), (1, .int p1), (2, .int p2), (3, .int p3)] := hl
                    refine lv_goto (tgt := 74) hx hb dX12_tray_96 rfl ?_
                    exact ih40 H45 locs45 v46 ((z39 + 1)) ls (by omega) ev46i (by omega) (by omega) (nzr2) hC45 hS45 hKp45 tmt hl
              exact L74 _ H38 locs38 0 0 ls (Nat.lt_succ_self _) (by decide) (by omega) (by omega) (nM_zr0 nms) hC38 hS38 hKp38 tmt hl
            · refine lv_aload_n hx hb dX12_tray_50 rfl (lv_at hl 0 rfl) ?_
              refine lv_bipush (v := 6) hx hb dX12_tray_51 rfl ?_
              refine q_goI (q_runV (As := [.int 6]) (rest := []) E hC23 hS23 (m_X12_no l X Γ H23 hC23 h0 g0 6 (a1 := 6) (by decide) ca gca uc) cw_X12_no cl_RX12_84 g0 ⟨rfl, rfl⟩ rfl hl.1 rfl (Nat.zero_le _) (by decide) dX12_tray_53) hS23 (fun v47 H47 locs47 hr47 hC47 hS47 => ?_)
              obtain ⟨hp47, hr47⟩ := hr47
              have hKp47 := hKp23.tr (hp47.mono rfl)
              replace tmm : TMm tm ts H0 H47 := TMm.kp tmm hp47 gtm gts rfl
              replace nms : NSm (nM na H0) (nM na H47) := nM_kp nms hp47 gna rfl
              rcases hr47 with ⟨rfl, f47a⟩ | ⟨rfl, -⟩
              · exact absurd f47a (by decide)
              · have hpost : (0 ≤ a1 ∧ a1 ≤ 3 ∧ 0 ≤ a2 ∧ a2 ≤ 3 ∧ 0 ≤ a3 ∧ a3 ≤ 60 ∧ (0 : Int32).toInt = 1 ∧ TMt tm ts H0 H47 a1 a3 a2 ∧ NZr (nM na H0) (nM na H47) a1 a3) ∨ ((a1 < 0 ∨ 3 < a1 ∨ a2 < 0 ∨ 3 < a2 ∨ a3 < 0 ∨ 60 < a3) ∧ (0 : Int32).toInt = 0 ∧ TMm tm ts H0 H47 ∧ NSm (nM na H0) (nM na H47)) := Or.inr ⟨by omega, by decide, tmm, nms⟩
                have c48 : (0 : Int32).toInt = 0 := (by decide)
                exact ret 0 H47 locs47 _ _ dX12_tray_56 (Or.inl rfl) ⟨hKp47, hpost⟩ hC47 hS47
          · refine lv_aload_n hx hb dX12_tray_40 rfl (lv_at hl 0 rfl) ?_
            refine lv_iconst (v := 5) hx hb dX12_tray_41 rfl ?_
            refine q_goI (q_runV (As := [.int 5]) (rest := []) E hC23 hS23 (m_X12_no l X Γ H23 hC23 h0 g0 5 (a1 := 5) (by decide) ca gca uc) cw_X12_no cl_RX12_84 g0 ⟨rfl, rfl⟩ rfl hl.1 rfl (Nat.zero_le _) (by decide) dX12_tray_42) hS23 (fun v49 H49 locs49 hr49 hC49 hS49 => ?_)
            obtain ⟨hp49, hr49⟩ := hr49
            have hKp49 := hKp23.tr (hp49.mono rfl)
            replace tmm : TMm tm ts H0 H49 := TMm.kp tmm hp49 gtm gts rfl
            replace nms : NSm (nM na H0) (nM na H49) := nM_kp nms hp49 gna rfl
            rcases hr49 with ⟨rfl, f49a⟩ | ⟨rfl, -⟩
            · exact absurd f49a (by decide)
            · have hpost : (0 ≤ a1 ∧ a1 ≤ 3 ∧ 0 ≤ a2 ∧ a2 ≤ 3 ∧ 0 ≤ a3 ∧ a3 ≤ 60 ∧ (0 : Int32).toInt = 1 ∧ TMt tm ts H0 H49 a1 a3 a2 ∧ NZr (nM na H0) (nM na H49) a1 a3) ∨ ((a1 < 0 ∨ 3 < a1 ∨ a2 < 0 ∨ 3 < a2 ∨ a3 < 0 ∨ 60 < a3) ∧ (0 : Int32).toInt = 0 ∧ TMm tm ts H0 H49 ∧ NSm (nM na H0) (nM na H49)) := Or.inr ⟨by omega, by decide, tmm, nms⟩
              have c50 : (0 : Int32).toInt = 0 := (by decide)
              exact ret 0 H49 locs49 _ _ dX12_tray_45 (Or.inl rfl) ⟨hKp49, hpost⟩ hC49 hS49
        · refine lv_aload_n hx hb dX12_tray_28 rfl (lv_at hl 0 rfl) ?_
          refine lv_iconst (v := 1) hx hb dX12_tray_29 rfl ?_
          refine q_goI (q_runV (As := [.int 1]) (rest := []) E hC23 hS23 (m_X12_no l X Γ H23 hC23 h0 g0 1 (a1 := 1) (by decide) ca gca uc) cw_X12_no cl_RX12_84 g0 ⟨rfl, rfl⟩ rfl hl.1 rfl (Nat.zero_le _) (by decide) dX12_tray_30) hS23 (fun v51 H51 locs51 hr51 hC51 hS51 => ?_)
          obtain ⟨hp51, hr51⟩ := hr51
          have hKp51 := hKp23.tr (hp51.mono rfl)
          replace tmm : TMm tm ts H0 H51 := TMm.kp tmm hp51 gtm gts rfl
          replace nms : NSm (nM na H0) (nM na H51) := nM_kp nms hp51 gna rfl
          rcases hr51 with ⟨rfl, f51a⟩ | ⟨rfl, -⟩
          · exact absurd f51a (by decide)
          · have hpost : (0 ≤ a1 ∧ a1 ≤ 3 ∧ 0 ≤ a2 ∧ a2 ≤ 3 ∧ 0 ≤ a3 ∧ a3 ≤ 60 ∧ (0 : Int32).toInt = 1 ∧ TMt tm ts H0 H51 a1 a3 a2 ∧ NZr (nM na H0) (nM na H51) a1 a3) ∨ ((a1 < 0 ∨ 3 < a1 ∨ a2 < 0 ∨ 3 < a2 ∨ a3 < 0 ∨ 60 < a3) ∧ (0 : Int32).toInt = 0 ∧ TMm tm ts H0 H51 ∧ NSm (nM na H0) (nM na H51)) := Or.inr ⟨by omega, by decide, tmm, nms⟩
            have c52 : (0 : Int32).toInt = 0 := (by decide)
            exact ret 0 H51 locs51 _ _ dX12_tray_33 (Or.inl rfl) ⟨hKp51, hpost⟩ hC51 hS51
set_option maxRecDepth 100000 in
set_option maxHeartbeats 4000000 in
theorem m_X12_trayed (l : Launch) (X : xW) (Γ : Nat → Option Nat) (H0 : Heap) (hC0 : Conf X Γ H0) (h0 : Nat) (g0 : Γ h0 = some 11) (p1 : Int32) {a1 : Int} (e1 : p1.toInt = a1) (ca : Nat) (gca : Γ ca = some 64) (uc : ∀ a, Γ a = some 64 → a = ca) (tm ts : Nat) (gtm : Γ tm = some 61) (utm : ∀ a, Γ a = some 61 → a = tm) (gts : Γ ts = some 60) (uts : ∀ a, Γ a = some 60 → a = ts) (na : Nat) (gna : Γ na = some 62) (una : ∀ a, Γ a = some 62 → a = na) : Ctr l X Γ yX12_trayed cX12_trayed 2 (some .int) 0 [.ref h0, .int p1] H0 (QI X Γ (fun v H1 => H1 = H0 ∧ ((0 ≤ v.toInt) ∧ (0 < v.toInt ∨ (0 ≤ a1 ∧ a1 ≤ 3)) ∧ ((v.toInt = 1 ∧ (a1 < 0 ∨ 3 < a1)) ∨ (v.toInt = 3 ∧ 0 ≤ a1 ∧ a1 ≤ 3 ∧ (sI H0 tm (a1 : Int).toNat).toInt < 0) ∨ (v.toInt = 0 ∧ 0 ≤ a1 ∧ a1 ≤ 3 ∧ 0 ≤ (sI H0 tm (a1 : Int).toNat).toInt))))) := by
  refine q_enterI (own := "SnowFortsModel") (by decide) rfl (Nat.le_of_ble_eq_true rfl) ?_
  intro p e s m args below meth c ls Qz E hl ret hS0
  have hx := E.1; have hb := E.2.1
  have hl : lv_has ls 2 [(0, .ref h0), (1, .int p1)] := hl
  refine lv_iload_n hx hb dX12_trayed_0 rfl (lv_at hl 1 rfl) ?_
  refine q_if_lt hx hb (a := a1) e1 (tgt := 9) dX12_trayed_1 rfl (fun c21 => ?_) (fun c21 => ?_)
  · refine lv_iconst (v := 1) hx hb dX12_trayed_9 rfl ?_
    refine lv_goto (tgt := 27) hx hb dX12_trayed_10 rfl ?_
    have c22 : (1 : Int32).toInt = 1 := (by decide)
    exact ret 1 H0 [] _ _ dX12_trayed_27 ⟨rfl, ⟨by omega, by omega, by omega⟩⟩ hC0 hS0
  · refine lv_iload_n hx hb dX12_trayed_4 rfl (lv_at hl 1 rfl) ?_
    refine lv_iconst (v := 4) hx hb dX12_trayed_5 rfl ?_
    refine q_icmp_lt hx hb (a := a1) (b := 4) e1 (by decide) (tgt := 13) dX12_trayed_6 rfl (fun c23 => ?_) (fun c23 => ?_)
    · refine lv_aload_n hx hb dX12_trayed_13 rfl (lv_at hl 0 rfl) ?_
      refine q_getU E hC0 g0 fa_RX12_17 utm dX12_trayed_14 ?_
      refine lv_iload_n hx hb dX12_trayed_17 rfl (lv_at hl 1 rfl) ?_
      refine q_tald E hC0 gtm rfl rfl (lo := -1) (hi := 60) (a := a1) (fun _ h => h) e1 (by omega) (by omega) dX12_trayed_18 (fun v24 ev24 lv24 uv24 => ?_)
      have m25 : (sI H0 tm (a1 : Int).toNat).toInt = v24.toInt := congrArg Int32.toInt ev24
      refine q_if_ge hx hb (a := v24.toInt) rfl (tgt := 26) dX12_trayed_19 rfl (fun c26 => ?_) (fun c26 => ?_)
      · refine lv_iconst (v := 0) hx hb dX12_trayed_26 rfl ?_
        have c27 : (0 : Int32).toInt = 0 := (by decide)
        exact ret 0 H0 [] _ _ dX12_trayed_27 ⟨rfl, ⟨by omega, by omega, by omega⟩⟩ hC0 hS0
      · refine lv_iconst (v := 3) hx hb dX12_trayed_22 rfl ?_
        refine lv_goto (tgt := 27) hx hb dX12_trayed_23 rfl ?_
        have c28 : (3 : Int32).toInt = 3 := (by decide)
        exact ret 3 H0 [] _ _ dX12_trayed_27 ⟨rfl, ⟨by omega, by omega, by omega⟩⟩ hC0 hS0
    · refine lv_iconst (v := 1) hx hb dX12_trayed_9 rfl ?_
      refine lv_goto (tgt := 27) hx hb dX12_trayed_10 rfl ?_
      have c29 : (1 : Int32).toInt = 1 := (by decide)
      exact ret 1 H0 [] _ _ dX12_trayed_27 ⟨rfl, ⟨by omega, by omega, by omega⟩⟩ hC0 hS0
set_option maxRecDepth 100000 in
set_option maxHeartbeats 4000000 in
theorem m_X12_placed (l : Launch) (X : xW) (Γ : Nat → Option Nat) (H0 : Heap) (hC0 : Conf X Γ H0) (h0 : Nat) (g0 : Γ h0 = some 11) (p1 : Int32) {a1 : Int} (e1 : p1.toInt = a1) (p2 : Int32) {a2 : Int} (e2 : p2.toInt = a2) (ca : Nat) (gca : Γ ca = some 64) (uc : ∀ a, Γ a = some 64 → a = ca) (tm ts : Nat) (gtm : Γ tm = some 61) (utm : ∀ a, Γ a = some 61 → a = tm) (gts : Γ ts = some 60) (uts : ∀ a, Γ a = some 60 → a = ts) (na : Nat) (gna : Γ na = some 62) (una : ∀ a, Γ a = some 62 → a = na) : Ctr l X Γ yX12_placed cX12_placed 4 (some .int) 1 [.ref h0, .int p1, .int p2] H0 (QI X Γ (fun v H1 => H1 = H0 ∧ ((0 ≤ v.toInt) ∧ (0 < v.toInt ∨ (0 ≤ a1 ∧ a1 ≤ 3 ∧ 0 ≤ a2 ∧ a2 ≤ 59)) ∧ ((0 < v.toInt ∧ (a1 < 0 ∨ 3 < a1 ∨ a2 < 0 ∨ (sI H0 tm (a1 : Int).toNat).toInt ≤ a2)) ∨ (v.toInt = 0 ∧ 0 ≤ a1 ∧ a1 ≤ 3 ∧ 0 ≤ a2 ∧ a2 < (sI H0 tm (a1 : Int).toNat).toInt))))) := by
  refine q_enterI (own := "SnowFortsModel") (by decide) rfl (Nat.le_of_ble_eq_true rfl) ?_
  intro p e s m args below meth c ls Qz E hl ret hS0
  have hx := E.1; have hb := E.2.1
  have hl : lv_has ls 4 [(0, .ref h0), (1, .int p1), (2, .int p2)] := hl
  refine lv_aload_n hx hb dX12_placed_0 rfl (lv_at hl 0 rfl) ?_
  refine lv_iload_n hx hb dX12_placed_1 rfl (lv_at hl 1 rfl) ?_
  refine q_goIp (q_runV (As := [.int p1]) (rest := []) E hC0 hS0 (m_X12_trayed l X Γ H0 hC0 h0 g0 p1 (a1 := a1) e1 ca gca uc tm ts gtm utm gts uts na gna una) cw_X12_trayed cl_RX12_88 g0 ⟨rfl, rfl⟩ rfl hl.1 rfl (Nat.zero_le _) (by decide) dX12_placed_2) hS0 (fun v21 locs21 hr21 hS21 => ?_)
  obtain ⟨f21_0, f21_1, f21_2⟩ := hr21
  refine lv_istore_n hx hb dX12_placed_5 rfl hl (by decide) rfl (fun ls hl => ?_)
  replace hl : lv_has ls 4 [(3, .int v21), (0, .ref h0), (1, .int p1), (2, .int p2)] := hl
  refine lv_iload_n hx hb dX12_placed_6 rfl (lv_at hl 0 rfl) ?_
  refine q_if_le hx hb (a := v21.toInt) rfl (tgt := 14) dX12_placed_7 rfl (fun c22 => ?_) (fun c22 => ?_)
  · refine lv_iload_n hx hb dX12_placed_14 rfl (lv_at hl 3 rfl) ?_
    refine q_if_lt hx hb (a := a2) e2 (tgt := 28) dX12_placed_15 rfl (fun c23 => ?_) (fun c23 => ?_)
    · refine lv_iconst (v := 4) hx hb dX12_placed_28 rfl ?_
      refine lv_goto (tgt := 33) hx hb dX12_placed_29 rfl ?_
      have c24 : (4 : Int32).toInt = 4 := (by decide)
      exact ret 4 H0 locs21 _ _ dX12_placed_33 ⟨rfl, ⟨by omega, by omega, by omega⟩⟩ hC0 hS21
    · refine lv_iload_n hx hb dX12_placed_18 rfl (lv_at hl 3 rfl) ?_
      refine lv_aload_n hx hb dX12_placed_19 rfl (lv_at hl 1 rfl) ?_
      refine q_getU E hC0 g0 fa_RX12_17 utm dX12_placed_20 ?_
      refine lv_iload_n hx hb dX12_placed_23 rfl (lv_at hl 2 rfl) ?_
      refine q_tald E hC0 gtm rfl rfl (lo := -1) (hi := 60) (a := a1) (fun _ h => h) e1 (by omega) (by omega) dX12_placed_24 (fun v25 ev25 lv25 uv25 => ?_)
      have m26 : (sI H0 tm (a1 : Int).toNat).toInt = v25.toInt := congrArg Int32.toInt ev25
      refine q_icmp_lt hx hb (a := a2) (b := v25.toInt) e2 rfl (tgt := 32) dX12_placed_25 rfl (fun c27 => ?_) (fun c27 => ?_)
      · refine lv_iconst (v := 0) hx hb dX12_placed_32 rfl ?_
        have c28 : (0 : Int32).toInt = 0 := (by decide)
        exact ret 0 H0 locs21 _ _ dX12_placed_33 ⟨rfl, ⟨by omega, by omega, by omega⟩⟩ hC0 hS21
      · refine lv_iconst (v := 4) hx hb dX12_placed_28 rfl ?_
        refine lv_goto (tgt := 33) hx hb dX12_placed_29 rfl ?_
        have c29 : (4 : Int32).toInt = 4 := (by decide)
        exact ret 4 H0 locs21 _ _ dX12_placed_33 ⟨rfl, ⟨by omega, by omega, by omega⟩⟩ hC0 hS21
  · refine lv_iload_n hx hb dX12_placed_10 rfl (lv_at hl 0 rfl) ?_
    refine lv_goto (tgt := 33) hx hb dX12_placed_11 rfl ?_
    have c30 : v21.toInt = v21.toInt := rfl
    exact ret v21 H0 locs21 _ _ dX12_placed_33 ⟨rfl, ⟨by omega, by omega, by omega⟩⟩ hC0 hS21
set_option maxRecDepth 100000 in
set_option maxHeartbeats 4000000 in
theorem m_X12_cut (l : Launch) (X : xW) (Γ : Nat → Option Nat) (H0 : Heap) (hC0 : Conf X Γ H0) (p0 : Int32) {a0 : Int} (e0 : p0.toInt = a0) (p1 : Int64) {a1 : Int} (e1 : p1.toInt = a1) : Ctr l X Γ yX12_cut cX12_cut 3 (some .long) 0 [.int p0, .long p1] H0 (QJ X Γ (fun v H1 => H1 = H0 ∧ ((v = cutJ a0 p1)))) := by
  refine q_enterJ (own := "SnowFortsModel") (by decide) rfl (Nat.le_of_ble_eq_true rfl) ?_
  intro p e s m args below meth c ls Qz E hl ret hS0
  have hx := E.1; have hb := E.2.1
  have hl : lv_has ls 3 [(0, .int p0), (1, .long p1)] := hl
  refine lv_iload_n hx hb dX12_cut_0 rfl (lv_at hl 0 rfl) ?_
  refine q_if_ne hx hb (a := a0) e0 (tgt := 11) dX12_cut_1 rfl (fun c21 => ?_) (fun c21 => ?_)
  · refine lv_iload_n hx hb dX12_cut_11 rfl (lv_at hl 0 rfl) ?_
    refine lv_iconst (v := 1) hx hb dX12_cut_12 rfl ?_
    refine q_icmp_ne hx hb (a := a0) (b := 1) e0 (by decide) (tgt := 23) dX12_cut_13 rfl (fun c22 => ?_) (fun c22 => ?_)
    · refine lv_iload_n hx hb dX12_cut_23 rfl (lv_at hl 0 rfl) ?_
      refine lv_iconst (v := 2) hx hb dX12_cut_24 rfl ?_
      refine q_icmp_ne hx hb (a := a0) (b := 2) e0 (by decide) (tgt := 34) dX12_cut_25 rfl (fun c23 => ?_) (fun c23 => ?_)
      · refine lv_lload_n hx hb dX12_cut_34 rfl (lv_at hl 1 rfl) ?_
        have hcut : p1 = cutJ a0 p1 := by unfold cutJ; (repeat' split) <;> first | omega | (subst_vars; rfl)
        exact ret p1 H0 [] _ _ dX12_cut_35 ⟨rfl, hcut⟩ hC0 hS0
      · refine lv_lload_n hx hb dX12_cut_28 rfl (lv_at hl 1 rfl) ?_
        refine lv_l2i hx hb dX12_cut_29 rfl (lv_topi (fun v24 ev24 => ?_))
        refine lv_i2l (v := v24.toInt64) hx hb dX12_cut_30 rfl (lv_topl (fun v25 ev25 => ?_))
        have ev25i : v25.toInt = v24.toInt := l_ofi ev25.symm rfl
        refine lv_goto (tgt := 35) hx hb dX12_cut_31 rfl ?_
        have hcut : v25 = cutJ a0 p1 := by unfold cutJ; (repeat' split) <;> first | omega | (subst_vars; rfl)
        exact ret v25 H0 [] _ _ dX12_cut_35 ⟨rfl, hcut⟩ hC0 hS0
    · refine lv_lload_n hx hb dX12_cut_16 rfl (lv_at hl 1 rfl) ?_
      refine lv_l2i hx hb dX12_cut_17 rfl (lv_topi (fun v26 ev26 => ?_))
      refine lv_i2s hx hb dX12_cut_18 rfl (lv_topi (fun v27 ev27 => ?_))
      refine lv_i2l (v := v27.toInt64) hx hb dX12_cut_19 rfl (lv_topl (fun v28 ev28 => ?_))
      have ev28i : v28.toInt = v27.toInt := l_ofi ev28.symm rfl
      refine lv_goto (tgt := 35) hx hb dX12_cut_20 rfl ?_
      have hcut : v28 = cutJ a0 p1 := by unfold cutJ; (repeat' split) <;> first | omega | (subst_vars; rfl)
      exact ret v28 H0 [] _ _ dX12_cut_35 ⟨rfl, hcut⟩ hC0 hS0
  · refine lv_lload_n hx hb dX12_cut_4 rfl (lv_at hl 1 rfl) ?_
    refine lv_l2i hx hb dX12_cut_5 rfl (lv_topi (fun v29 ev29 => ?_))
    refine lv_i2b hx hb dX12_cut_6 rfl (lv_topi (fun v30 ev30 => ?_))
    refine lv_i2l (v := v30.toInt64) hx hb dX12_cut_7 rfl (lv_topl (fun v31 ev31 => ?_))
    have ev31i : v31.toInt = v30.toInt := l_ofi ev31.symm rfl
    refine lv_goto (tgt := 35) hx hb dX12_cut_8 rfl ?_
    have hcut : v31 = cutJ a0 p1 := by unfold cutJ; (repeat' split) <;> first | omega | (subst_vars; rfl)
    exact ret v31 H0 [] _ _ dX12_cut_35 ⟨rfl, hcut⟩ hC0 hS0
set_option maxRecDepth 100000 in
set_option maxHeartbeats 4000000 in
theorem m_X12_write (l : Launch) (X : xW) (Γ : Nat → Option Nat) (H0 : Heap) (hC0 : Conf X Γ H0) (h0 : Nat) (g0 : Γ h0 = some 11) (p1 : Int32) {a1 : Int} (e1 : p1.toInt = a1) (p2 : Int32) {a2 : Int} (e2 : p2.toInt = a2) (p3 : Int64) {a3 : Int} (e3 : p3.toInt = a3) (ca : Nat) (gca : Γ ca = some 64) (uc : ∀ a, Γ a = some 64 → a = ca) (tm ts : Nat) (gtm : Γ tm = some 61) (utm : ∀ a, Γ a = some 61 → a = tm) (gts : Γ ts = some 60) (uts : ∀ a, Γ a = some 60 → a = ts) (na : Nat) (gna : Γ na = some 62) (una : ∀ a, Γ a = some 62 → a = na) : Ctr l X Γ yX12_write cX12_write 5 (some .boolean) 2 [.ref h0, .int p1, .int p2, .long p3] H0 (QI X Γ (fun v H1 => Kp X Γ [1, 7, 8, 9, 10, 11, 12, 14, 15, 16, 17, 19, 22, 26, 28] H0 H1 ∧ (((0 ≤ a1 ∧ a1 ≤ 3 ∧ 0 ≤ a2 ∧ a2 < (sI H0 tm (a1 : Int).toNat).toInt ∧ v.toInt = 1 ∧ NWr (nM na H0) (nM na H1) a1 a2 (cutJ (sI H0 ts (a1 : Int).toNat).toInt p3)) ∨ ((a1 < 0 ∨ 3 < a1 ∨ a2 < 0 ∨ (sI H0 tm (a1 : Int).toNat).toInt ≤ a2) ∧ v.toInt = 0 ∧ NSm (nM na H0) (nM na H1)))))) := by
  refine q_enterZ (own := "SnowFortsModel") (by decide) rfl (Nat.le_of_ble_eq_true rfl) ?_
  intro p e s m args below meth c ls Qz E hl ret hS0
  have hx := E.1; have hb := E.2.1
  have hKp0 : Kp X Γ [1, 7, 8, 9, 10, 11, 12, 14, 15, 16, 17, 19, 22, 26, 28] H0 H0 := Kp.rf
  have hl : lv_has ls 5 [(0, .ref h0), (1, .int p1), (2, .int p2), (3, .long p3)] := hl
  have tmm : TMm tm ts H0 H0 := TMm.rf
  have nms : NSm (nM na H0) (nM na H0) := NSm.rf
  refine lv_aload_n hx hb dX12_write_0 rfl (lv_at hl 0 rfl) ?_
  refine lv_iconst (v := 0) hx hb dX12_write_1 rfl ?_
  refine q_put E hC0 hS0 g0 fp_RX12_69 tv_F rfl rfl dX12_write_2 (fun H21 locs21 hC21 hS21 U21 => ?_)
  have hKp21 := Kp.upO E g0 fp_RX12_69 rfl U21 hKp0
  have e22 := up_I U21
  replace tmm : TMm tm ts H0 H21 := TMm.ne tmm U21 (nek g0 gtm (by decide)) (nek g0 gts (by decide))
  replace nms : NSm (nM na H0) (nM na H21) := nM_ne nms U21 (nek g0 gna (by decide))
  have tq1 := tmm (a1 : Int).toNat
  refine lv_aload_n hx hb dX12_write_5 rfl (lv_at hl 0 rfl) ?_
  refine lv_aload_n hx hb dX12_write_6 rfl (lv_at hl 0 rfl) ?_
  refine lv_iload_n hx hb dX12_write_7 rfl (lv_at hl 1 rfl) ?_
  refine lv_iload_n hx hb dX12_write_8 rfl (lv_at hl 2 rfl) ?_
  refine q_goIp (q_runV (As := [.int p1, .int p2]) (rest := [.ref h0]) E hC21 hS21 (m_X12_placed l X Γ H21 hC21 h0 g0 p1 (a1 := a1) e1 p2 (a2 := a2) e2 ca gca uc tm ts gtm utm gts uts na gna una) cw_X12_placed cl_RX12_92 g0 ⟨rfl, rfl⟩ rfl hl.1 rfl (show _ ≤ _ from by simp [Value.category]) (by decide) dX12_write_9) hS21 (fun v23 locs23 hr23 hS23 => ?_)
  obtain ⟨f23_0, f23_1, f23_2⟩ := hr23
  refine q_put E hC21 hS23 g0 fp_RX12_72 tv_F rfl rfl dX12_write_12 (fun H24 locs24 hC24 hS24 U24 => ?_)
  have hKp24 := Kp.upO E g0 fp_RX12_72 rfl U24 hKp21
  have e25 := up_I U24
  replace tmm : TMm tm ts H0 H24 := TMm.ne tmm U24 (nek g0 gtm (by decide)) (nek g0 gts (by decide))
  replace nms : NSm (nM na H0) (nM na H24) := nM_ne nms U24 (nek g0 gna (by decide))
  have tq2 := tmm (a1 : Int).toNat
  refine lv_aload_n hx hb dX12_write_15 rfl (lv_at hl 0 rfl) ?_
  refine q_getI E hC24 g0 fa_RX12_72 dX12_write_16 (fun v26 ev26 _ _ => ?_)
  have qv26 := e25.symm.trans ev26; subst qv26
  refine q_if_le hx hb (a := v23.toInt) rfl (tgt := 24) dX12_write_19 rfl (fun c27 => ?_) (fun c27 => ?_)
  · refine lv_aload_n hx hb dX12_write_24 rfl (lv_at hl 0 rfl) ?_
    refine q_getU E hC24 g0 fa_RX12_20 una dX12_write_25 ?_
    refine lv_bipush (v := 60) hx hb dX12_write_28 rfl ?_
    refine lv_iload_n hx hb dX12_write_30 rfl (lv_at hl 1 rfl) ?_
    refine lv_imul hx hb dX12_write_31 (lv_topi (fun v28 ev28 => ?_))
    have ev28i : v28.toInt = (60 * a1) := i_mul ev28 (by decide) e1 (by omega) (by omega)
    refine lv_iload_n hx hb dX12_write_32 rfl (lv_at hl 2 rfl) ?_
    refine lv_iadd hx hb dX12_write_33 (lv_topi (fun v29 ev29 => ?_))
    have ev29i : v29.toInt = ((60 * a1) + a2) := i_add ev29 ev28i e2 (by omega) (by omega)
    refine lv_aload_n hx hb dX12_write_34 rfl (lv_at hl 0 rfl) ?_
    refine q_getU E hC24 g0 fa_RX12_13 uts dX12_write_35 ?_
    refine lv_iload_n hx hb dX12_write_38 rfl (lv_at hl 1 rfl) ?_
    refine q_tald E hC24 gts rfl rfl (lo := -2147483648) (hi := 2147483647) (a := a1) (fun _ h => h) e1 (by omega) (by omega) dX12_write_39 (fun v30 ev30 _ _ => ?_)
    have m31 : (sI H24 ts (a1 : Int).toNat).toInt = v30.toInt := congrArg Int32.toInt ev30
    refine lv_lload_n hx hb dX12_write_40 rfl (lv_at hl 3 rfl) ?_
    refine q_goJp (q_runS (As := [.int v30, .long p3]) (rest := [.int v29, .ref na]) E hS24 (m_X12_cut l X Γ H24 hC24 v30 (a0 := v30.toInt) rfl p3 (a1 := a3) e3) cw_X12_cut cl_RX12_96 rfl hl.1 rfl (show _ ≤ _ from by simp [Value.category]) (by decide) dX12_write_41) hS24 (fun v32 locs32 hr32 hS32 => ?_)
    have f32_0 := hr32
    have hcv := f32_0
    refine q_last2 E hC24 hS32 gna (by decide) rfl rfl (fun _ => rfl) (a := ((60 * a1) + a2)) ev29i (by omega) (by omega) dX12_write_44 (fun H33 locs33 hC33 hS33 U33 => ?_)
    have hKp33 := Kp.upA gna rfl (by decide) rfl U33 hKp24
    replace tmm : TMm tm ts H0 H33 := TMm.ne tmm U33 (nek gna gtm (by decide)) (nek gna gts (by decide))
    have nwr : NWr (nM na H0) (nM na H33) a1 a2 (cutJ (sI H0 ts (a1 : Int).toNat).toInt p3) := by rw [(show cutJ (sI H0 ts (a1 : Int).toNat).toInt p3 = v32 from by rw [hcv]; congr 1; omega)]; exact nM_wr nms (by omega) (by omega) (by omega) (by omega) (by omega) U33
    refine lv_iconst (v := 1) hx hb dX12_write_45 rfl ?_
    have hpost : (0 ≤ a1 ∧ a1 ≤ 3 ∧ 0 ≤ a2 ∧ a2 < (sI H0 tm (a1 : Int).toNat).toInt ∧ (1 : Int32).toInt = 1 ∧ NWr (nM na H0) (nM na H33) a1 a2 (cutJ (sI H0 ts (a1 : Int).toNat).toInt p3)) ∨ ((a1 < 0 ∨ 3 < a1 ∨ a2 < 0 ∨ (sI H0 tm (a1 : Int).toNat).toInt ≤ a2) ∧ (1 : Int32).toInt = 0 ∧ NSm (nM na H0) (nM na H33)) := Or.inl ⟨by omega, by omega, by omega, by omega, by decide, nwr⟩
    have c34 : (1 : Int32).toInt = 1 := (by decide)
    exact ret 1 H33 locs33 _ _ dX12_write_46 (Or.inr rfl) ⟨hKp33, hpost⟩ hC33 hS33
  · refine lv_iconst (v := 0) hx hb dX12_write_22 rfl ?_
    have hpost : (0 ≤ a1 ∧ a1 ≤ 3 ∧ 0 ≤ a2 ∧ a2 < (sI H0 tm (a1 : Int).toNat).toInt ∧ (0 : Int32).toInt = 1 ∧ NWr (nM na H0) (nM na H24) a1 a2 (cutJ (sI H0 ts (a1 : Int).toNat).toInt p3)) ∨ ((a1 < 0 ∨ 3 < a1 ∨ a2 < 0 ∨ (sI H0 tm (a1 : Int).toNat).toInt ≤ a2) ∧ (0 : Int32).toInt = 0 ∧ NSm (nM na H0) (nM na H24)) := Or.inr ⟨by omega, by decide, nms⟩
    have c35 : (0 : Int32).toInt = 0 := (by decide)
    exact ret 0 H24 locs24 _ _ dX12_write_23 (Or.inl rfl) ⟨hKp24, hpost⟩ hC24 hS24
set_option maxRecDepth 100000 in
set_option maxHeartbeats 4000000 in
theorem m_X12_read (l : Launch) (X : xW) (Γ : Nat → Option Nat) (H0 : Heap) (hC0 : Conf X Γ H0) (h0 : Nat) (g0 : Γ h0 = some 11) (p1 : Int32) {a1 : Int} (e1 : p1.toInt = a1) (p2 : Int32) {a2 : Int} (e2 : p2.toInt = a2) (ca : Nat) (gca : Γ ca = some 64) (uc : ∀ a, Γ a = some 64 → a = ca) (tm ts : Nat) (gtm : Γ tm = some 61) (utm : ∀ a, Γ a = some 61 → a = tm) (gts : Γ ts = some 60) (uts : ∀ a, Γ a = some 60 → a = ts) (na : Nat) (gna : Γ na = some 62) (una : ∀ a, Γ a = some 62 → a = na) : Ctr l X Γ yX12_read cX12_read 3 (some .long) 2 [.ref h0, .int p1, .int p2] H0 (QJ X Γ (fun v H1 => Kp X Γ [1, 6, 7, 8, 9, 10, 11, 12, 14, 15, 16, 17, 19, 22, 24, 26, 28] H0 H1 ∧ (((0 ≤ a1 ∧ a1 ≤ 3 ∧ 0 ≤ a2 ∧ a2 < (sI H0 tm (a1 : Int).toNat).toInt ∧ v = nM na H0 (a1 : Int).toNat (a2 : Int).toNat) ∨ ((a1 < 0 ∨ 3 < a1 ∨ a2 < 0 ∨ (sI H0 tm (a1 : Int).toNat).toInt ≤ a2) ∧ v.toInt = -1))))) := by
  refine q_enterJ (own := "SnowFortsModel") (by decide) rfl (Nat.le_of_ble_eq_true rfl) ?_
  intro p e s m args below meth c ls Qz E hl ret hS0
  have hx := E.1; have hb := E.2.1
  have hKp0 : Kp X Γ [1, 6, 7, 8, 9, 10, 11, 12, 14, 15, 16, 17, 19, 22, 24, 26, 28] H0 H0 := Kp.rf
  have hl : lv_has ls 3 [(0, .ref h0), (1, .int p1), (2, .int p2)] := hl
  have tmm : TMm tm ts H0 H0 := TMm.rf
  have nms : NSm (nM na H0) (nM na H0) := NSm.rf
  refine lv_aload_n hx hb dX12_read_0 rfl (lv_at hl 0 rfl) ?_
  refine lv_iconst (v := 0) hx hb dX12_read_1 rfl ?_
  refine q_put E hC0 hS0 g0 fp_RX12_69 tv_F rfl rfl dX12_read_2 (fun H21 locs21 hC21 hS21 U21 => ?_)
  have hKp21 := Kp.upO E g0 fp_RX12_69 rfl U21 hKp0
  have e22 := up_I U21
  replace tmm : TMm tm ts H0 H21 := TMm.ne tmm U21 (nek g0 gtm (by decide)) (nek g0 gts (by decide))
  replace nms : NSm (nM na H0) (nM na H21) := nM_ne nms U21 (nek g0 gna (by decide))
  have tq1 := tmm (a1 : Int).toNat
  refine lv_aload_n hx hb dX12_read_5 rfl (lv_at hl 0 rfl) ?_
  refine lv_aload_n hx hb dX12_read_6 rfl (lv_at hl 0 rfl) ?_
  refine lv_iload_n hx hb dX12_read_7 rfl (lv_at hl 1 rfl) ?_
  refine lv_iload_n hx hb dX12_read_8 rfl (lv_at hl 2 rfl) ?_
  refine q_goIp (q_runV (As := [.int p1, .int p2]) (rest := [.ref h0]) E hC21 hS21 (m_X12_placed l X Γ H21 hC21 h0 g0 p1 (a1 := a1) e1 p2 (a2 := a2) e2 ca gca uc tm ts gtm utm gts uts na gna una) cw_X12_placed cl_RX12_92 g0 ⟨rfl, rfl⟩ rfl hl.1 rfl (show _ ≤ _ from by simp [Value.category]) (by decide) dX12_read_9) hS21 (fun v23 locs23 hr23 hS23 => ?_)
  obtain ⟨f23_0, f23_1, f23_2⟩ := hr23
  refine q_put E hC21 hS23 g0 fp_RX12_72 tv_F rfl rfl dX12_read_12 (fun H24 locs24 hC24 hS24 U24 => ?_)
  have hKp24 := Kp.upO E g0 fp_RX12_72 rfl U24 hKp21
  have e25 := up_I U24
  replace tmm : TMm tm ts H0 H24 := TMm.ne tmm U24 (nek g0 gtm (by decide)) (nek g0 gts (by decide))
  replace nms : NSm (nM na H0) (nM na H24) := nM_ne nms U24 (nek g0 gna (by decide))
  refine lv_aload_n hx hb dX12_read_15 rfl (lv_at hl 0 rfl) ?_
  refine q_getI E hC24 g0 fa_RX12_72 dX12_read_16 (fun v26 ev26 _ _ => ?_)
  have qv26 := e25.symm.trans ev26; subst qv26
  refine q_if_le hx hb (a := v23.toInt) rfl (tgt := 28) dX12_read_19 rfl (fun c27 => ?_) (fun c27 => ?_)
  · refine lv_aload_n hx hb dX12_read_28 rfl (lv_at hl 0 rfl) ?_
    refine q_getU E hC24 g0 fa_RX12_20 una dX12_read_29 ?_
    refine lv_bipush (v := 60) hx hb dX12_read_32 rfl ?_
    refine lv_iload_n hx hb dX12_read_34 rfl (lv_at hl 1 rfl) ?_
    refine lv_imul hx hb dX12_read_35 (lv_topi (fun v28 ev28 => ?_))
    have ev28i : v28.toInt = (60 * a1) := i_mul ev28 (by decide) e1 (by omega) (by omega)
    refine lv_iload_n hx hb dX12_read_36 rfl (lv_at hl 2 rfl) ?_
    refine lv_iadd hx hb dX12_read_37 (lv_topi (fun v29 ev29 => ?_))
    have ev29i : v29.toInt = ((60 * a1) + a2) := i_add ev29 ev28i e2 (by omega) (by omega)
    refine q_lald2 E hC24 gna rfl rfl (fun _ => rfl) (a := ((60 * a1) + a2)) ev29i (by omega) (by omega) dX12_read_38 (fun v30 ev30 => ?_)
    have hpost : (0 ≤ a1 ∧ a1 ≤ 3 ∧ 0 ≤ a2 ∧ a2 < (sI H0 tm (a1 : Int).toNat).toInt ∧ (v30 : Int64) = nM na H0 (a1 : Int).toNat (a2 : Int).toNat) ∨ ((a1 < 0 ∨ 3 < a1 ∨ a2 < 0 ∨ (sI H0 tm (a1 : Int).toNat).toInt ≤ a2) ∧ (v30 : Int64).toInt = -1) := Or.inl ⟨by omega, by omega, by omega, by omega, ev30.symm.trans ((congrArg (sJ H24 na) (show ((60 * a1) + a2 : Int).toNat = 60 * (a1 : Int).toNat + (a2 : Int).toNat from by omega)).trans (nms (a1 : Int).toNat (a2 : Int).toNat (by omega) (by omega)))⟩
    exact ret v30 H24 locs24 _ _ dX12_read_39 ⟨hKp24, hpost⟩ hC24 hS24
  · have hpost : (0 ≤ a1 ∧ a1 ≤ 3 ∧ 0 ≤ a2 ∧ a2 < (sI H0 tm (a1 : Int).toNat).toInt ∧ (-1 : Int64) = nM na H0 (a1 : Int).toNat (a2 : Int).toNat) ∨ ((a1 < 0 ∨ 3 < a1 ∨ a2 < 0 ∨ (sI H0 tm (a1 : Int).toNat).toInt ≤ a2) ∧ (-1 : Int64).toInt = -1) := Or.inr ⟨by omega, by decide⟩
    refine lv_ldc2 (v := (-1)) hx hb E.2.2.2.1 (E.2.2.2.2.1 _ w_1470) dX12_read_22 ?_
    refine lv_goto (tgt := 39) hx hb dX12_read_25 rfl ?_
    exact ret (-1) H24 locs24 _ _ dX12_read_39 ⟨hKp24, hpost⟩ hC24 hS24
set_option maxRecDepth 100000 in
set_option maxHeartbeats 4000000 in
theorem m_X12_pour (l : Launch) (X : xW) (Γ : Nat → Option Nat) (H0 : Heap) (hC0 : Conf X Γ H0) (h0 : Nat) (g0 : Γ h0 = some 11) (p1 : Int32) {a1 : Int} (e1 : p1.toInt = a1) (p2 : Int32) {a2 : Int} (e2 : p2.toInt = a2) (p3 : Int32) {a3 : Int} (e3 : p3.toInt = a3) (p4 : Int32) {a4 : Int} (e4 : p4.toInt = a4) (p5 : Int32) {a5 : Int} (e5 : p5.toInt = a5) (ca : Nat) (gca : Γ ca = some 64) (uc : ∀ a, Γ a = some 64 → a = ca) (tm ts : Nat) (gtm : Γ tm = some 61) (utm : ∀ a, Γ a = some 61 → a = tm) (gts : Γ ts = some 60) (uts : ∀ a, Γ a = some 60 → a = ts) (na : Nat) (gna : Γ na = some 62) (una : ∀ a, Γ a = some 62 → a = na) : Ctr l X Γ yX12_pour cX12_pour 9 (some .boolean) 1 [.ref h0, .int p1, .int p2, .int p3, .int p4, .int p5] H0 (QI X Γ (fun v H1 => Kp X Γ [1, 7, 8, 9, 10, 11, 12, 14, 15, 16, 17, 19, 22, 26, 28] H0 H1 ∧ (((0 ≤ a1 ∧ a1 ≤ 3 ∧ 0 ≤ a3 ∧ a3 ≤ 3 ∧ 0 ≤ (sI H0 tm (a1 : Int).toNat).toInt ∧ 0 ≤ (sI H0 tm (a3 : Int).toNat).toInt ∧ (sI H0 ts (a1 : Int).toNat).toInt = (sI H0 ts (a3 : Int).toNat).toInt ∧ 0 ≤ a5 ∧ 0 ≤ a2 ∧ a2 + a5 ≤ (sI H0 tm (a1 : Int).toNat).toInt ∧ 0 ≤ a4 ∧ a4 + a5 ≤ (sI H0 tm (a3 : Int).toNat).toInt ∧ v.toInt = 1 ∧ NPr (nM na H0) (nM na H1) a1 a2 a3 a4 0 a5) ∨ ((a1 < 0 ∨ 3 < a1 ∨ a3 < 0 ∨ 3 < a3 ∨ (sI H0 tm (a1 : Int).toNat).toInt < 0 ∨ (sI H0 tm (a3 : Int).toNat).toInt < 0 ∨ (sI H0 ts (a1 : Int).toNat).toInt ≠ (sI H0 ts (a3 : Int).toNat).toInt ∨ a5 < 0 ∨ a2 < 0 ∨ (sI H0 tm (a1 : Int).toNat).toInt < a2 + a5 ∨ a4 < 0 ∨ (sI H0 tm (a3 : Int).toNat).toInt < a4 + a5) ∧ v.toInt = 0 ∧ NSm (nM na H0) (nM na H1)))))) := by
  refine q_enterZ (own := "SnowFortsModel") (by decide) rfl (Nat.le_of_ble_eq_true rfl) ?_
  intro p e s m args below meth c ls Qz E hl ret hS0
  have hx := E.1; have hb := E.2.1
  have hKp0 : Kp X Γ [1, 7, 8, 9, 10, 11, 12, 14, 15, 16, 17, 19, 22, 26, 28] H0 H0 := Kp.rf
  have hl : lv_has ls 9 [(0, .ref h0), (1, .int p1), (2, .int p2), (3, .int p3), (4, .int p4), (5, .int p5)] := hl
  have tmm : TMm tm ts H0 H0 := TMm.rf
  have nms : NSm (nM na H0) (nM na H0) := NSm.rf
  refine lv_aload_n hx hb dX12_pour_0 rfl (lv_at hl 0 rfl) ?_
  refine lv_iconst (v := 0) hx hb dX12_pour_1 rfl ?_
  refine q_put E hC0 hS0 g0 fp_RX12_69 tv_F rfl rfl dX12_pour_2 (fun H21 locs21 hC21 hS21 U21 => ?_)
  have hKp21 := Kp.upO E g0 fp_RX12_69 rfl U21 hKp0
  have e22 := up_I U21
  replace tmm : TMm tm ts H0 H21 := TMm.ne tmm U21 (nek g0 gtm (by decide)) (nek g0 gts (by decide))
  replace nms : NSm (nM na H0) (nM na H21) := nM_ne nms U21 (nek g0 gna (by decide))
  refine lv_aload_n hx hb dX12_pour_5 rfl (lv_at hl 0 rfl) ?_
  refine lv_iconst (v := 0) hx hb dX12_pour_6 rfl ?_
  refine q_put E hC21 hS21 g0 fp_RX12_72 tv_F rfl rfl dX12_pour_7 (fun H23 locs23 hC23 hS23 U23 => ?_)
  have hKp23 := Kp.upO E g0 fp_RX12_72 rfl U23 hKp21
  have e24 := up_I U23
  replace tmm : TMm tm ts H0 H23 := TMm.ne tmm U23 (nek g0 gtm (by decide)) (nek g0 gts (by decide))
  replace nms : NSm (nM na H0) (nM na H23) := nM_ne nms U23 (nek g0 gna (by decide))
  have tq1 := tmm (a1 : Int).toNat
  have tq3 := tmm (a3 : Int).toNat
  refine lv_iload_n hx hb dX12_pour_10 rfl (lv_at hl 1 rfl) ?_
  refine q_if_lt hx hb (a := a1) e1 (tgt := 28) dX12_pour_11 rfl (fun c25 => ?_) (fun c25 => ?_)
  · refine lv_aload_n hx hb dX12_pour_28 rfl (lv_at hl 0 rfl) ?_
    refine lv_iconst (v := 1) hx hb dX12_pour_29 rfl ?_
    refine q_goI (q_runV (As := [.int 1]) (rest := []) E hC23 hS23 (m_X12_no l X Γ H23 hC23 h0 g0 1 (a1 := 1) (by decide) ca gca uc) cw_X12_no cl_RX12_84 g0 ⟨rfl, rfl⟩ rfl hl.1 rfl (Nat.zero_le _) (by decide) dX12_pour_30) hS23 (fun v26 H26 locs26 hr26 hC26 hS26 => ?_)
    obtain ⟨hp26, hr26⟩ := hr26
    have hKp26 := hKp23.tr (hp26.mono rfl)
    replace tmm : TMm tm ts H0 H26 := TMm.kp tmm hp26 gtm gts rfl
    replace nms : NSm (nM na H0) (nM na H26) := nM_kp nms hp26 gna rfl
    rcases hr26 with ⟨rfl, f26a⟩ | ⟨rfl, -⟩
    · exact absurd f26a (by decide)
    · have hpost : (0 ≤ a1 ∧ a1 ≤ 3 ∧ 0 ≤ a3 ∧ a3 ≤ 3 ∧ 0 ≤ (sI H0 tm (a1 : Int).toNat).toInt ∧ 0 ≤ (sI H0 tm (a3 : Int).toNat).toInt ∧ (sI H0 ts (a1 : Int).toNat).toInt = (sI H0 ts (a3 : Int).toNat).toInt ∧ 0 ≤ a5 ∧ 0 ≤ a2 ∧ a2 + a5 ≤ (sI H0 tm (a1 : Int).toNat).toInt ∧ 0 ≤ a4 ∧ a4 + a5 ≤ (sI H0 tm (a3 : Int).toNat).toInt ∧ (0 : Int32).toInt = 1 ∧ NPr (nM na H0) (nM na H26) a1 a2 a3 a4 0 a5) ∨ ((a1 < 0 ∨ 3 < a1 ∨ a3 < 0 ∨ 3 < a3 ∨ (sI H0 tm (a1 : Int).toNat).toInt < 0 ∨ (sI H0 tm (a3 : Int).toNat).toInt < 0 ∨ (sI H0 ts (a1 : Int).toNat).toInt ≠ (sI H0 ts (a3 : Int).toNat).toInt ∨ a5 < 0 ∨ a2 < 0 ∨ (sI H0 tm (a1 : Int).toNat).toInt < a2 + a5 ∨ a4 < 0 ∨ (sI H0 tm (a3 : Int).toNat).toInt < a4 + a5) ∧ (0 : Int32).toInt = 0 ∧ NSm (nM na H0) (nM na H26)) := Or.inr ⟨by omega, by decide, nms⟩
      have c27 : (0 : Int32).toInt = 0 := (by decide)
      exact ret 0 H26 locs26 _ _ dX12_pour_33 (Or.inl rfl) ⟨hKp26, hpost⟩ hC26 hS26
  · refine lv_iload_n hx hb dX12_pour_14 rfl (lv_at hl 1 rfl) ?_
    refine lv_iconst (v := 4) hx hb dX12_pour_15 rfl ?_
    refine q_icmp_ge hx hb (a := a1) (b := 4) e1 (by decide) (tgt := 28) dX12_pour_16 rfl (fun c28 => ?_) (fun c28 => ?_)
    · refine lv_aload_n hx hb dX12_pour_28 rfl (lv_at hl 0 rfl) ?_
      refine lv_iconst (v := 1) hx hb dX12_pour_29 rfl ?_
      refine q_goI (q_runV (As := [.int 1]) (rest := []) E hC23 hS23 (m_X12_no l X Γ H23 hC23 h0 g0 1 (a1 := 1) (by decide) ca gca uc) cw_X12_no cl_RX12_84 g0 ⟨rfl, rfl⟩ rfl hl.1 rfl (Nat.zero_le _) (by decide) dX12_pour_30) hS23 (fun v29 H29 locs29 hr29 hC29 hS29 => ?_)
      obtain ⟨hp29, hr29⟩ := hr29
      have hKp29 := hKp23.tr (hp29.mono rfl)
      replace tmm : TMm tm ts H0 H29 := TMm.kp tmm hp29 gtm gts rfl
      replace nms : NSm (nM na H0) (nM na H29) := nM_kp nms hp29 gna rfl
      rcases hr29 with ⟨rfl, f29a⟩ | ⟨rfl, -⟩
      · exact absurd f29a (by decide)
      · have hpost : (0 ≤ a1 ∧ a1 ≤ 3 ∧ 0 ≤ a3 ∧ a3 ≤ 3 ∧ 0 ≤ (sI H0 tm (a1 : Int).toNat).toInt ∧ 0 ≤ (sI H0 tm (a3 : Int).toNat).toInt ∧ (sI H0 ts (a1 : Int).toNat).toInt = (sI H0 ts (a3 : Int).toNat).toInt ∧ 0 ≤ a5 ∧ 0 ≤ a2 ∧ a2 + a5 ≤ (sI H0 tm (a1 : Int).toNat).toInt ∧ 0 ≤ a4 ∧ a4 + a5 ≤ (sI H0 tm (a3 : Int).toNat).toInt ∧ (0 : Int32).toInt = 1 ∧ NPr (nM na H0) (nM na H29) a1 a2 a3 a4 0 a5) ∨ ((a1 < 0 ∨ 3 < a1 ∨ a3 < 0 ∨ 3 < a3 ∨ (sI H0 tm (a1 : Int).toNat).toInt < 0 ∨ (sI H0 tm (a3 : Int).toNat).toInt < 0 ∨ (sI H0 ts (a1 : Int).toNat).toInt ≠ (sI H0 ts (a3 : Int).toNat).toInt ∨ a5 < 0 ∨ a2 < 0 ∨ (sI H0 tm (a1 : Int).toNat).toInt < a2 + a5 ∨ a4 < 0 ∨ (sI H0 tm (a3 : Int).toNat).toInt < a4 + a5) ∧ (0 : Int32).toInt = 0 ∧ NSm (nM na H0) (nM na H29)) := Or.inr ⟨by omega, by decide, nms⟩
        have c30 : (0 : Int32).toInt = 0 := (by decide)
        exact ret 0 H29 locs29 _ _ dX12_pour_33 (Or.inl rfl) ⟨hKp29, hpost⟩ hC29 hS29
    · refine lv_iload_n hx hb dX12_pour_19 rfl (lv_at hl 3 rfl) ?_
      refine q_if_lt hx hb (a := a3) e3 (tgt := 28) dX12_pour_20 rfl (fun c31 => ?_) (fun c31 => ?_)
      · refine lv_aload_n hx hb dX12_pour_28 rfl (lv_at hl 0 rfl) ?_
        refine lv_iconst (v := 1) hx hb dX12_pour_29 rfl ?_
        refine q_goI (q_runV (As := [.int 1]) (rest := []) E hC23 hS23 (m_X12_no l X Γ H23 hC23 h0 g0 1 (a1 := 1) (by decide) ca gca uc) cw_X12_no cl_RX12_84 g0 ⟨rfl, rfl⟩ rfl hl.1 rfl (Nat.zero_le _) (by decide) dX12_pour_30) hS23 (fun v32 H32 locs32 hr32 hC32 hS32 => ?_)
        obtain ⟨hp32, hr32⟩ := hr32
        have hKp32 := hKp23.tr (hp32.mono rfl)
        replace tmm : TMm tm ts H0 H32 := TMm.kp tmm hp32 gtm gts rfl
        replace nms : NSm (nM na H0) (nM na H32) := nM_kp nms hp32 gna rfl
        rcases hr32 with ⟨rfl, f32a⟩ | ⟨rfl, -⟩
        · exact absurd f32a (by decide)
        · have hpost : (0 ≤ a1 ∧ a1 ≤ 3 ∧ 0 ≤ a3 ∧ a3 ≤ 3 ∧ 0 ≤ (sI H0 tm (a1 : Int).toNat).toInt ∧ 0 ≤ (sI H0 tm (a3 : Int).toNat).toInt ∧ (sI H0 ts (a1 : Int).toNat).toInt = (sI H0 ts (a3 : Int).toNat).toInt ∧ 0 ≤ a5 ∧ 0 ≤ a2 ∧ a2 + a5 ≤ (sI H0 tm (a1 : Int).toNat).toInt ∧ 0 ≤ a4 ∧ a4 + a5 ≤ (sI H0 tm (a3 : Int).toNat).toInt ∧ (0 : Int32).toInt = 1 ∧ NPr (nM na H0) (nM na H32) a1 a2 a3 a4 0 a5) ∨ ((a1 < 0 ∨ 3 < a1 ∨ a3 < 0 ∨ 3 < a3 ∨ (sI H0 tm (a1 : Int).toNat).toInt < 0 ∨ (sI H0 tm (a3 : Int).toNat).toInt < 0 ∨ (sI H0 ts (a1 : Int).toNat).toInt ≠ (sI H0 ts (a3 : Int).toNat).toInt ∨ a5 < 0 ∨ a2 < 0 ∨ (sI H0 tm (a1 : Int).toNat).toInt < a2 + a5 ∨ a4 < 0 ∨ (sI H0 tm (a3 : Int).toNat).toInt < a4 + a5) ∧ (0 : Int32).toInt = 0 ∧ NSm (nM na H0) (nM na H32)) := Or.inr ⟨by omega, by decide, nms⟩
          have c33 : (0 : Int32).toInt = 0 := (by decide)
          exact ret 0 H32 locs32 _ _ dX12_pour_33 (Or.inl rfl) ⟨hKp32, hpost⟩ hC32 hS32
      · refine lv_iload_n hx hb dX12_pour_23 rfl (lv_at hl 3 rfl) ?_
        refine lv_iconst (v := 4) hx hb dX12_pour_24 rfl ?_
        refine q_icmp_lt hx hb (a := a3) (b := 4) e3 (by decide) (tgt := 34) dX12_pour_25 rfl (fun c34 => ?_) (fun c34 => ?_)
        · refine lv_aload_n hx hb dX12_pour_34 rfl (lv_at hl 0 rfl) ?_
          refine q_getU E hC23 g0 fa_RX12_17 utm dX12_pour_35 ?_
          refine lv_iload_n hx hb dX12_pour_38 rfl (lv_at hl 1 rfl) ?_
          refine q_tald E hC23 gtm rfl rfl (lo := -1) (hi := 60) (a := a1) (fun _ h => h) e1 (by omega) (by omega) dX12_pour_39 (fun v35 ev35 lv35 uv35 => ?_)
          have m36 : (sI H23 tm (a1 : Int).toNat).toInt = v35.toInt := congrArg Int32.toInt ev35
          refine q_if_lt hx hb (a := v35.toInt) rfl (tgt := 52) dX12_pour_40 rfl (fun c37 => ?_) (fun c37 => ?_)
          · refine lv_aload_n hx hb dX12_pour_52 rfl (lv_at hl 0 rfl) ?_
            refine lv_iconst (v := 3) hx hb dX12_pour_53 rfl ?_
            refine q_goI (q_runV (As := [.int 3]) (rest := []) E hC23 hS23 (m_X12_no l X Γ H23 hC23 h0 g0 3 (a1 := 3) (by decide) ca gca uc) cw_X12_no cl_RX12_84 g0 ⟨rfl, rfl⟩ rfl hl.1 rfl (Nat.zero_le _) (by decide) dX12_pour_54) hS23 (fun v38 H38 locs38 hr38 hC38 hS38 => ?_)
            obtain ⟨hp38, hr38⟩ := hr38
            have hKp38 := hKp23.tr (hp38.mono rfl)
            replace tmm : TMm tm ts H0 H38 := TMm.kp tmm hp38 gtm gts rfl
            replace nms : NSm (nM na H0) (nM na H38) := nM_kp nms hp38 gna rfl
            rcases hr38 with ⟨rfl, f38a⟩ | ⟨rfl, -⟩
            · exact absurd f38a (by decide)
            · have hpost : (0 ≤ a1 ∧ a1 ≤ 3 ∧ 0 ≤ a3 ∧ a3 ≤ 3 ∧ 0 ≤ (sI H0 tm (a1 : Int).toNat).toInt ∧ 0 ≤ (sI H0 tm (a3 : Int).toNat).toInt ∧ (sI H0 ts (a1 : Int).toNat).toInt = (sI H0 ts (a3 : Int).toNat).toInt ∧ 0 ≤ a5 ∧ 0 ≤ a2 ∧ a2 + a5 ≤ (sI H0 tm (a1 : Int).toNat).toInt ∧ 0 ≤ a4 ∧ a4 + a5 ≤ (sI H0 tm (a3 : Int).toNat).toInt ∧ (0 : Int32).toInt = 1 ∧ NPr (nM na H0) (nM na H38) a1 a2 a3 a4 0 a5) ∨ ((a1 < 0 ∨ 3 < a1 ∨ a3 < 0 ∨ 3 < a3 ∨ (sI H0 tm (a1 : Int).toNat).toInt < 0 ∨ (sI H0 tm (a3 : Int).toNat).toInt < 0 ∨ (sI H0 ts (a1 : Int).toNat).toInt ≠ (sI H0 ts (a3 : Int).toNat).toInt ∨ a5 < 0 ∨ a2 < 0 ∨ (sI H0 tm (a1 : Int).toNat).toInt < a2 + a5 ∨ a4 < 0 ∨ (sI H0 tm (a3 : Int).toNat).toInt < a4 + a5) ∧ (0 : Int32).toInt = 0 ∧ NSm (nM na H0) (nM na H38)) := Or.inr ⟨by omega, by decide, nms⟩
              have c39 : (0 : Int32).toInt = 0 := (by decide)
              exact ret 0 H38 locs38 _ _ dX12_pour_57 (Or.inl rfl) ⟨hKp38, hpost⟩ hC38 hS38
          · refine lv_aload_n hx hb dX12_pour_43 rfl (lv_at hl 0 rfl) ?_
            refine q_getU E hC23 g0 fa_RX12_17 utm dX12_pour_44 ?_
            refine lv_iload_n hx hb dX12_pour_47 rfl (lv_at hl 3 rfl) ?_
            refine q_tald E hC23 gtm rfl rfl (lo := -1) (hi := 60) (a := a3) (fun _ h => h) e3 (by omega) (by omega) dX12_pour_48 (fun v40 ev40 lv40 uv40 => ?_)
            have m41 : (sI H23 tm (a3 : Int).toNat).toInt = v40.toInt := congrArg Int32.toInt ev40
            refine q_if_ge hx hb (a := v40.toInt) rfl (tgt := 58) dX12_pour_49 rfl (fun c42 => ?_) (fun c42 => ?_)
            · refine lv_aload_n hx hb dX12_pour_58 rfl (lv_at hl 0 rfl) ?_
              refine q_getU E hC23 g0 fa_RX12_13 uts dX12_pour_59 ?_
              refine lv_iload_n hx hb dX12_pour_62 rfl (lv_at hl 1 rfl) ?_
              refine q_tald E hC23 gts rfl rfl (lo := -2147483648) (hi := 2147483647) (a := a1) (fun _ h => h) e1 (by omega) (by omega) dX12_pour_63 (fun v43 ev43 _ _ => ?_)
              have m44 : (sI H23 ts (a1 : Int).toNat).toInt = v43.toInt := congrArg Int32.toInt ev43
              refine lv_aload_n hx hb dX12_pour_64 rfl (lv_at hl 0 rfl) ?_
              refine q_getU E hC23 g0 fa_RX12_13 uts dX12_pour_65 ?_
              refine lv_iload_n hx hb dX12_pour_68 rfl (lv_at hl 3 rfl) ?_
              refine q_tald E hC23 gts rfl rfl (lo := -2147483648) (hi := 2147483647) (a := a3) (fun _ h => h) e3 (by omega) (by omega) dX12_pour_69 (fun v45 ev45 _ _ => ?_)
              have m46 : (sI H23 ts (a3 : Int).toNat).toInt = v45.toInt := congrArg Int32.toInt ev45
              have c47 := i_rng v43; rw [show v43.toInt = v43.toInt from rfl] at c47
              have c48 := i_rng v45; rw [show v45.toInt = v45.toInt from rfl] at c48
              refine q_icmp_eq hx hb (a := v43.toInt) (b := v45.toInt) rfl rfl (tgt := 80) dX12_pour_70 rfl (fun c49 => ?_) (fun c49 => ?_)
              · refine lv_iload hx hb dX12_pour_80 (lv_at hl 5 rfl) ?_
                refine q_if_ge hx hb (a := a5) e5 (tgt := 92) dX12_pour_82 rfl (fun c50 => ?_) (fun c50 => ?_)
                · refine lv_iload_n hx hb dX12_pour_92 rfl (lv_at hl 2 rfl) ?_
                  refine q_if_lt hx hb (a := a2) e2 (tgt := 136) dX12_pour_93 rfl (fun c51 => ?_) (fun c51 => ?_)
                  · refine lv_aload_n hx hb dX12_pour_136 rfl (lv_at hl 0 rfl) ?_
                    refine lv_iconst (v := 4) hx hb dX12_pour_137 rfl ?_
                    refine q_goI (q_runV (As := [.int 4]) (rest := []) E hC23 hS23 (m_X12_no l X Γ H23 hC23 h0 g0 4 (a1 := 4) (by decide) ca gca uc) cw_X12_no cl_RX12_84 g0 ⟨rfl, rfl⟩ rfl hl.1 rfl (Nat.zero_le _) (by decide) dX12_pour_138) hS23 (fun v52 H52 locs52 hr52 hC52 hS52 => ?_)
                    obtain ⟨hp52, hr52⟩ := hr52
                    have hKp52 := hKp23.tr (hp52.mono rfl)
                    replace tmm : TMm tm ts H0 H52 := TMm.kp tmm hp52 gtm gts rfl
                    replace nms : NSm (nM na H0) (nM na H52) := nM_kp nms hp52 gna rfl
                    rcases hr52 with ⟨rfl, f52a⟩ | ⟨rfl, -⟩
                    · exact absurd f52a (by decide)
                    · have hpost : (0 ≤ a1 ∧ a1 ≤ 3 ∧ 0 ≤ a3 ∧ a3 ≤ 3 ∧ 0 ≤ (sI H0 tm (a1 : Int).toNat).toInt ∧ 0 ≤ (sI H0 tm (a3 : Int).toNat).toInt ∧ (sI H0 ts (a1 : Int).toNat).toInt = (sI H0 ts (a3 : Int).toNat).toInt ∧ 0 ≤ a5 ∧ 0 ≤ a2 ∧ a2 + a5 ≤ (sI H0 tm (a1 : Int).toNat).toInt ∧ 0 ≤ a4 ∧ a4 + a5 ≤ (sI H0 tm (a3 : Int).toNat).toInt ∧ (0 : Int32).toInt = 1 ∧ NPr (nM na H0) (nM na H52) a1 a2 a3 a4 0 a5) ∨ ((a1 < 0 ∨ 3 < a1 ∨ a3 < 0 ∨ 3 < a3 ∨ (sI H0 tm (a1 : Int).toNat).toInt < 0 ∨ (sI H0 tm (a3 : Int).toNat).toInt < 0 ∨ (sI H0 ts (a1 : Int).toNat).toInt ≠ (sI H0 ts (a3 : Int).toNat).toInt ∨ a5 < 0 ∨ a2 < 0 ∨ (sI H0 tm (a1 : Int).toNat).toInt < a2 + a5 ∨ a4 < 0 ∨ (sI H0 tm (a3 : Int).toNat).toInt < a4 + a5) ∧ (0 : Int32).toInt = 0 ∧ NSm (nM na H0) (nM na H52)) := Or.inr ⟨by omega, by decide, nms⟩
                      have c53 : (0 : Int32).toInt = 0 := (by decide)
                      exact ret 0 H52 locs52 _ _ dX12_pour_141 (Or.inl rfl) ⟨hKp52, hpost⟩ hC52 hS52
                  · refine lv_iload hx hb dX12_pour_96 (lv_at hl 4 rfl) ?_
                    refine q_if_lt hx hb (a := a4) e4 (tgt := 136) dX12_pour_98 rfl (fun c54 => ?_) (fun c54 => ?_)
                    · refine lv_aload_n hx hb dX12_pour_136 rfl (lv_at hl 0 rfl) ?_
                      refine lv_iconst (v := 4) hx hb dX12_pour_137 rfl ?_
                      refine q_goI (q_runV (As := [.int 4]) (rest := []) E hC23 hS23 (m_X12_no l X Γ H23 hC23 h0 g0 4 (a1 := 4) (by decide) ca gca uc) cw_X12_no cl_RX12_84 g0 ⟨rfl, rfl⟩ rfl hl.1 rfl (Nat.zero_le _) (by decide) dX12_pour_138) hS23 (fun v55 H55 locs55 hr55 hC55 hS55 => ?_)
                      obtain ⟨hp55, hr55⟩ := hr55
                      have hKp55 := hKp23.tr (hp55.mono rfl)
                      replace tmm : TMm tm ts H0 H55 := TMm.kp tmm hp55 gtm gts rfl
                      replace nms : NSm (nM na H0) (nM na H55) := nM_kp nms hp55 gna rfl
                      rcases hr55 with ⟨rfl, f55a⟩ | ⟨rfl, -⟩
                      · exact absurd f55a (by decide)
                      · have hpost : (0 ≤ a1 ∧ a1 ≤ 3 ∧ 0 ≤ a3 ∧ a3 ≤ 3 ∧ 0 ≤ (sI H0 tm (a1 : Int).toNat).toInt ∧ 0 ≤ (sI H0 tm (a3 : Int).toNat).toInt ∧ (sI H0 ts (a1 : Int).toNat).toInt = (sI H0 ts (a3 : Int).toNat).toInt ∧ 0 ≤ a5 ∧ 0 ≤ a2 ∧ a2 + a5 ≤ (sI H0 tm (a1 : Int).toNat).toInt ∧ 0 ≤ a4 ∧ a4 + a5 ≤ (sI H0 tm (a3 : Int).toNat).toInt ∧ (0 : Int32).toInt = 1 ∧ NPr (nM na H0) (nM na H55) a1 a2 a3 a4 0 a5) ∨ ((a1 < 0 ∨ 3 < a1 ∨ a3 < 0 ∨ 3 < a3 ∨ (sI H0 tm (a1 : Int).toNat).toInt < 0 ∨ (sI H0 tm (a3 : Int).toNat).toInt < 0 ∨ (sI H0 ts (a1 : Int).toNat).toInt ≠ (sI H0 ts (a3 : Int).toNat).toInt ∨ a5 < 0 ∨ a2 < 0 ∨ (sI H0 tm (a1 : Int).toNat).toInt < a2 + a5 ∨ a4 < 0 ∨ (sI H0 tm (a3 : Int).toNat).toInt < a4 + a5) ∧ (0 : Int32).toInt = 0 ∧ NSm (nM na H0) (nM na H55)) := Or.inr ⟨by omega, by decide, nms⟩
                        have c56 : (0 : Int32).toInt = 0 := (by decide)
                        exact ret 0 H55 locs55 _ _ dX12_pour_141 (Or.inl rfl) ⟨hKp55, hpost⟩ hC55 hS55
                    · refine lv_iload_n hx hb dX12_pour_101 rfl (lv_at hl 2 rfl) ?_
                      refine lv_i2l (v := p2.toInt64) hx hb dX12_pour_102 rfl (lv_topl (fun v57 ev57 => ?_))
                      have ev57i : v57.toInt = a2 := l_ofi ev57.symm e2
                      refine lv_iload hx hb dX12_pour_103 (lv_at hl 5 rfl) ?_
                      refine lv_i2l (v := p5.toInt64) hx hb dX12_pour_105 rfl (lv_topl (fun v58 ev58 => ?_))
                      have ev58i : v58.toInt = a5 := l_ofi ev58.symm e5
                      refine lv_ladd hx hb dX12_pour_106 (lv_topl (fun v59 ev59 => ?_))
                      have c60 := i_rng p2; rw [show p2.toInt = a2 from e2] at c60
                      have c61 := i_rng p5; rw [show p5.toInt = a5 from e5] at c61
                      have ev59i : v59.toInt = (a2 + a5) := l_add ev59 ev57i ev58i (by omega) (by omega)
                      refine lv_aload_n hx hb dX12_pour_107 rfl (lv_at hl 0 rfl) ?_
                      refine q_getU E hC23 g0 fa_RX12_17 utm dX12_pour_108 ?_
                      refine lv_iload_n hx hb dX12_pour_111 rfl (lv_at hl 1 rfl) ?_
                      refine q_tald E hC23 gtm rfl rfl (lo := -1) (hi := 60) (a := a1) (fun _ h => h) e1 (by omega) (by omega) dX12_pour_112 (fun v62 ev62 lv62 uv62 => ?_)
                      have m63 : (sI H23 tm (a1 : Int).toNat).toInt = v62.toInt := congrArg Int32.toInt ev62
                      refine lv_i2l (v := v62.toInt64) hx hb dX12_pour_113 rfl (lv_topl (fun v64 ev64 => ?_))
                      have ev64i : v64.toInt = v62.toInt := l_ofi ev64.symm rfl
                      refine q_lcmp_gt hx hb (a := (a2 + a5)) (b := v62.toInt) ev59i ev64i (tgt := 136) dX12_pour_114 dX12_pour_115 rfl (fun c65 => ?_) (fun c65 => ?_)
                      · refine lv_aload_n hx hb dX12_pour_136 rfl (lv_at hl 0 rfl) ?_
                        refine lv_iconst (v := 4) hx hb dX12_pour_137 rfl ?_
                        refine q_goI (q_runV (As := [.int 4]) (rest := []) E hC23 hS23 (m_X12_no l X Γ H23 hC23 h0 g0 4 (a1 := 4) (by decide) ca gca uc) cw_X12_no cl_RX12_84 g0 ⟨rfl, rfl⟩ rfl hl.1 rfl (Nat.zero_le _) (by decide) dX12_pour_138) hS23 (fun v66 H66 locs66 hr66 hC66 hS66 => ?_)
                        obtain ⟨hp66, hr66⟩ := hr66
                        have hKp66 := hKp23.tr (hp66.mono rfl)
                        replace tmm : TMm tm ts H0 H66 := TMm.kp tmm hp66 gtm gts rfl
                        replace nms : NSm (nM na H0) (nM na H66) := nM_kp nms hp66 gna rfl
                        rcases hr66 with ⟨rfl, f66a⟩ | ⟨rfl, -⟩
                        · exact absurd f66a (by decide)
                        · have hpost : (0 ≤ a1 ∧ a1 ≤ 3 ∧ 0 ≤ a3 ∧ a3 ≤ 3 ∧ 0 ≤ (sI H0 tm (a1 : Int).toNat).toInt ∧ 0 ≤ (sI H0 tm (a3 : Int).toNat).toInt ∧ (sI H0 ts (a1 : Int).toNat).toInt = (sI H0 ts (a3 : Int).toNat).toInt ∧ 0 ≤ a5 ∧ 0 ≤ a2 ∧ a2 + a5 ≤ (sI H0 tm (a1 : Int).toNat).toInt ∧ 0 ≤ a4 ∧ a4 + a5 ≤ (sI H0 tm (a3 : Int).toNat).toInt ∧ (0 : Int32).toInt = 1 ∧ NPr (nM na H0) (nM na H66) a1 a2 a3 a4 0 a5) ∨ ((a1 < 0 ∨ 3 < a1 ∨ a3 < 0 ∨ 3 < a3 ∨ (sI H0 tm (a1 : Int).toNat).toInt < 0 ∨ (sI H0 tm (a3 : Int).toNat).toInt < 0 ∨ (sI H0 ts (a1 : Int).toNat).toInt ≠ (sI H0 ts (a3 : Int).toNat).toInt ∨ a5 < 0 ∨ a2 < 0 ∨ (sI H0 tm (a1 : Int).toNat).toInt < a2 + a5 ∨ a4 < 0 ∨ (sI H0 tm (a3 : Int).toNat).toInt < a4 + a5) ∧ (0 : Int32).toInt = 0 ∧ NSm (nM na H0) (nM na H66)) := Or.inr ⟨by omega, by decide, nms⟩
                          have c67 : (0 : Int32).toInt = 0 := (by decide)
                          exact ret 0 H66 locs66 _ _ dX12_pour_141 (Or.inl rfl) ⟨hKp66, hpost⟩ hC66 hS66
                      · refine lv_iload hx hb dX12_pour_118 (lv_at hl 4 rfl) ?_
                        refine lv_i2l (v := p4.toInt64) hx hb dX12_pour_120 rfl (lv_topl (fun v68 ev68 => ?_))
                        have ev68i : v68.toInt = a4 := l_ofi ev68.symm e4
                        refine lv_iload hx hb dX12_pour_121 (lv_at hl 5 rfl) ?_
                        refine lv_i2l (v := p5.toInt64) hx hb dX12_pour_123 rfl (lv_topl (fun v69 ev69 => ?_))
                        have ev69i : v69.toInt = a5 := l_ofi ev69.symm e5
                        refine lv_ladd hx hb dX12_pour_124 (lv_topl (fun v70 ev70 => ?_))
                        have c71 := i_rng p4; rw [show p4.toInt = a4 from e4] at c71
                        have ev70i : v70.toInt = (a4 + a5) := l_add ev70 ev68i ev69i (by omega) (by omega)
                        refine lv_aload_n hx hb dX12_pour_125 rfl (lv_at hl 0 rfl) ?_
                        refine q_getU E hC23 g0 fa_RX12_17 utm dX12_pour_126 ?_
                        refine lv_iload_n hx hb dX12_pour_129 rfl (lv_at hl 3 rfl) ?_
                        refine q_tald E hC23 gtm rfl rfl (lo := -1) (hi := 60) (a := a3) (fun _ h => h) e3 (by omega) (by omega) dX12_pour_130 (fun v72 ev72 lv72 uv72 => ?_)
                        have m73 : (sI H23 tm (a3 : Int).toNat).toInt = v72.toInt := congrArg Int32.toInt ev72
                        refine lv_i2l (v := v72.toInt64) hx hb dX12_pour_131 rfl (lv_topl (fun v74 ev74 => ?_))
                        have ev74i : v74.toInt = v72.toInt := l_ofi ev74.symm rfl
                        refine q_lcmp_le hx hb (a := (a4 + a5)) (b := v72.toInt) ev70i ev74i (tgt := 142) dX12_pour_132 dX12_pour_133 rfl (fun c75 => ?_) (fun c75 => ?_)
                        · refine lv_iload_n hx hb dX12_pour_142 rfl (lv_at hl 2 rfl) ?_
                          refine lv_iload hx hb dX12_pour_143 (lv_at hl 4 rfl) ?_
                          refine q_icmp_ge hx hb (a := a2) (b := a4) e2 e4 (tgt := 152) dX12_pour_145 rfl (fun c76 => ?_) (fun c76 => ?_)
                          · refine lv_iconst (v := 0) hx hb dX12_pour_152 rfl ?_
                            refine lv_istore hx hb dX12_pour_153 hl (by decide) rfl (fun ls hl => ?_)
                            replace hl : lv_has ls 9 [(6, .int 0), (0, .ref h0), (1, .int p1), (2, .int p2), (3, .int p3), (4, .int p4), (5, .int p5)] := hl
                            refine lv_iconst (v := 0) hx hb dX12_pour_155 rfl ?_
                            refine lv_istore hx hb dX12_pour_156 hl (by decide) rfl (fun ls hl => ?_)
                            replace hl : lv_has ls 9 [(7, .int 0), (6, .int 0), (0, .ref h0), (1, .int p1), (2, .int p2), (3, .int p3), (4, .int p4), (5, .int p5)] := hl
                            have L158 : ∀ (n78 : Nat) (H78 : Heap) (locs78 : List Loc) (v77 : Int32) (z77 : Int) (ls : Array Slot), (a5 - z77).toNat < n78 → v77.toInt = z77 → 0 ≤ z77 → z77 ≤ a5 → ((0 = 1 → NPr (nM na H0) (nM na H78) a1 a2 a3 a4 (a5 - (z77)) a5) ∧ (0 = 0 → NPr (nM na H0) (nM na H78) a1 a2 a3 a4 0 (z77))) → Conf X Γ H78 → va_S (AΓ Γ) H0 H78 locs78 → Kp X Γ [1, 7, 8, 9, 10, 11, 12, 14, 15, 16, 17, 19, 22, 26, 28] H0 H78 → (TMm tm ts H0 H78) → lv_has ls 9 [(7, .int v77), (6, .int 0), (0, .ref h0), (1, .int p1), (2, .int p2), (3, .int p3), (4, .int p4), (5, .int p5)] → W p l e (rmL 1) s m args below meth c H78 locs78 0 0 Qz (F0 m 158 ls []) := by
                              intro n78
                              induction n78 with
                              | zero => intro H78 locs78 v77 z77 ls hm78 ev77 iv78_0 iv78_1 iv78_2 hC78 hS78 hKp78 tmm hl; exact absurd hm78 (Nat.not_lt_zero _)
                              | succ n78 ih78 =>
                                intro H78 locs78 v77 z77 ls hm78 ev77 iv78_0 iv78_1 iv78_2 hC78 hS78 hKp78 tmm hl
                                have npr := iv78_2
                                refine lv_iload hx hb dX12_pour_158 (lv_at hl 0 rfl) ?_
                                refine lv_iload hx hb dX12_pour_160 (lv_at hl 7 rfl) ?_
                                refine q_icmp_ge hx hb (a := z77) (b := a5) ev77 e5 (tgt := 219) dX12_pour_162 rfl (fun c79 => ?_) (fun c79 => ?_)
                                · refine lv_iconst (v := 1) hx hb dX12_pour_219 rfl ?_
                                  have npf : NPr (nM na H0) (nM na H78) a1 a2 a3 a4 0 a5 := by first | (have h := npr.1 rfl; rw [show a5 - z77 = 0 from by omega] at h; exact h) | (have h := npr.2 rfl; rw [show z77 = a5 from by omega] at h; exact h)
                                  have hpost : (0 ≤ a1 ∧ a1 ≤ 3 ∧ 0 ≤ a3 ∧ a3 ≤ 3 ∧ 0 ≤ (sI H0 tm (a1 : Int).toNat).toInt ∧ 0 ≤ (sI H0 tm (a3 : Int).toNat).toInt ∧ (sI H0 ts (a1 : Int).toNat).toInt = (sI H0 ts (a3 : Int).toNat).toInt ∧ 0 ≤ a5 ∧ 0 ≤ a2 ∧ a2 + a5 ≤ (sI H0 tm (a1 : Int).toNat).toInt ∧ 0 ≤ a4 ∧ a4 + a5 ≤ (sI H0 tm (a3 : Int).toNat).toInt ∧ (1 : Int32).toInt = 1 ∧ NPr (nM na H0) (nM na H78) a1 a2 a3 a4 0 a5) ∨ ((a1 < 0 ∨ 3 < a1 ∨ a3 < 0 ∨ 3 < a3 ∨ (sI H0 tm (a1 : Int).toNat).toInt < 0 ∨ (sI H0 tm (a3 : Int).toNat).toInt < 0 ∨ (sI H0 ts (a1 : Int).toNat).toInt ≠ (sI H0 ts (a3 : Int).toNat).toInt ∨ a5 < 0 ∨ a2 < 0 ∨ (sI H0 tm (a1 : Int).toNat).toInt < a2 + a5 ∨ a4 < 0 ∨ (sI H0 tm (a3 : Int).toNat).toInt < a4 + a5) ∧ (1 : Int32).toInt = 0 ∧ NSm (nM na H0) (nM na H78)) := Or.inl ⟨by omega, by omega, by omega, by omega, by omega, by omega, by omega, by omega, by omega, by omega, by omega, by omega, by decide, npf⟩
                                  have c80 : (1 : Int32).toInt = 1 := (by decide)
                                  exact ret 1 H78 locs78 _ _ dX12_pour_220 (Or.inr rfl) ⟨hKp78, hpost⟩ hC78 hS78
                                · refine lv_iload hx hb dX12_pour_165 (lv_at hl 1 rfl) ?_
                                  refine q_if_eq hx hb (a := 0) (by decide) (tgt := 180) dX12_pour_167 rfl (fun c81 => ?_) (fun c81 => absurd c81 (by omega))
                                  refine lv_iload hx hb dX12_pour_180 (lv_at hl 0 rfl) ?_
                                  refine lv_istore hx hb dX12_pour_182 hl (by decide) rfl (fun ls hl => ?_)
                                  replace hl : lv_has ls 9 [(8, .int v77), (7, .int v77), (6, .int 0), (0, .ref h0), (1, .int p1), (2, .int p2), (3, .int p3), (4, .int p4), (5, .int p5)] := hl
                                  refine lv_aload_n hx hb dX12_pour_184 rfl (lv_at hl 3 rfl) ?_
                                  refine q_getU E hC78 g0 fa_RX12_20 una dX12_pour_185 ?_
                                  refine lv_bipush (v := 60) hx hb dX12_pour_188 rfl ?_
                                  refine lv_iload_n hx hb dX12_pour_190 rfl (lv_at hl 6 rfl) ?_
                                  refine lv_imul hx hb dX12_pour_191 (lv_topi (fun v82 ev82 => ?_))
                                  have ev82i : v82.toInt = (60 * a3) := i_mul ev82 (by decide) e3 (by omega) (by omega)
                                  refine lv_iload hx hb dX12_pour_192 (lv_at hl 7 rfl) ?_
                                  refine lv_iadd hx hb dX12_pour_194 (lv_topi (fun v83 ev83 => ?_))
                                  have ev83i : v83.toInt = ((60 * a3) + a4) := i_add ev83 ev82i e4 (by omega) (by omega)
                                  refine lv_iload hx hb dX12_pour_195 (lv_at hl 0 rfl) ?_
                                  refine lv_iadd hx hb dX12_pour_197 (lv_topi (fun v84 ev84 => ?_))
                                  have ev84i : v84.toInt = (((60 * a3) + a4) + z77) := i_add ev84 ev83i ev77 (by omega) (by omega)
                                  refine lv_aload_n hx hb dX12_pour_198 rfl (lv_at hl 3 rfl) ?_
                                  refine q_getU E hC78 g0 fa_RX12_20 una dX12_pour_199 ?_
                                  refine lv_bipush (v := 60) hx hb dX12_pour_202 rfl ?_
                                  refine lv_iload_n hx hb dX12_pour_204 rfl (lv_at hl 4 rfl) ?_
                                  refine lv_imul hx hb dX12_pour_205 (lv_topi (fun v85 ev85 => ?_))
                                  have ev85i : v85.toInt = (60 * a1) := i_mul ev85 (by decide) e1 (by omega) (by omega)
                                  refine lv_iload_n hx hb dX12_pour_206 rfl (lv_at hl 5 rfl) ?_
                                  refine lv_iadd hx hb dX12_pour_207 (lv_topi (fun v86 ev86 => ?_))
                                  have ev86i : v86.toInt = ((60 * a1) + a2) := i_add ev86 ev85i e2 (by omega) (by omega)
                                  refine lv_iload hx hb dX12_pour_208 (lv_at hl 0 rfl) ?_
                                  refine lv_iadd hx hb dX12_pour_210 (lv_topi (fun v87 ev87 => ?_))
                                  have ev87i : v87.toInt = (((60 * a1) + a2) + z77) := i_add ev87 ev86i ev77 (by omega) (by omega)
                                  refine q_lald2 E hC78 gna rfl rfl (fun _ => rfl) (a := (((60 * a1) + a2) + z77)) ev87i (by omega) (by omega) dX12_pour_211 (fun v88 ev88 => ?_)
                                  have hld := ev88
                                  refine q_last2 E hC78 hS78 gna (by decide) rfl rfl (fun _ => rfl) (a := (((60 * a3) + a4) + z77)) ev84i (by omega) (by omega) dX12_pour_212 (fun H89 locs89 hC89 hS89 U89 => ?_)
                                  have hKp89 := Kp.upA gna rfl (by decide) rfl U89 hKp78
                                  replace tmm : TMm tm ts H0 H89 := TMm.ne tmm U89 (nek gna gtm (by decide)) (nek gna gts (by decide))
                                  have npr2 : (0 = 1 → NPr (nM na H0) (nM na H89) a1 a2 a3 a4 (a5 - (z77 + 1)) a5) ∧ (0 = 0 → NPr (nM na H0) (nM na H89) a1 a2 a3 a4 0 (z77 + 1)) := ⟨fun h6 => nM_pr (npr.1 h6) (by omega) (by omega) (by omega) (by omega) (by omega) (by omega) (by omega) (by omega) (by omega) (by omega) (c := z77) hld (by omega) (by omega) (by omega) U89, fun h6 => nM_pr (npr.2 h6) (by omega) (by omega) (by omega) (by omega) (by omega) (by omega) (by omega) (by omega) (by omega) (by omega) (c := z77) hld (by omega) (by omega) (by omega) U89⟩
                                  obtain ⟨v90, ev90⟩ : ∃ z, z = v77 + Int32.ofInt 1 := ⟨_, rfl⟩
                                  have ev90i : v90.toInt = (z77 + 1) := i_add ev90 ev77 (by decide) (by omega) (by omega)
                                  refine lv_iinc hx hb dX12_pour_213 hl (k := 1) rfl ev90.symm (by decide) rfl (fun ls hl => ?_)
                                  replace hl : lv_has ls 9 [(7, .int v90), (8, .int v77), (6, .int 0), (0, .ref h0), (1, .int p1), (2, .int p2), (3, .int p3), (4, .int p4), (5, .int p5)] := hl
                                  refine lv_goto (tgt := 158) hx hb dX12_pour_216 rfl ?_
                                  exact ih78 H89 locs89 v90 ((z77 + 1)) ls (by omega) ev90i (by omega) (by omega) (npr2) hC89 hS89 hKp89 tmm (lv_sub hl [0, 2, 3, 4, 5, 6, 7, 8] rfl)
                            exact L158 _ H23 locs23 0 0 ls (Nat.lt_succ_self _) (by decide) (by omega) (by omega) (⟨fun _ => by rw [show a5 - (0 : Int) = a5 from by omega]; exact NPr.nil nms, fun _ => NPr.nil nms⟩) hC23 hS23 hKp23 tmm hl
                          · refine lv_iconst (v := 1) hx hb dX12_pour_148 rfl ?_
                            refine lv_goto (tgt := 153) hx hb dX12_pour_149 rfl ?_
                            refine lv_istore hx hb dX12_pour_153 hl (by decide) rfl (fun ls hl => ?_)
                            replace hl : lv_has ls 9 [(6, .int 1), (0, .ref h0), (1, .int p1), (2, .int p2), (3, .int p3), (4, .int p4), (5, .int p5)] := hl
                            refine lv_iconst (v := 0) hx hb dX12_pour_155 rfl ?_
                            refine lv_istore hx hb dX12_pour_156 hl (by decide) rfl (fun ls hl => ?_)
                            replace hl : lv_has ls 9 [(7, .int 0), (6, .int 1), (0, .ref h0), (1, .int p1), (2, .int p2), (3, .int p3), (4, .int p4), (5, .int p5)] := hl
                            have L158 : ∀ (n92 : Nat) (H92 : Heap) (locs92 : List Loc) (v91 : Int32) (z91 : Int) (ls : Array Slot), (a5 - z91).toNat < n92 → v91.toInt = z91 → 0 ≤ z91 → z91 ≤ a5 → ((1 = 1 → NPr (nM na H0) (nM na H92) a1 a2 a3 a4 (a5 - (z91)) a5) ∧ (1 = 0 → NPr (nM na H0) (nM na H92) a1 a2 a3 a4 0 (z91))) → Conf X Γ H92 → va_S (AΓ Γ) H0 H92 locs92 → Kp X Γ [1, 7, 8, 9, 10, 11, 12, 14, 15, 16, 17, 19, 22, 26, 28] H0 H92 → (TMm tm ts H0 H92) → lv_has ls 9 [(7, .int v91), (6, .int 1), (0, .ref h0), (1, .int p1), (2, .int p2), (3, .int p3), (4, .int p4), (5, .int p5)] → W p l e (rmL 1) s m args below meth c H92 locs92 0 0 Qz (F0 m 158 ls []) := by
                              intro n92
                              induction n92 with
                              | zero => intro H92 locs92 v91 z91 ls hm92 ev91 iv92_0 iv92_1 iv92_2 hC92 hS92 hKp92 tmm hl; exact absurd hm92 (Nat.not_lt_zero _)
                              | succ n92 ih92 =>
                                intro H92 locs92 v91 z91 ls hm92 ev91 iv92_0 iv92_1 iv92_2 hC92 hS92 hKp92 tmm hl
                                have npr := iv92_2
                                refine lv_iload hx hb dX12_pour_158 (lv_at hl 0 rfl) ?_
                                refine lv_iload hx hb dX12_pour_160 (lv_at hl 7 rfl) ?_
                                refine q_icmp_ge hx hb (a := z91) (b := a5) ev91 e5 (tgt := 219) dX12_pour_162 rfl (fun c93 => ?_) (fun c93 => ?_)
                                · refine lv_iconst (v := 1) hx hb dX12_pour_219 rfl ?_
                                  have npf : NPr (nM na H0) (nM na H92) a1 a2 a3 a4 0 a5 := by first | (have h := npr.1 rfl; rw [show a5 - z91 = 0 from by omega] at h; exact h) | (have h := npr.2 rfl; rw [show z91 = a5 from by omega] at h; exact h)
                                  have hpost : (0 ≤ a1 ∧ a1 ≤ 3 ∧ 0 ≤ a3 ∧ a3 ≤ 3 ∧ 0 ≤ (sI H0 tm (a1 : Int).toNat).toInt ∧ 0 ≤ (sI H0 tm (a3 : Int).toNat).toInt ∧ (sI H0 ts (a1 : Int).toNat).toInt = (sI H0 ts (a3 : Int).toNat).toInt ∧ 0 ≤ a5 ∧ 0 ≤ a2 ∧ a2 + a5 ≤ (sI H0 tm (a1 : Int).toNat).toInt ∧ 0 ≤ a4 ∧ a4 + a5 ≤ (sI H0 tm (a3 : Int).toNat).toInt ∧ (1 : Int32).toInt = 1 ∧ NPr (nM na H0) (nM na H92) a1 a2 a3 a4 0 a5) ∨ ((a1 < 0 ∨ 3 < a1 ∨ a3 < 0 ∨ 3 < a3 ∨ (sI H0 tm (a1 : Int).toNat).toInt < 0 ∨ (sI H0 tm (a3 : Int).toNat).toInt < 0 ∨ (sI H0 ts (a1 : Int).toNat).toInt ≠ (sI H0 ts (a3 : Int).toNat).toInt ∨ a5 < 0 ∨ a2 < 0 ∨ (sI H0 tm (a1 : Int).toNat).toInt < a2 + a5 ∨ a4 < 0 ∨ (sI H0 tm (a3 : Int).toNat).toInt < a4 + a5) ∧ (1 : Int32).toInt = 0 ∧ NSm (nM na H0) (nM na H92)) := Or.inl ⟨by omega, by omega, by omega, by omega, by omega, by omega, by omega, by omega, by omega, by omega, by omega, by omega, by decide, npf⟩
                                  have c94 : (1 : Int32).toInt = 1 := (by decide)
                                  exact ret 1 H92 locs92 _ _ dX12_pour_220 (Or.inr rfl) ⟨hKp92, hpost⟩ hC92 hS92
                                · refine lv_iload hx hb dX12_pour_165 (lv_at hl 1 rfl) ?_
                                  refine q_if_eq hx hb (a := 1) (by decide) (tgt := 180) dX12_pour_167 rfl (fun c95 => absurd c95 (by omega)) (fun c95 => ?_)
                                  refine lv_iload hx hb dX12_pour_170 (lv_at hl 7 rfl) ?_
                                  refine lv_iconst (v := 1) hx hb dX12_pour_172 rfl ?_
                                  refine lv_isub hx hb dX12_pour_173 (lv_topi (fun v96 ev96 => ?_))
                                  have ev96i : v96.toInt = (a5 - 1) := i_sub ev96 e5 (by decide) (by omega) (by omega)
                                  refine lv_iload hx hb dX12_pour_174 (lv_at hl 0 rfl) ?_
                                  refine lv_isub hx hb dX12_pour_176 (lv_topi (fun v97 ev97 => ?_))
                                  have ev97i : v97.toInt = ((a5 - 1) - z91) := i_sub ev97 ev96i ev91 (by omega) (by omega)
                                  refine lv_goto (tgt := 182) hx hb dX12_pour_177 rfl ?_
                                  refine lv_istore hx hb dX12_pour_182 hl (by decide) rfl (fun ls hl => ?_)
                                  replace hl : lv_has ls 9 [(8, .int v97), (7, .int v91), (6, .int 1), (0, .ref h0), (1, .int p1), (2, .int p2), (3, .int p3), (4, .int p4), (5, .int p5)] := hl
                                  refine lv_aload_n hx hb dX12_pour_184 rfl (lv_at hl 3 rfl) ?_
                                  refine q_getU E hC92 g0 fa_RX12_20 una dX12_pour_185 ?_
                                  refine lv_bipush (v := 60) hx hb dX12_pour_188 rfl ?_
                                  refine lv_iload_n hx hb dX12_pour_190 rfl (lv_at hl 6 rfl) ?_
                                  refine lv_imul hx hb dX12_pour_191 (lv_topi (fun v98 ev98 => ?_))
                                  have ev98i : v98.toInt = (60 * a3) := i_mul ev98 (by decide) e3 (by omega) (by omega)
                                  refine lv_iload hx hb dX12_pour_192 (lv_at hl 7 rfl) ?_
                                  refine lv_iadd hx hb dX12_pour_194 (lv_topi (fun v99 ev99 => ?_))
                                  have ev99i : v99.toInt = ((60 * a3) + a4) := i_add ev99 ev98i e4 (by omega) (by omega)
                                  refine lv_iload hx hb dX12_pour_195 (lv_at hl 0 rfl) ?_
                                  refine lv_iadd hx hb dX12_pour_197 (lv_topi (fun v100 ev100 => ?_))
                                  have ev100i : v100.toInt = (((60 * a3) + a4) + ((a5 - 1) - z91)) := i_add ev100 ev99i ev97i (by omega) (by omega)
                                  refine lv_aload_n hx hb dX12_pour_198 rfl (lv_at hl 3 rfl) ?_
                                  refine q_getU E hC92 g0 fa_RX12_20 una dX12_pour_199 ?_
                                  refine lv_bipush (v := 60) hx hb dX12_pour_202 rfl ?_
                                  refine lv_iload_n hx hb dX12_pour_204 rfl (lv_at hl 4 rfl) ?_
                                  refine lv_imul hx hb dX12_pour_205 (lv_topi (fun v101 ev101 => ?_))
                                  have ev101i : v101.toInt = (60 * a1) := i_mul ev101 (by decide) e1 (by omega) (by omega)
                                  refine lv_iload_n hx hb dX12_pour_206 rfl (lv_at hl 5 rfl) ?_
                                  refine lv_iadd hx hb dX12_pour_207 (lv_topi (fun v102 ev102 => ?_))
                                  have ev102i : v102.toInt = ((60 * a1) + a2) := i_add ev102 ev101i e2 (by omega) (by omega)
                                  refine lv_iload hx hb dX12_pour_208 (lv_at hl 0 rfl) ?_
                                  refine lv_iadd hx hb dX12_pour_210 (lv_topi (fun v103 ev103 => ?_))
                                  have ev103i : v103.toInt = (((60 * a1) + a2) + ((a5 - 1) - z91)) := i_add ev103 ev102i ev97i (by omega) (by omega)
                                  refine q_lald2 E hC92 gna rfl rfl (fun _ => rfl) (a := (((60 * a1) + a2) + ((a5 - 1) - z91))) ev103i (by omega) (by omega) dX12_pour_211 (fun v104 ev104 => ?_)
                                  have hld := ev104
                                  refine q_last2 E hC92 hS92 gna (by decide) rfl rfl (fun _ => rfl) (a := (((60 * a3) + a4) + ((a5 - 1) - z91))) ev100i (by omega) (by omega) dX12_pour_212 (fun H105 locs105 hC105 hS105 U105 => ?_)
                                  have hKp105 := Kp.upA gna rfl (by decide) rfl U105 hKp92
                                  replace tmm : TMm tm ts H0 H105 := TMm.ne tmm U105 (nek gna gtm (by decide)) (nek gna gts (by decide))
                                  have npr2 : (1 = 1 → NPr (nM na H0) (nM na H105) a1 a2 a3 a4 (a5 - (z91 + 1)) a5) ∧ (1 = 0 → NPr (nM na H0) (nM na H105) a1 a2 a3 a4 0 (z91 + 1)) := ⟨fun h6 => nM_pr (npr.1 h6) (by omega) (by omega) (by omega) (by omega) (by omega) (by omega) (by omega) (by omega) (by omega) (by omega) (c := ((a5 - 1) - z91)) hld (by omega) (by omega) (by omega) U105, fun h6 => nM_pr (npr.2 h6) (by omega) (by omega) (by omega) (by omega) (by omega) (by omega) (by omega) (by omega) (by omega) (by omega) (c := ((a5 - 1) - z91)) hld (by omega) (by omega) (by omega) U105⟩
                                  obtain ⟨v106, ev106⟩ : ∃ z, z = v91 + Int32.ofInt 1 := ⟨_, rfl⟩
                                  have ev106i : v106.toInt = (z91 + 1) := i_add ev106 ev91 (by decide) (by omega) (by omega)
                                  refine lv_iinc hx hb dX12_pour_213 hl (k := 1) rfl ev106.symm (by decide) rfl (fun ls hl => ?_)
                                  replace hl : lv_has ls 9 [(7, .int v106), (8, .int v97), (6, .int 1), (0, .ref h0), (1, .int p1), (2, .int p2), (3, .int p3), (4, .int p4), (5, .int p5)] := hl
                                  refine lv_goto (tgt := 158) hx hb dX12_pour_216 rfl ?_
                                  exact ih92 H105 locs105 v106 ((z91 + 1)) ls (by omega) ev106i (by omega) (by omega) (npr2) hC105 hS105 hKp105 tmm (lv_sub hl [0, 2, 3, 4, 5, 6, 7, 8] rfl)
                            exact L158 _ H23 locs23 0 0 ls (Nat.lt_succ_self _) (by decide) (by omega) (by omega) (⟨fun _ => by rw [show a5 - (0 : Int) = a5 from by omega]; exact NPr.nil nms, fun _ => NPr.nil nms⟩) hC23 hS23 hKp23 tmm hl
                        · refine lv_aload_n hx hb dX12_pour_136 rfl (lv_at hl 0 rfl) ?_
                          refine lv_iconst (v := 4) hx hb dX12_pour_137 rfl ?_
                          refine q_goI (q_runV (As := [.int 4]) (rest := []) E hC23 hS23 (m_X12_no l X Γ H23 hC23 h0 g0 4 (a1 := 4) (by decide) ca gca uc) cw_X12_no cl_RX12_84 g0 ⟨rfl, rfl⟩ rfl hl.1 rfl (Nat.zero_le _) (by decide) dX12_pour_138) hS23 (fun v107 H107 locs107 hr107 hC107 hS107 => ?_)
                          obtain ⟨hp107, hr107⟩ := hr107
                          have hKp107 := hKp23.tr (hp107.mono rfl)
                          replace tmm : TMm tm ts H0 H107 := TMm.kp tmm hp107 gtm gts rfl
                          replace nms : NSm (nM na H0) (nM na H107) := nM_kp nms hp107 gna rfl
                          rcases hr107 with ⟨rfl, f107a⟩ | ⟨rfl, -⟩
                          · exact absurd f107a (by decide)
                          · have hpost : (0 ≤ a1 ∧ a1 ≤ 3 ∧ 0 ≤ a3 ∧ a3 ≤ 3 ∧ 0 ≤ (sI H0 tm (a1 : Int).toNat).toInt ∧ 0 ≤ (sI H0 tm (a3 : Int).toNat).toInt ∧ (sI H0 ts (a1 : Int).toNat).toInt = (sI H0 ts (a3 : Int).toNat).toInt ∧ 0 ≤ a5 ∧ 0 ≤ a2 ∧ a2 + a5 ≤ (sI H0 tm (a1 : Int).toNat).toInt ∧ 0 ≤ a4 ∧ a4 + a5 ≤ (sI H0 tm (a3 : Int).toNat).toInt ∧ (0 : Int32).toInt = 1 ∧ NPr (nM na H0) (nM na H107) a1 a2 a3 a4 0 a5) ∨ ((a1 < 0 ∨ 3 < a1 ∨ a3 < 0 ∨ 3 < a3 ∨ (sI H0 tm (a1 : Int).toNat).toInt < 0 ∨ (sI H0 tm (a3 : Int).toNat).toInt < 0 ∨ (sI H0 ts (a1 : Int).toNat).toInt ≠ (sI H0 ts (a3 : Int).toNat).toInt ∨ a5 < 0 ∨ a2 < 0 ∨ (sI H0 tm (a1 : Int).toNat).toInt < a2 + a5 ∨ a4 < 0 ∨ (sI H0 tm (a3 : Int).toNat).toInt < a4 + a5) ∧ (0 : Int32).toInt = 0 ∧ NSm (nM na H0) (nM na H107)) := Or.inr ⟨by omega, by decide, nms⟩
                            have c108 : (0 : Int32).toInt = 0 := (by decide)
                            exact ret 0 H107 locs107 _ _ dX12_pour_141 (Or.inl rfl) ⟨hKp107, hpost⟩ hC107 hS107
                · refine lv_aload_n hx hb dX12_pour_85 rfl (lv_at hl 0 rfl) ?_
                  refine lv_bipush (v := 6) hx hb dX12_pour_86 rfl ?_
                  refine q_goI (q_runV (As := [.int 6]) (rest := []) E hC23 hS23 (m_X12_no l X Γ H23 hC23 h0 g0 6 (a1 := 6) (by decide) ca gca uc) cw_X12_no cl_RX12_84 g0 ⟨rfl, rfl⟩ rfl hl.1 rfl (Nat.zero_le _) (by decide) dX12_pour_88) hS23 (fun v109 H109 locs109 hr109 hC109 hS109 => ?_)
                  obtain ⟨hp109, hr109⟩ := hr109
                  have hKp109 := hKp23.tr (hp109.mono rfl)
                  replace tmm : TMm tm ts H0 H109 := TMm.kp tmm hp109 gtm gts rfl
                  replace nms : NSm (nM na H0) (nM na H109) := nM_kp nms hp109 gna rfl
                  rcases hr109 with ⟨rfl, f109a⟩ | ⟨rfl, -⟩
                  · exact absurd f109a (by decide)
                  · have hpost : (0 ≤ a1 ∧ a1 ≤ 3 ∧ 0 ≤ a3 ∧ a3 ≤ 3 ∧ 0 ≤ (sI H0 tm (a1 : Int).toNat).toInt ∧ 0 ≤ (sI H0 tm (a3 : Int).toNat).toInt ∧ (sI H0 ts (a1 : Int).toNat).toInt = (sI H0 ts (a3 : Int).toNat).toInt ∧ 0 ≤ a5 ∧ 0 ≤ a2 ∧ a2 + a5 ≤ (sI H0 tm (a1 : Int).toNat).toInt ∧ 0 ≤ a4 ∧ a4 + a5 ≤ (sI H0 tm (a3 : Int).toNat).toInt ∧ (0 : Int32).toInt = 1 ∧ NPr (nM na H0) (nM na H109) a1 a2 a3 a4 0 a5) ∨ ((a1 < 0 ∨ 3 < a1 ∨ a3 < 0 ∨ 3 < a3 ∨ (sI H0 tm (a1 : Int).toNat).toInt < 0 ∨ (sI H0 tm (a3 : Int).toNat).toInt < 0 ∨ (sI H0 ts (a1 : Int).toNat).toInt ≠ (sI H0 ts (a3 : Int).toNat).toInt ∨ a5 < 0 ∨ a2 < 0 ∨ (sI H0 tm (a1 : Int).toNat).toInt < a2 + a5 ∨ a4 < 0 ∨ (sI H0 tm (a3 : Int).toNat).toInt < a4 + a5) ∧ (0 : Int32).toInt = 0 ∧ NSm (nM na H0) (nM na H109)) := Or.inr ⟨by omega, by decide, nms⟩
                    have c110 : (0 : Int32).toInt = 0 := (by decide)
                    exact ret 0 H109 locs109 _ _ dX12_pour_91 (Or.inl rfl) ⟨hKp109, hpost⟩ hC109 hS109
              · refine lv_aload_n hx hb dX12_pour_73 rfl (lv_at hl 0 rfl) ?_
                refine lv_bipush (v := 11) hx hb dX12_pour_74 rfl ?_
                refine q_goI (q_runV (As := [.int 11]) (rest := []) E hC23 hS23 (m_X12_no l X Γ H23 hC23 h0 g0 11 (a1 := 11) (by decide) ca gca uc) cw_X12_no cl_RX12_84 g0 ⟨rfl, rfl⟩ rfl hl.1 rfl (Nat.zero_le _) (by decide) dX12_pour_76) hS23 (fun v111 H111 locs111 hr111 hC111 hS111 => ?_)
                obtain ⟨hp111, hr111⟩ := hr111
                have hKp111 := hKp23.tr (hp111.mono rfl)
                replace tmm : TMm tm ts H0 H111 := TMm.kp tmm hp111 gtm gts rfl
                replace nms : NSm (nM na H0) (nM na H111) := nM_kp nms hp111 gna rfl
                rcases hr111 with ⟨rfl, f111a⟩ | ⟨rfl, -⟩
                · exact absurd f111a (by decide)
                · have hpost : (0 ≤ a1 ∧ a1 ≤ 3 ∧ 0 ≤ a3 ∧ a3 ≤ 3 ∧ 0 ≤ (sI H0 tm (a1 : Int).toNat).toInt ∧ 0 ≤ (sI H0 tm (a3 : Int).toNat).toInt ∧ (sI H0 ts (a1 : Int).toNat).toInt = (sI H0 ts (a3 : Int).toNat).toInt ∧ 0 ≤ a5 ∧ 0 ≤ a2 ∧ a2 + a5 ≤ (sI H0 tm (a1 : Int).toNat).toInt ∧ 0 ≤ a4 ∧ a4 + a5 ≤ (sI H0 tm (a3 : Int).toNat).toInt ∧ (0 : Int32).toInt = 1 ∧ NPr (nM na H0) (nM na H111) a1 a2 a3 a4 0 a5) ∨ ((a1 < 0 ∨ 3 < a1 ∨ a3 < 0 ∨ 3 < a3 ∨ (sI H0 tm (a1 : Int).toNat).toInt < 0 ∨ (sI H0 tm (a3 : Int).toNat).toInt < 0 ∨ (sI H0 ts (a1 : Int).toNat).toInt ≠ (sI H0 ts (a3 : Int).toNat).toInt ∨ a5 < 0 ∨ a2 < 0 ∨ (sI H0 tm (a1 : Int).toNat).toInt < a2 + a5 ∨ a4 < 0 ∨ (sI H0 tm (a3 : Int).toNat).toInt < a4 + a5) ∧ (0 : Int32).toInt = 0 ∧ NSm (nM na H0) (nM na H111)) := Or.inr ⟨by omega, by decide, nms⟩
                  have c112 : (0 : Int32).toInt = 0 := (by decide)
                  exact ret 0 H111 locs111 _ _ dX12_pour_79 (Or.inl rfl) ⟨hKp111, hpost⟩ hC111 hS111
            · refine lv_aload_n hx hb dX12_pour_52 rfl (lv_at hl 0 rfl) ?_
              refine lv_iconst (v := 3) hx hb dX12_pour_53 rfl ?_
              refine q_goI (q_runV (As := [.int 3]) (rest := []) E hC23 hS23 (m_X12_no l X Γ H23 hC23 h0 g0 3 (a1 := 3) (by decide) ca gca uc) cw_X12_no cl_RX12_84 g0 ⟨rfl, rfl⟩ rfl hl.1 rfl (Nat.zero_le _) (by decide) dX12_pour_54) hS23 (fun v113 H113 locs113 hr113 hC113 hS113 => ?_)
              obtain ⟨hp113, hr113⟩ := hr113
              have hKp113 := hKp23.tr (hp113.mono rfl)
              replace tmm : TMm tm ts H0 H113 := TMm.kp tmm hp113 gtm gts rfl
              replace nms : NSm (nM na H0) (nM na H113) := nM_kp nms hp113 gna rfl
              rcases hr113 with ⟨rfl, f113a⟩ | ⟨rfl, -⟩
              · exact absurd f113a (by decide)
              · have hpost : (0 ≤ a1 ∧ a1 ≤ 3 ∧ 0 ≤ a3 ∧ a3 ≤ 3 ∧ 0 ≤ (sI H0 tm (a1 : Int).toNat).toInt ∧ 0 ≤ (sI H0 tm (a3 : Int).toNat).toInt ∧ (sI H0 ts (a1 : Int).toNat).toInt = (sI H0 ts (a3 : Int).toNat).toInt ∧ 0 ≤ a5 ∧ 0 ≤ a2 ∧ a2 + a5 ≤ (sI H0 tm (a1 : Int).toNat).toInt ∧ 0 ≤ a4 ∧ a4 + a5 ≤ (sI H0 tm (a3 : Int).toNat).toInt ∧ (0 : Int32).toInt = 1 ∧ NPr (nM na H0) (nM na H113) a1 a2 a3 a4 0 a5) ∨ ((a1 < 0 ∨ 3 < a1 ∨ a3 < 0 ∨ 3 < a3 ∨ (sI H0 tm (a1 : Int).toNat).toInt < 0 ∨ (sI H0 tm (a3 : Int).toNat).toInt < 0 ∨ (sI H0 ts (a1 : Int).toNat).toInt ≠ (sI H0 ts (a3 : Int).toNat).toInt ∨ a5 < 0 ∨ a2 < 0 ∨ (sI H0 tm (a1 : Int).toNat).toInt < a2 + a5 ∨ a4 < 0 ∨ (sI H0 tm (a3 : Int).toNat).toInt < a4 + a5) ∧ (0 : Int32).toInt = 0 ∧ NSm (nM na H0) (nM na H113)) := Or.inr ⟨by omega, by decide, nms⟩
                have c114 : (0 : Int32).toInt = 0 := (by decide)
                exact ret 0 H113 locs113 _ _ dX12_pour_57 (Or.inl rfl) ⟨hKp113, hpost⟩ hC113 hS113
        · refine lv_aload_n hx hb dX12_pour_28 rfl (lv_at hl 0 rfl) ?_
          refine lv_iconst (v := 1) hx hb dX12_pour_29 rfl ?_
          refine q_goI (q_runV (As := [.int 1]) (rest := []) E hC23 hS23 (m_X12_no l X Γ H23 hC23 h0 g0 1 (a1 := 1) (by decide) ca gca uc) cw_X12_no cl_RX12_84 g0 ⟨rfl, rfl⟩ rfl hl.1 rfl (Nat.zero_le _) (by decide) dX12_pour_30) hS23 (fun v115 H115 locs115 hr115 hC115 hS115 => ?_)
          obtain ⟨hp115, hr115⟩ := hr115
          have hKp115 := hKp23.tr (hp115.mono rfl)
          replace tmm : TMm tm ts H0 H115 := TMm.kp tmm hp115 gtm gts rfl
          replace nms : NSm (nM na H0) (nM na H115) := nM_kp nms hp115 gna rfl
          rcases hr115 with ⟨rfl, f115a⟩ | ⟨rfl, -⟩
          · exact absurd f115a (by decide)
          · have hpost : (0 ≤ a1 ∧ a1 ≤ 3 ∧ 0 ≤ a3 ∧ a3 ≤ 3 ∧ 0 ≤ (sI H0 tm (a1 : Int).toNat).toInt ∧ 0 ≤ (sI H0 tm (a3 : Int).toNat).toInt ∧ (sI H0 ts (a1 : Int).toNat).toInt = (sI H0 ts (a3 : Int).toNat).toInt ∧ 0 ≤ a5 ∧ 0 ≤ a2 ∧ a2 + a5 ≤ (sI H0 tm (a1 : Int).toNat).toInt ∧ 0 ≤ a4 ∧ a4 + a5 ≤ (sI H0 tm (a3 : Int).toNat).toInt ∧ (0 : Int32).toInt = 1 ∧ NPr (nM na H0) (nM na H115) a1 a2 a3 a4 0 a5) ∨ ((a1 < 0 ∨ 3 < a1 ∨ a3 < 0 ∨ 3 < a3 ∨ (sI H0 tm (a1 : Int).toNat).toInt < 0 ∨ (sI H0 tm (a3 : Int).toNat).toInt < 0 ∨ (sI H0 ts (a1 : Int).toNat).toInt ≠ (sI H0 ts (a3 : Int).toNat).toInt ∨ a5 < 0 ∨ a2 < 0 ∨ (sI H0 tm (a1 : Int).toNat).toInt < a2 + a5 ∨ a4 < 0 ∨ (sI H0 tm (a3 : Int).toNat).toInt < a4 + a5) ∧ (0 : Int32).toInt = 0 ∧ NSm (nM na H0) (nM na H115)) := Or.inr ⟨by omega, by decide, nms⟩
            have c116 : (0 : Int32).toInt = 0 := (by decide)
            exact ret 0 H115 locs115 _ _ dX12_pour_33 (Or.inl rfl) ⟨hKp115, hpost⟩ hC115 hS115
set_option maxRecDepth 100000 in
set_option maxHeartbeats 4000000 in
theorem m_X12_lay (l : Launch) (X : xW) (Γ : Nat → Option Nat) (H0 : Heap) (hC0 : Conf X Γ H0) (h0 : Nat) (g0 : Γ h0 = some 11) (p1 : Int32) {a1 : Int} (e1 : p1.toInt = a1) (ca : Nat) (gca : Γ ca = some 64) (uc : ∀ a, Γ a = some 64 → a = ca) (r0 : (sI H0 h0 (X.1.2 11 8)).toInt ≤ 896) : Ctr l X Γ yX12_lay cX12_lay 3 none 0 [.ref h0, .int p1] H0 (QV X Γ (fun H1 => Kp X Γ [1, 6, 8, 9, 10, 11, 12, 14, 15, 16, 17, 19, 22, 24, 26, 28] H0 H1 ∧ (((sI H1 h0 (X.1.2 11 8)).toInt = (sI H0 h0 (X.1.2 11 8)).toInt + 4)))) := by
  refine q_enterV (own := "SnowFortsModel") (by decide) rfl (Nat.le_of_ble_eq_true rfl) ?_
  intro p e s m args below meth c ls Qz E hl ret hS0
  have hx := E.1; have hb := E.2.1
  have hKp0 : Kp X Γ [1, 6, 8, 9, 10, 11, 12, 14, 15, 16, 17, 19, 22, 24, 26, 28] H0 H0 := Kp.rf
  have hl : lv_has ls 3 [(0, .ref h0), (1, .int p1)] := hl
  refine lv_iconst (v := 3) hx hb dX12_lay_0 rfl ?_
  refine lv_istore_n hx hb dX12_lay_1 rfl hl (by decide) rfl (fun ls hl => ?_)
  replace hl : lv_has ls 3 [(2, .int 3), (0, .ref h0), (1, .int p1)] := hl
  have L2 : ∀ (n22 : Nat) (H22 : Heap) (locs22 : List Loc) (v21 : Int32) (z21 : Int) (ls : Array Slot), (z21 + 1).toNat < n22 → v21.toInt = z21 → -1 ≤ z21 → z21 ≤ 3 → (sI H22 h0 (X.1.2 11 8)).toInt = (sI H0 h0 (X.1.2 11 8)).toInt + 3 - z21 → Conf X Γ H22 → va_S (AΓ Γ) H0 H22 locs22 → Kp X Γ [1, 6, 8, 9, 10, 11, 12, 14, 15, 16, 17, 19, 22, 24, 26, 28] H0 H22 → lv_has ls 3 [(2, .int v21), (0, .ref h0), (1, .int p1)] → W p l e (rmL 0) s m args below meth c H22 locs22 0 0 Qz (F0 m 2 ls []) := by
    intro n22
    induction n22 with
    | zero => intro H22 locs22 v21 z21 ls hm22 ev21 iv22_0 iv22_1 iv22_2 hC22 hS22 hKp22 hl; exact absurd hm22 (Nat.not_lt_zero _)
    | succ n22 ih22 =>
      intro H22 locs22 v21 z21 ls hm22 ev21 iv22_0 iv22_1 iv22_2 hC22 hS22 hKp22 hl
      refine lv_iload_n hx hb dX12_lay_2 rfl (lv_at hl 0 rfl) ?_
      refine q_if_lt hx hb (a := z21) ev21 (tgt := 38) dX12_lay_3 rfl (fun c23 => ?_) (fun c23 => ?_)
      · exact ret H22 locs22 _ _ dX12_lay_38 ⟨hKp22, by omega⟩ hC22 hS22
      · refine lv_aload_n hx hb dX12_lay_6 rfl (lv_at hl 1 rfl) ?_
        refine q_getR E hC22 g0 fa_RX12_24 dX12_lay_7 (fun q24 eq24 gq24 => ?_)
        refine lv_aload_n hx hb dX12_lay_10 rfl (lv_at hl 1 rfl) ?_
        refine q_getI E hC22 g0 fa_RX12_234 dX12_lay_11 (fun v25 ev25 lv25 uv25 => ?_)
        have m26 : (sI H22 h0 (X.1.2 11 8)).toInt = v25.toInt := (congrArg Int32.toInt ev25).trans rfl
        refine lv_iload_n hx hb dX12_lay_14 rfl (lv_at hl 2 rfl) ?_
        refine lv_bipush (v := 8) hx hb dX12_lay_15 rfl ?_
        refine lv_iload_n hx hb dX12_lay_17 rfl (lv_at hl 0 rfl) ?_
        refine lv_imul hx hb dX12_lay_18 (lv_topi (fun v27 ev27 => ?_))
        have ev27i : v27.toInt = (8 * z21) := i_mul ev27 (by decide) ev21 (by omega) (by omega)
        refine lv_ishr hx hb dX12_lay_19 (lv_topi (fun v28 ev28 => ?_))
        refine lv_i2b hx hb dX12_lay_20 rfl (lv_topi (fun v29 ev29 => ?_))
        refine q_bast E hC22 hS22 gq24 (by decide) rfl rfl (fun _ => rfl) (i_in (a := v25.toInt) rfl (by omega) (by omega)) dX12_lay_21 (fun H30 locs30 hC30 hS30 U30 => ?_)
        have hKp30 := Kp.upA gq24 rfl (by decide) rfl U30 hKp22
        have m31 : (sI H30 h0 (X.1.2 11 8)).toInt = (sI H22 h0 (X.1.2 11 8)).toInt := congrArg Int32.toInt (up_nI U30 (ne_k g0 gq24 (by decide)))
        refine lv_aload_n hx hb dX12_lay_22 rfl (lv_at hl 1 rfl) ?_
        refine lv_dup hx hb dX12_lay_23 rfl ?_
        have e33 := (up_nI U30 (ne_k g0 gq24 (by decide))).trans ev25
        refine q_getI E hC30 g0 fa_RX12_234 dX12_lay_24 (fun v32 ev32 lv32 uv32 => ?_)
        have qv32 := e33.symm.trans ev32; subst qv32
        have m34 : (sI H30 h0 (X.1.2 11 8)).toInt = v25.toInt := (congrArg Int32.toInt ev32).trans rfl
        refine lv_iconst (v := 1) hx hb dX12_lay_27 rfl ?_
        refine lv_iadd hx hb dX12_lay_28 (lv_topi (fun v35 ev35 => ?_))
        have ev35i : v35.toInt = (v25.toInt + 1) := i_add ev35 rfl (by decide) (by omega) (by omega)
        refine q_put E hC30 hS30 g0 fp_RX12_234 (tv_I ev35i (by omega) (by omega)) rfl rfl dX12_lay_29 (fun H36 locs36 hC36 hS36 U36 => ?_)
        have hKp36 := Kp.upO E g0 fp_RX12_234 rfl U36 hKp30
        have e37 := up_I U36
        have m38 : (sI H36 h0 (X.1.2 11 8)).toInt = (v25.toInt + 1) := (congrArg Int32.toInt e37).trans ev35i
        obtain ⟨v39, ev39⟩ : ∃ z, z = v21 + Int32.ofInt (-1) := ⟨_, rfl⟩
        have ev39i : v39.toInt = (z21 + (-1)) := i_add ev39 ev21 (by decide) (by omega) (by omega)
        refine lv_iinc hx hb dX12_lay_32 hl (k := 0) rfl ev39.symm (by decide) rfl (fun ls hl => ?_)
        replace hl : lv_has ls 3 [(2, .int v39), (0, .ref h0), (1, .int p1)] := hl
        refine lv_goto (tgt := 2) hx hb dX12_lay_35 rfl ?_
        exact ih22 H36 locs36 v39 ((z21 + (-1))) ls (by omega) ev39i (by omega) (by omega) (by omega) hC36 hS36 hKp36 hl
  exact L2 _ H0 [] 3 3 ls (Nat.lt_succ_self _) (by decide) (by omega) (by omega) (by omega) hC0 hS0 hKp0 hl
set_option maxRecDepth 100000 in
set_option maxHeartbeats 4000000 in
theorem m_X12_feed (l : Launch) (X : xW) (Γ : Nat → Option Nat) (H0 : Heap) (hC0 : Conf X Γ H0) (h0 : Nat) (g0 : Γ h0 = some 11) (p1 : Int32) {a1 : Int} (e1 : p1.toInt = a1) (p2 : Int32) {a2 : Int} (e2 : p2.toInt = a2) (p3 : Int32) {a3 : Int} (e3 : p3.toInt = a3) (p4 : Int32) {a4 : Int} (e4 : p4.toInt = a4) (p5 : Int32) {a5 : Int} (e5 : p5.toInt = a5) (ca : Nat) (gca : Γ ca = some 64) (uc : ∀ a, Γ a = some 64 → a = ca) : Ctr l X Γ yX12_feed cX12_feed 6 (some .int) 1 [.ref h0, .int p1, .int p2, .int p3, .int p4, .int p5] H0 (QI X Γ (fun v H1 => Kp X Γ [1, 6, 8, 9, 10, 11, 12, 14, 15, 16, 17, 19, 22, 24, 26, 28] H0 H1 ∧ (((880 < (sI H0 h0 (X.1.2 11 8)).toInt ∧ v.toInt = -1 ∧ (sI H1 h0 (X.1.2 11 8)).toInt = (sI H0 h0 (X.1.2 11 8)).toInt) ∨ ((sI H0 h0 (X.1.2 11 8)).toInt ≤ 880 ∧ v.toInt = (sI H0 h0 (X.1.2 11 8)).toInt + 20 ∧ (sI H1 h0 (X.1.2 11 8)).toInt = (sI H0 h0 (X.1.2 11 8)).toInt + 20))))) := by
  refine q_enterI (own := "SnowFortsModel") (by decide) rfl (Nat.le_of_ble_eq_true rfl) ?_
  intro p e s m args below meth c ls Qz E hl ret hS0
  have hx := E.1; have hb := E.2.1
  have hKp0 : Kp X Γ [1, 6, 8, 9, 10, 11, 12, 14, 15, 16, 17, 19, 22, 24, 26, 28] H0 H0 := Kp.rf
  have hl : lv_has ls 6 [(0, .ref h0), (1, .int p1), (2, .int p2), (3, .int p3), (4, .int p4), (5, .int p5)] := hl
  have hz1 := f_bd hC0 g0 (ci := 11) (k := 8) rfl rfl
  refine lv_aload_n hx hb dX12_feed_0 rfl (lv_at hl 0 rfl) ?_
  refine lv_iconst (v := 0) hx hb dX12_feed_1 rfl ?_
  refine q_put E hC0 hS0 g0 fp_RX12_69 tv_F rfl rfl dX12_feed_2 (fun H21 locs21 hC21 hS21 U21 => ?_)
  have hKp21 := Kp.upO E g0 fp_RX12_69 rfl U21 hKp0
  have e22 := up_I U21
  have m23 : (sI H21 h0 (X.1.2 11 8)).toInt = (sI H0 h0 (X.1.2 11 8)).toInt := congrArg Int32.toInt (up_nI U21 (ne_f E 11 8 1 rfl (by decide) (by decide) (by decide)))
  refine lv_aload_n hx hb dX12_feed_5 rfl (lv_at hl 0 rfl) ?_
  refine q_getI E hC21 g0 fa_RX12_234 dX12_feed_6 (fun v24 ev24 lv24 uv24 => ?_)
  have m25 : (sI H21 h0 (X.1.2 11 8)).toInt = v24.toInt := (congrArg Int32.toInt ev24).trans rfl
  refine lv_bipush (v := 20) hx hb dX12_feed_9 rfl ?_
  refine lv_iadd hx hb dX12_feed_11 (lv_topi (fun v26 ev26 => ?_))
  have ev26i : v26.toInt = (v24.toInt + 20) := i_add ev26 rfl (by decide) (by omega) (by omega)
  refine lv_sipush (v := 900) hx hb dX12_feed_12 rfl ?_
  refine q_icmp_le hx hb (a := (v24.toInt + 20)) (b := 900) ev26i (by decide) (tgt := 20) dX12_feed_15 rfl (fun c27 => ?_) (fun c27 => ?_)
  · refine lv_aload_n hx hb dX12_feed_20 rfl (lv_at hl 0 rfl) ?_
    refine lv_iload_n hx hb dX12_feed_21 rfl (lv_at hl 1 rfl) ?_
    refine q_goV (q_runV (As := [.int p1]) (rest := []) E hC21 hS21 (m_X12_lay l X Γ H21 hC21 h0 g0 p1 (a1 := a1) e1 ca gca uc (by omega)) cw_X12_lay cl_RX12_237 g0 ⟨rfl, rfl⟩ rfl hl.1 rfl (Nat.zero_le _) (by decide) dX12_feed_22) hS21 (fun H28 locs28 hr28 hC28 hS28 => ?_)
    obtain ⟨hp28, hr28⟩ := hr28
    have hKp28 := hKp21.tr (hp28.mono rfl)
    have f28_0 := hr28
    refine lv_aload_n hx hb dX12_feed_25 rfl (lv_at hl 0 rfl) ?_
    refine lv_iload_n hx hb dX12_feed_26 rfl (lv_at hl 2 rfl) ?_
    refine q_goV (q_runV (As := [.int p2]) (rest := []) E hC28 hS28 (m_X12_lay l X Γ H28 hC28 h0 g0 p2 (a1 := a2) e2 ca gca uc (by omega)) cw_X12_lay cl_RX12_237 g0 ⟨rfl, rfl⟩ rfl hl.1 rfl (Nat.zero_le _) (by decide) dX12_feed_27) hS28 (fun H29 locs29 hr29 hC29 hS29 => ?_)
    obtain ⟨hp29, hr29⟩ := hr29
    have hKp29 := hKp28.tr (hp29.mono rfl)
    have f29_0 := hr29
    refine lv_aload_n hx hb dX12_feed_30 rfl (lv_at hl 0 rfl) ?_
    refine lv_iload_n hx hb dX12_feed_31 rfl (lv_at hl 3 rfl) ?_
    refine q_goV (q_runV (As := [.int p3]) (rest := []) E hC29 hS29 (m_X12_lay l X Γ H29 hC29 h0 g0 p3 (a1 := a3) e3 ca gca uc (by omega)) cw_X12_lay cl_RX12_237 g0 ⟨rfl, rfl⟩ rfl hl.1 rfl (Nat.zero_le _) (by decide) dX12_feed_32) hS29 (fun H30 locs30 hr30 hC30 hS30 => ?_)
    obtain ⟨hp30, hr30⟩ := hr30
    have hKp30 := hKp29.tr (hp30.mono rfl)
    have f30_0 := hr30
    refine lv_aload_n hx hb dX12_feed_35 rfl (lv_at hl 0 rfl) ?_
    refine lv_iload hx hb dX12_feed_36 (lv_at hl 4 rfl) ?_
    refine q_goV (q_runV (As := [.int p4]) (rest := []) E hC30 hS30 (m_X12_lay l X Γ H30 hC30 h0 g0 p4 (a1 := a4) e4 ca gca uc (by omega)) cw_X12_lay cl_RX12_237 g0 ⟨rfl, rfl⟩ rfl hl.1 rfl (Nat.zero_le _) (by decide) dX12_feed_38) hS30 (fun H31 locs31 hr31 hC31 hS31 => ?_)
    obtain ⟨hp31, hr31⟩ := hr31
    have hKp31 := hKp30.tr (hp31.mono rfl)
    have f31_0 := hr31
    refine lv_aload_n hx hb dX12_feed_41 rfl (lv_at hl 0 rfl) ?_
    refine lv_iload hx hb dX12_feed_42 (lv_at hl 5 rfl) ?_
    refine q_goV (q_runV (As := [.int p5]) (rest := []) E hC31 hS31 (m_X12_lay l X Γ H31 hC31 h0 g0 p5 (a1 := a5) e5 ca gca uc (by omega)) cw_X12_lay cl_RX12_237 g0 ⟨rfl, rfl⟩ rfl hl.1 rfl (Nat.zero_le _) (by decide) dX12_feed_44) hS31 (fun H32 locs32 hr32 hC32 hS32 => ?_)
    obtain ⟨hp32, hr32⟩ := hr32
    have hKp32 := hKp31.tr (hp32.mono rfl)
    have f32_0 := hr32
    refine lv_aload_n hx hb dX12_feed_47 rfl (lv_at hl 0 rfl) ?_
    refine q_getI E hC32 g0 fa_RX12_234 dX12_feed_48 (fun v33 ev33 lv33 uv33 => ?_)
    have m34 : (sI H32 h0 (X.1.2 11 8)).toInt = v33.toInt := (congrArg Int32.toInt ev33).trans rfl
    have c35 : v33.toInt = v33.toInt := rfl
    exact ret v33 H32 locs32 _ _ dX12_feed_51 ⟨hKp32, by omega⟩ hC32 hS32
  · refine lv_iconst (v := (-1)) hx hb dX12_feed_18 rfl ?_
    have c36 : ((-1) : Int32).toInt = (-1) := (by decide)
    exact ret (-1) H21 locs21 _ _ dX12_feed_19 ⟨hKp21, by omega⟩ hC21 hS21
set_option maxRecDepth 100000 in
set_option maxHeartbeats 4000000 in
theorem m_X12_fault (l : Launch) (X : xW) (Γ : Nat → Option Nat) (H0 : Heap) (hC0 : Conf X Γ H0) (h0 : Nat) (g0 : Γ h0 = some 11) (p1 : Int32) {a1 : Int} (e1 : p1.toInt = a1) (ca : Nat) (gca : Γ ca = some 64) (uc : ∀ a, Γ a = some 64 → a = ca) : Ctr l X Γ yX12_fault cX12_fault 2 (some .int) 0 [.ref h0, .int p1] H0 (QI X Γ (fun v H1 => Kp X Γ [1, 6, 7, 8, 9, 10, 11, 12, 14, 15, 16, 17, 19, 22, 24, 26, 28] H0 H1 ∧ (True))) := by
  refine q_enterI (own := "SnowFortsModel") (by decide) rfl (Nat.le_of_ble_eq_true rfl) ?_
  intro p e s m args below meth c ls Qz E hl ret hS0
  have hx := E.1; have hb := E.2.1
  have hKp0 : Kp X Γ [1, 6, 7, 8, 9, 10, 11, 12, 14, 15, 16, 17, 19, 22, 24, 26, 28] H0 H0 := Kp.rf
  have hl : lv_has ls 2 [(0, .ref h0), (1, .int p1)] := hl
  refine lv_aload_n hx hb dX12_fault_0 rfl (lv_at hl 0 rfl) ?_
  refine lv_iconst (v := 0) hx hb dX12_fault_1 rfl ?_
  refine q_put E hC0 hS0 g0 fp_RX12_69 tv_F rfl rfl dX12_fault_2 (fun H21 locs21 hC21 hS21 U21 => ?_)
  have hKp21 := Kp.upO E g0 fp_RX12_69 rfl U21 hKp0
  have e22 := up_I U21
  refine lv_iload_n hx hb dX12_fault_5 rfl (lv_at hl 1 rfl) ?_
  refine q_if_ne hx hb (a := a1) e1 (tgt := 16) dX12_fault_6 rfl (fun c23 => ?_) (fun c23 => ?_)
  · refine lv_iload_n hx hb dX12_fault_16 rfl (lv_at hl 1 rfl) ?_
    refine lv_iconst (v := 1) hx hb dX12_fault_17 rfl ?_
    refine q_icmp_ne hx hb (a := a1) (b := 1) e1 (by decide) (tgt := 28) dX12_fault_18 rfl (fun c24 => ?_) (fun c24 => ?_)
    · refine lv_iconst (v := (-1)) hx hb dX12_fault_28 rfl ?_
      exact ret (-1) H21 locs21 _ _ dX12_fault_29 ⟨hKp21, trivial⟩ hC21 hS21
    · refine lv_aload_n hx hb dX12_fault_21 rfl (lv_at hl 0 rfl) ?_
      refine q_getI E hC21 g0 fa_RX12_32 dX12_fault_22 (fun v25 ev25 _ _ => ?_)
      refine lv_goto (tgt := 29) hx hb dX12_fault_25 rfl ?_
      exact ret v25 H21 locs21 _ _ dX12_fault_29 ⟨hKp21, trivial⟩ hC21 hS21
  · refine lv_aload_n hx hb dX12_fault_9 rfl (lv_at hl 0 rfl) ?_
    refine q_getI E hC21 g0 fa_RX12_28 dX12_fault_10 (fun v26 ev26 _ _ => ?_)
    refine lv_goto (tgt := 29) hx hb dX12_fault_13 rfl ?_
    exact ret v26 H21 locs21 _ _ dX12_fault_29 ⟨hKp21, trivial⟩ hC21 hS21
set_option maxRecDepth 100000 in
set_option maxHeartbeats 4000000 in
theorem m_X12_look2 (l : Launch) (X : xW) (Γ : Nat → Option Nat) (H0 : Heap) (hC0 : Conf X Γ H0) (h0 : Nat) (g0 : Γ h0 = some 11) (p1 : Int32) {a1 : Int} (e1 : p1.toInt = a1) (ca : Nat) (gca : Γ ca = some 64) (uc : ∀ a, Γ a = some 64 → a = ca) (r0 : 0 ≤ a1) : Ctr l X Γ yX12_look2 cX12_look2 2 (some .int) 0 [.ref h0, .int p1] H0 (QI X Γ (fun v H1 => H1 = H0 ∧ ((v.toInt = 0 ∨ a1 < 900)))) := by
  refine q_enterI (own := "SnowFortsModel") (by decide) rfl (Nat.le_of_ble_eq_true rfl) ?_
  intro p e s m args below meth c ls Qz E hl ret hS0
  have hx := E.1; have hb := E.2.1
  have hl : lv_has ls 2 [(0, .ref h0), (1, .int p1)] := hl
  refine lv_iload_n hx hb dX12_look2_0 rfl (lv_at hl 1 rfl) ?_
  refine lv_aload_n hx hb dX12_look2_1 rfl (lv_at hl 0 rfl) ?_
  refine q_getI E hC0 g0 fa_RX12_108 dX12_look2_2 (fun v21 ev21 lv21 uv21 => ?_)
  refine q_icmp_ge hx hb (a := a1) (b := v21.toInt) e1 rfl (tgt := 21) dX12_look2_5 rfl (fun c22 => ?_) (fun c22 => ?_)
  · refine lv_iconst (v := 0) hx hb dX12_look2_21 rfl ?_
    have c23 : (0 : Int32).toInt = 0 := (by decide)
    exact ret 0 H0 [] _ _ dX12_look2_22 ⟨rfl, by omega⟩ hC0 hS0
  · refine lv_aload_n hx hb dX12_look2_8 rfl (lv_at hl 0 rfl) ?_
    refine q_getR E hC0 g0 fa_RX12_24 dX12_look2_9 (fun q24 eq24 gq24 => ?_)
    refine lv_iload_n hx hb dX12_look2_12 rfl (lv_at hl 1 rfl) ?_
    refine q_bald E hC0 gq24 rfl rfl (fun _ h => h) (i_in (a := a1) e1 (by omega) (by omega)) dX12_look2_13 (fun v25 ev25 _ _ => ?_)
    refine lv_sipush (v := 255) hx hb dX12_look2_14 rfl ?_
    refine lv_iand hx hb dX12_look2_17 (lv_topi (fun v26 ev26 => ?_))
    refine lv_goto (tgt := 22) hx hb dX12_look2_18 rfl ?_
    have c27 : v26.toInt = v26.toInt := rfl
    exact ret v26 H0 [] _ _ dX12_look2_22 ⟨rfl, by omega⟩ hC0 hS0
set_option maxRecDepth 100000 in
set_option maxHeartbeats 4000000 in
theorem m_X12_isLetter (l : Launch) (X : xW) (Γ : Nat → Option Nat) (H0 : Heap) (hC0 : Conf X Γ H0) (p0 : Int32) {a0 : Int} (e0 : p0.toInt = a0) : Ctr l X Γ yX12_isLetter cX12_isLetter 1 (some .boolean) 0 [.int p0] H0 (QI X Γ (fun v H1 => H1 = H0 ∧ ((v = 1 ∧ (97 ≤ a0)) ∨ (v = 0 ∧ (True))))) := by
  refine q_enterZ (own := "SnowFortsModel") (by decide) rfl (Nat.le_of_ble_eq_true rfl) ?_
  intro p e s m args below meth c ls Qz E hl ret hS0
  have hx := E.1; have hb := E.2.1
  have hl : lv_has ls 1 [(0, .int p0)] := hl
  refine lv_iload_n hx hb dX12_isLetter_0 rfl (lv_at hl 0 rfl) ?_
  refine lv_bipush (v := 97) hx hb dX12_isLetter_1 rfl ?_
  refine q_icmp_lt hx hb (a := a0) (b := 97) e0 (by decide) (tgt := 16) dX12_isLetter_3 rfl (fun c21 => ?_) (fun c21 => ?_)
  · refine lv_iconst (v := 0) hx hb dX12_isLetter_16 rfl ?_
    exact ret 0 H0 [] _ _ dX12_isLetter_17 (Or.inl rfl) ⟨rfl, Or.inr ⟨rfl, trivial⟩⟩ hC0 hS0
  · refine lv_iload_n hx hb dX12_isLetter_6 rfl (lv_at hl 0 rfl) ?_
    refine lv_bipush (v := 122) hx hb dX12_isLetter_7 rfl ?_
    refine q_icmp_gt hx hb (a := a0) (b := 122) e0 (by decide) (tgt := 16) dX12_isLetter_9 rfl (fun c22 => ?_) (fun c22 => ?_)
    · refine lv_iconst (v := 0) hx hb dX12_isLetter_16 rfl ?_
      exact ret 0 H0 [] _ _ dX12_isLetter_17 (Or.inl rfl) ⟨rfl, Or.inr ⟨rfl, trivial⟩⟩ hC0 hS0
    · refine lv_iconst (v := 1) hx hb dX12_isLetter_12 rfl ?_
      refine lv_goto (tgt := 17) hx hb dX12_isLetter_13 rfl ?_
      exact ret 1 H0 [] _ _ dX12_isLetter_17 (Or.inr rfl) ⟨rfl, Or.inl ⟨rfl, by omega⟩⟩ hC0 hS0
