set_option maxRecDepth 100000 in
set_option maxHeartbeats 4000000 in
theorem m_X11_init (l : Launch) (X : xW) (Γ : Nat → Option Nat) (H0 : Heap) (n0 : Nat) (hC0 : Conf X Γ H0) (hW0 : NwG Γ n0 H0) (hn0 : n0 ≤ H0.size) (h0 : Nat) (g0 : Γ h0 = some 200)  (v2 : NoK 2 Γ) : CtrN l X Γ n0 yX11_init cX11_init 1 2 130 8520 [.ref h0] H0 h0 0 (fun H1 Γ1 => KN Γ Γ1 ∧ Ol h0 H0 H1 ∧ (∃ ra, OneK 2 Γ1 ra ∧ sI H1 ra (X.1.2 4 1) = 0) ∧ ∃ wk, sv H1 h0 (X.1.2 10 12) = some (.ref wk) ∧ sI H1 wk (X.1.2 7 4) = 0) := by
  refine q_enterN (own := "SnowForts") (by decide) rfl rfl (Nat.le_of_ble_eq_true rfl) hW0.2 ?_
  intro p e s m args below meth c ls Qz E hAO hin hl ret hS
  have hx := E.1; have hb := E.2.1; have hC := hC0; have hW := hW0
  have hl : lv_has ls 1 [(0, .ref h0)] := hl
  have hLf : Lf h0 Γ Γ := Lf.rf; have hKN : KN Γ Γ := KN.rf; have hI : I12 Γ Γ := I12.rf
  have hlt0 : h0 < H0.size := nw_lt hW0 g0 (by decide); have hz : H0.size ≤ H0.size := Nat.le_refl _
  have hKb : KNb h0 2 Γ Γ := KNb.rf; have u2 := v2
  have hOl : Ol h0 H0 H0 := Ol.rf
  refine lv_aload_n hx hb dX11_init_0 rfl (lv_at hl 0 rfl) ?_
  refine W.objInit hx hb E.2.2.2.1 (E.2.2.2.2.1 _ w_26) (E.2.2.2.2.1 _ w_27) (E.2.2.2.2.1 _ w_28) rfl (hl.1.trans E.2.2.1.symm) rfl dX11_init_1 (by decide) (Nat.le_trans (Nat.add_le_add_right (lv_room (Nat.zero_le _)) 12) (by decide)) ?_
  refine lv_aload_n hx hb dX11_init_4 rfl (lv_at hl 0 rfl) ?_
  refine lv_iconst (v := 4) hx hb dX11_init_5 rfl ?_
  refine q_newR E hC hS hW (Nat.le_trans hn0 hz) (r := 900) (t := 4) (N := 4) (C := "SnowForts$Tray") rfl rfl rfl (fun j => by rw [if_neg (Nat.not_lt_zero j)]; rfl) w_29 hAO.1 (by decide) (by decide) (by decide) (by decide) (by decide) (by decide) dX11_init_6 (fun q21 H21 Γ21 zq zs ho gq21 hL hK E hC hS hW => ?_)
  replace hx := E.1; replace hb := E.2.1
  replace g0 := hL _ _ (by decide) g0
  replace hLf := hLf.al hL; replace hKN := hKN.al hK (by decide); replace hI := hI.al hL hK (by decide)
  replace u2 := u2.al hK (by decide)
  replace hOl := hOl.al ho hz
  replace hzq21 : H0.size ≤ q21 := by rw [zq]; exact hz
  replace hz : H0.size ≤ H21.size := by rw [zs]; exact Nat.le_succ_of_le hz
  clear ho hL hK zs zq
  refine lv_dup hx hb dX11_init_9 rfl ?_
  refine lv_iconst (v := 0) hx hb dX11_init_10 rfl ?_
  refine q_newO E hC hS hW (Nat.le_trans hn0 hz) no_RX11_7 (by decide) (by decide) dX11_init_11 (fun q22 H22 Γ22 zq zs ho hzz gq22 hL hK E hC hS hW => ?_)
  replace hx := E.1; replace hb := E.2.1
  replace g0 := hL _ _ (by decide) g0
  replace gq21 := hL _ _ (by decide) gq21
  replace hLf := hLf.al hL; replace hKN := hKN.al hK (by decide); replace hI := hI.al hL hK (by decide)
  replace u2 := u2.al hK (by decide)
  replace hOl := hOl.al ho hz
  replace hzq22 : H0.size ≤ q22 := by rw [zq]; exact hz
  replace hz : H0.size ≤ H22.size := by rw [zs]; exact Nat.le_succ_of_le hz
  clear ho hL hK zs zq
  refine lv_dup hx hb dX11_init_14 rfl ?_
  refine q_goN (q_runIN (As := []) (rest := [.ref q22, .int 0, .ref q21, .ref q21, .ref h0]) E hAO hS (m_X6_init l X Γ22 H22 n0 hC hW (Nat.le_trans hn0 hz) q22 gq22 ) cw_X6_init cn_RX11_9 rfl rfl hl.1 rfl (show _ ≤ _ from by simp [Value.category]) (by decide) (by decide) (by decide) (by decide) dX11_init_15) E hS hW.2 (fun H23 Γ23 locs23 zq gq hl5 h12 hP hW E hC hS => ?_)
  replace hx := E.1; replace hb := E.2.1
  replace u2 := u2.call hP.2.2 gq (by decide)
  replace hOl := hOl.call hP.2.1 hzq22 hz
  replace g0 := hl5 _ _ (nek g0 gq22 (by decide)) (by decide) g0
  replace gq21 := hl5 _ _ (nek gq21 gq22 (by decide)) (by decide) gq21
  replace hLf := hLf.tr2x hl5 (hW0.1 q22 hzq22) gq22
  replace hz := Nat.le_trans hz zq
  replace hKN := hKN.tr hP.1; replace hI := hI.tr h12
  replace gq22 := gq
  clear zq hl5 h12 hP
  refine q_aastN E hC hS hW (i := 0) (t := 4) (C := "SnowForts$Tray") gq21 gq22 an_900 rfl rfl rfl ⟨by decide, by decide⟩ (vp_in_iff.mpr ⟨by decide, by decide⟩) dX11_init_18 (fun H24 locs24 Γ24 zs ho5 U24 gz hl5 hk5 hE5 E hC hS hW => ?_)
  replace hx := E.1; replace hb := E.2.1
  replace hI := hI.put hl5 hk5 gq21 (by decide)
  replace hOl := hOl.fr ho5 hzq21
  replace u2 := u2.eq hE5 gz (by decide)
  replace g0 := hl5 _ _ (nek g0 gq21 (by decide)) (by decide) g0
  replace gq22 := hl5 _ _ (nek gq22 gq21 (by decide)) (by decide) gq22
  replace hLf := hLf.tr2x hl5 (hW0.1 q21 hzq21) gq21
  replace hKN := hKN.tr hk5
  replace gq21 := gz
  replace hz : H0.size ≤ H24.size := by rw [zs]; exact hz
  clear zs ho5 hl5 hk5 hE5
  refine lv_dup hx hb dX11_init_19 rfl ?_
  refine lv_iconst (v := 1) hx hb dX11_init_20 rfl ?_
  refine q_newO E hC hS hW (Nat.le_trans hn0 hz) no_RX11_7 (by decide) (by decide) dX11_init_21 (fun q25 H25 Γ25 zq zs ho hzz gq25 hL hK E hC hS hW => ?_)
  replace hx := E.1; replace hb := E.2.1
  replace g0 := hL _ _ (by decide) g0
  replace gq21 := hL _ _ (by decide) gq21
  replace gq22 := hL _ _ (by decide) gq22
  replace hLf := hLf.al hL; replace hKN := hKN.al hK (by decide); replace hI := hI.al hL hK (by decide)
  replace u2 := u2.al hK (by decide)
  replace hOl := hOl.al ho hz
  replace hzq25 : H0.size ≤ q25 := by rw [zq]; exact hz
  replace hz : H0.size ≤ H25.size := by rw [zs]; exact Nat.le_succ_of_le hz
  clear ho hL hK zs zq
  refine lv_dup hx hb dX11_init_24 rfl ?_
  refine q_goN (q_runIN (As := []) (rest := [.ref q25, .int 1, .ref q21, .ref q21, .ref h0]) E hAO hS (m_X6_init l X Γ25 H25 n0 hC hW (Nat.le_trans hn0 hz) q25 gq25 ) cw_X6_init cn_RX11_9 rfl rfl hl.1 rfl (show _ ≤ _ from by simp [Value.category]) (by decide) (by decide) (by decide) (by decide) dX11_init_25) E hS hW.2 (fun H26 Γ26 locs26 zq gq hl5 h12 hP hW E hC hS => ?_)
  replace hx := E.1; replace hb := E.2.1
  replace u2 := u2.call hP.2.2 gq (by decide)
  replace hOl := hOl.call hP.2.1 hzq25 hz
  replace g0 := hl5 _ _ (nek g0 gq25 (by decide)) (by decide) g0
  replace gq21 := hl5 _ _ (nek gq21 gq25 (by decide)) (by decide) gq21
  replace gq22 := hl5 _ _ (nek gq22 gq25 (by decide)) (by decide) gq22
  replace hLf := hLf.tr2x hl5 (hW0.1 q25 hzq25) gq25
  replace hz := Nat.le_trans hz zq
  replace hKN := hKN.tr hP.1; replace hI := hI.tr h12
  replace gq25 := gq
  clear zq hl5 h12 hP
  refine q_aastN E hC hS hW (i := 1) (t := 4) (C := "SnowForts$Tray") gq21 gq25 an_901 rfl rfl rfl ⟨by decide, by decide⟩ (vp_in_iff.mpr ⟨by decide, by decide⟩) dX11_init_28 (fun H27 locs27 Γ27 zs ho5 U27 gz hl5 hk5 hE5 E hC hS hW => ?_)
  replace hx := E.1; replace hb := E.2.1
  replace hI := hI.put hl5 hk5 gq21 (by decide)
  replace hOl := hOl.fr ho5 hzq21
  replace u2 := u2.eq hE5 gz (by decide)
  replace g0 := hl5 _ _ (nek g0 gq21 (by decide)) (by decide) g0
  replace gq22 := hl5 _ _ (nek gq22 gq21 (by decide)) (by decide) gq22
  replace gq25 := hl5 _ _ (nek gq25 gq21 (by decide)) (by decide) gq25
  replace hLf := hLf.tr2x hl5 (hW0.1 q21 hzq21) gq21
  replace hKN := hKN.tr hk5
  replace gq21 := gz
  replace hz : H0.size ≤ H27.size := by rw [zs]; exact hz
  clear zs ho5 hl5 hk5 hE5
  refine lv_dup hx hb dX11_init_29 rfl ?_
  refine lv_iconst (v := 2) hx hb dX11_init_30 rfl ?_
  refine q_newO E hC hS hW (Nat.le_trans hn0 hz) no_RX11_7 (by decide) (by decide) dX11_init_31 (fun q28 H28 Γ28 zq zs ho hzz gq28 hL hK E hC hS hW => ?_)
  replace hx := E.1; replace hb := E.2.1
  replace g0 := hL _ _ (by decide) g0
  replace gq21 := hL _ _ (by decide) gq21
  replace gq22 := hL _ _ (by decide) gq22
  replace gq25 := hL _ _ (by decide) gq25
  replace hLf := hLf.al hL; replace hKN := hKN.al hK (by decide); replace hI := hI.al hL hK (by decide)
  replace u2 := u2.al hK (by decide)
  replace hOl := hOl.al ho hz
  replace hzq28 : H0.size ≤ q28 := by rw [zq]; exact hz
  replace hz : H0.size ≤ H28.size := by rw [zs]; exact Nat.le_succ_of_le hz
  clear ho hL hK zs zq
  refine lv_dup hx hb dX11_init_34 rfl ?_
  refine q_goN (q_runIN (As := []) (rest := [.ref q28, .int 2, .ref q21, .ref q21, .ref h0]) E hAO hS (m_X6_init l X Γ28 H28 n0 hC hW (Nat.le_trans hn0 hz) q28 gq28 ) cw_X6_init cn_RX11_9 rfl rfl hl.1 rfl (show _ ≤ _ from by simp [Value.category]) (by decide) (by decide) (by decide) (by decide) dX11_init_35) E hS hW.2 (fun H29 Γ29 locs29 zq gq hl5 h12 hP hW E hC hS => ?_)
  replace hx := E.1; replace hb := E.2.1
  replace u2 := u2.call hP.2.2 gq (by decide)
  replace hOl := hOl.call hP.2.1 hzq28 hz
  replace g0 := hl5 _ _ (nek g0 gq28 (by decide)) (by decide) g0
  replace gq21 := hl5 _ _ (nek gq21 gq28 (by decide)) (by decide) gq21
  replace gq22 := hl5 _ _ (nek gq22 gq28 (by decide)) (by decide) gq22
  replace gq25 := hl5 _ _ (nek gq25 gq28 (by decide)) (by decide) gq25
  replace hLf := hLf.tr2x hl5 (hW0.1 q28 hzq28) gq28
  replace hz := Nat.le_trans hz zq
  replace hKN := hKN.tr hP.1; replace hI := hI.tr h12
  replace gq28 := gq
  clear zq hl5 h12 hP
  refine q_aastN E hC hS hW (i := 2) (t := 4) (C := "SnowForts$Tray") gq21 gq28 an_902 rfl rfl rfl ⟨by decide, by decide⟩ (vp_in_iff.mpr ⟨by decide, by decide⟩) dX11_init_38 (fun H30 locs30 Γ30 zs ho5 U30 gz hl5 hk5 hE5 E hC hS hW => ?_)
  replace hx := E.1; replace hb := E.2.1
  replace hI := hI.put hl5 hk5 gq21 (by decide)
  replace hOl := hOl.fr ho5 hzq21
  replace u2 := u2.eq hE5 gz (by decide)
  replace g0 := hl5 _ _ (nek g0 gq21 (by decide)) (by decide) g0
  replace gq22 := hl5 _ _ (nek gq22 gq21 (by decide)) (by decide) gq22
  replace gq25 := hl5 _ _ (nek gq25 gq21 (by decide)) (by decide) gq25
  replace gq28 := hl5 _ _ (nek gq28 gq21 (by decide)) (by decide) gq28
  replace hLf := hLf.tr2x hl5 (hW0.1 q21 hzq21) gq21
  replace hKN := hKN.tr hk5
  replace gq21 := gz
  replace hz : H0.size ≤ H30.size := by rw [zs]; exact hz
  clear zs ho5 hl5 hk5 hE5
  refine lv_dup hx hb dX11_init_39 rfl ?_
  refine lv_iconst (v := 3) hx hb dX11_init_40 rfl ?_
  refine q_newO E hC hS hW (Nat.le_trans hn0 hz) no_RX11_7 (by decide) (by decide) dX11_init_41 (fun q31 H31 Γ31 zq zs ho hzz gq31 hL hK E hC hS hW => ?_)
  replace hx := E.1; replace hb := E.2.1
  replace g0 := hL _ _ (by decide) g0
  replace gq21 := hL _ _ (by decide) gq21
  replace gq22 := hL _ _ (by decide) gq22
  replace gq25 := hL _ _ (by decide) gq25
  replace gq28 := hL _ _ (by decide) gq28
  replace hLf := hLf.al hL; replace hKN := hKN.al hK (by decide); replace hI := hI.al hL hK (by decide)
  replace u2 := u2.al hK (by decide)
  replace hOl := hOl.al ho hz
  replace hzq31 : H0.size ≤ q31 := by rw [zq]; exact hz
  replace hz : H0.size ≤ H31.size := by rw [zs]; exact Nat.le_succ_of_le hz
  clear ho hL hK zs zq
  refine lv_dup hx hb dX11_init_44 rfl ?_
  refine q_goN (q_runIN (As := []) (rest := [.ref q31, .int 3, .ref q21, .ref q21, .ref h0]) E hAO hS (m_X6_init l X Γ31 H31 n0 hC hW (Nat.le_trans hn0 hz) q31 gq31 ) cw_X6_init cn_RX11_9 rfl rfl hl.1 rfl (show _ ≤ _ from by simp [Value.category]) (by decide) (by decide) (by decide) (by decide) dX11_init_45) E hS hW.2 (fun H32 Γ32 locs32 zq gq hl5 h12 hP hW E hC hS => ?_)
  replace hx := E.1; replace hb := E.2.1
  replace u2 := u2.call hP.2.2 gq (by decide)
  replace hOl := hOl.call hP.2.1 hzq31 hz
  replace g0 := hl5 _ _ (nek g0 gq31 (by decide)) (by decide) g0
  replace gq21 := hl5 _ _ (nek gq21 gq31 (by decide)) (by decide) gq21
  replace gq22 := hl5 _ _ (nek gq22 gq31 (by decide)) (by decide) gq22
  replace gq25 := hl5 _ _ (nek gq25 gq31 (by decide)) (by decide) gq25
  replace gq28 := hl5 _ _ (nek gq28 gq31 (by decide)) (by decide) gq28
  replace hLf := hLf.tr2x hl5 (hW0.1 q31 hzq31) gq31
  replace hz := Nat.le_trans hz zq
  replace hKN := hKN.tr hP.1; replace hI := hI.tr h12
  replace gq31 := gq
  clear zq hl5 h12 hP
  refine q_aastN E hC hS hW (i := 3) (t := 4) (C := "SnowForts$Tray") gq21 gq31 an_903 rfl rfl rfl ⟨by decide, by decide⟩ (vp_in_iff.mpr ⟨by decide, by decide⟩) dX11_init_48 (fun H33 locs33 Γ33 zs ho5 U33 gz hl5 hk5 hE5 E hC hS hW => ?_)
  replace hx := E.1; replace hb := E.2.1
  replace hI := hI.put hl5 hk5 gq21 (by decide)
  replace hOl := hOl.fr ho5 hzq21
  replace u2 := u2.eq hE5 gz (by decide)
  replace g0 := hl5 _ _ (nek g0 gq21 (by decide)) (by decide) g0
  replace gq22 := hl5 _ _ (nek gq22 gq21 (by decide)) (by decide) gq22
  replace gq25 := hl5 _ _ (nek gq25 gq21 (by decide)) (by decide) gq25
  replace gq28 := hl5 _ _ (nek gq28 gq21 (by decide)) (by decide) gq28
  replace gq31 := hl5 _ _ (nek gq31 gq21 (by decide)) (by decide) gq31
  replace hLf := hLf.tr2x hl5 (hW0.1 q21 hzq21) gq21
  replace hKN := hKN.tr hk5
  replace gq21 := gz
  replace hz : H0.size ≤ H33.size := by rw [zs]; exact hz
  clear zs ho5 hl5 hk5 hE5
  refine q_putN E hin hC hS hW g0 gq21 fn_RX11_10_200 rfl rfl ⟨by decide, by decide⟩ dX11_init_49 (fun H34 locs34 Γ34 zs eo U34 gz hl5 hk5 hE5 E hC hS hW => ?_)
  replace hx := E.1; replace hb := E.2.1
  replace hI := hI.put hl5 hk5 g0 (by decide)
  replace u2 := u2.eq hE5 gz (by decide)
  replace gq21 := hl5 _ _ (nek gq21 g0 (by decide)) (by decide) gq21
  replace gq22 := hl5 _ _ (nek gq22 g0 (by decide)) (by decide) gq22
  replace gq25 := hl5 _ _ (nek gq25 g0 (by decide)) (by decide) gq25
  replace gq28 := hl5 _ _ (nek gq28 g0 (by decide)) (by decide) gq28
  replace gq31 := hl5 _ _ (nek gq31 g0 (by decide)) (by decide) gq31
  replace hOl := hOl.put eo
  replace hLf := hLf.tr hl5; replace hKN := hKN.tr hk5
  replace hz : H0.size ≤ H34.size := by rw [zs]; exact hz
  replace g0 := gz
  clear eo zs hl5 hk5 hE5
  refine lv_aload_n hx hb dX11_init_52 rfl (lv_at hl 0 rfl) ?_
  refine q_newO E hC hS hW (Nat.le_trans hn0 hz) no_RX11_16 (by decide) (by decide) dX11_init_53 (fun q35 H35 Γ35 zq zs ho hzz gq35 hL hK E hC hS hW => ?_)
  replace hx := E.1; replace hb := E.2.1
  replace g0 := hL _ _ (by decide) g0
  replace gq21 := hL _ _ (by decide) gq21
  replace gq22 := hL _ _ (by decide) gq22
  replace gq25 := hL _ _ (by decide) gq25
  replace gq28 := hL _ _ (by decide) gq28
  replace gq31 := hL _ _ (by decide) gq31
  replace hLf := hLf.al hL; replace hKN := hKN.al hK (by decide); replace hI := hI.al hL hK (by decide)
  replace u2 := u2.al hK (by decide)
  replace hOl := hOl.al ho hz
  replace hzq35 : H0.size ≤ q35 := by rw [zq]; exact hz
  replace hz : H0.size ≤ H35.size := by rw [zs]; exact Nat.le_succ_of_le hz
  clear ho hL hK zs zq
  refine lv_dup hx hb dX11_init_56 rfl ?_
  refine q_goN (q_runIN (As := []) (rest := [.ref q35, .ref h0]) E hAO hS (m_X4_init l X Γ35 H35 n0 hC hW (Nat.le_trans hn0 hz) q35 gq35  (sI_z (hzz 1 _ (by decide) rfl) rfl)) cw_X4_init cn_RX11_18 rfl rfl hl.1 rfl (show _ ≤ _ from by simp [Value.category]) (by decide) (by decide) (by decide) (by decide) dX11_init_57) E hS hW.2 (fun H36 Γ36 locs36 zq gq hl5 h12 hP hW E hC hS => ?_)
  replace hx := E.1; replace hb := E.2.1
  replace u2 := u2.new hP.2.2.1 gq; replace fl := hP.2.2.2
  replace hOl := hOl.call hP.2.1 hzq35 hz
  replace g0 := hl5 _ _ (nek g0 gq35 (by decide)) (by decide) g0
  replace gq21 := hl5 _ _ (nek gq21 gq35 (by decide)) (by decide) gq21
  replace gq22 := hl5 _ _ (nek gq22 gq35 (by decide)) (by decide) gq22
  replace gq25 := hl5 _ _ (nek gq25 gq35 (by decide)) (by decide) gq25
  replace gq28 := hl5 _ _ (nek gq28 gq35 (by decide)) (by decide) gq28
  replace gq31 := hl5 _ _ (nek gq31 gq35 (by decide)) (by decide) gq31
  replace hLf := hLf.tr2x hl5 (hW0.1 q35 hzq35) gq35
  replace hz := Nat.le_trans hz zq
  replace hKN := hKN.tr hP.1; replace hI := hI.tr h12
  replace gq35 := gq
  clear zq hl5 h12 hP
  refine q_putN E hin hC hS hW g0 gq35 fn_RX11_19_201 rfl rfl ⟨by decide, by decide⟩ dX11_init_60 (fun H37 locs37 Γ37 zs eo U37 gz hl5 hk5 hE5 E hC hS hW => ?_)
  replace hx := E.1; replace hb := E.2.1
  replace hI := hI.put hl5 hk5 g0 (by decide)
  replace u2 := u2.eq hE5 g0 (by decide) gz (by decide)
  replace fl := (up_nI (a' := q35) (j' := X.1.2 4 1) U37 (fun hh => absurd hh.1 (nek gq35 g0 (by decide)))).trans fl
  replace gq21 := hl5 _ _ (nek gq21 g0 (by decide)) (by decide) gq21
  replace gq22 := hl5 _ _ (nek gq22 g0 (by decide)) (by decide) gq22
  replace gq25 := hl5 _ _ (nek gq25 g0 (by decide)) (by decide) gq25
  replace gq28 := hl5 _ _ (nek gq28 g0 (by decide)) (by decide) gq28
  replace gq31 := hl5 _ _ (nek gq31 g0 (by decide)) (by decide) gq31
  replace gq35 := hl5 _ _ (nek gq35 g0 (by decide)) (by decide) gq35
  replace hOl := hOl.put eo
  replace hLf := hLf.tr hl5; replace hKN := hKN.tr hk5
  replace hz : H0.size ≤ H37.size := by rw [zs]; exact hz
  replace g0 := gz
  clear eo zs hl5 hk5 hE5
  refine lv_aload_n hx hb dX11_init_63 rfl (lv_at hl 0 rfl) ?_
  replace hWb := hW; replace gq350 := gq35
  refine q_newO E hC hS hW (Nat.le_trans hn0 hz) no_RX11_23 (by decide) (by decide) dX11_init_64 (fun q38 H38 Γ38 zq zs ho hzz gq38 hL hK E hC hS hW => ?_)
  replace hx := E.1; replace hb := E.2.1
  replace g0 := hL _ _ (by decide) g0
  replace gq21 := hL _ _ (by decide) gq21
  replace gq22 := hL _ _ (by decide) gq22
  replace gq25 := hL _ _ (by decide) gq25
  replace gq28 := hL _ _ (by decide) gq28
  replace gq31 := hL _ _ (by decide) gq31
  replace gq35 := hL _ _ (by decide) gq35
  replace hLf := hLf.al hL; replace hKN := hKN.al hK (by decide); replace hI := hI.al hL hK (by decide)
  replace u2 := u2.al hL hK (by decide) (by decide)
  replace fl := (sI_al (j := X.1.2 4 1) ho (nw_lt hWb gq350 (by decide))).trans fl
  replace hOl := hOl.al ho hz
  replace hzq38 : H0.size ≤ q38 := by rw [zq]; exact hz
  replace hz : H0.size ≤ H38.size := by rw [zs]; exact Nat.le_succ_of_le hz
  clear ho hL hK zs zq
  refine lv_dup hx hb dX11_init_67 rfl ?_
  refine lv_aload_n hx hb dX11_init_68 rfl (lv_at hl 0 rfl) ?_
  refine q_getR E hC g0 faz_RX11_19_202 dX11_init_69 (fun q39 _ gq39 => ?_)
  replace hWb := hW
  refine q_goN (q_runI (As := [.ref q39]) (rest := [.ref q38, .ref h0]) E hAO hS (m_X10_init l X Γ38 H38 n0 hC hW (Nat.le_trans hn0 hz) q38 gq38 q39 gq39) cw_X10_init cn_RX11_25 rfl rfl hl.1 rfl (show _ ≤ _ from by simp [Value.category]) (by decide) (by decide) (by decide) (by decide) dX11_init_72) E hS hW.2 (fun H40 Γ40 locs40 zq gq hl5 h12 hP hW E hC hS => ?_)
  replace hx := E.1; replace hb := E.2.1
  replace u2 := u2.call hP.2.2 hl5 gq38 (by decide) gq (by decide) (by decide); replace fl := (sI_ol (j := X.1.2 4 1) hP.2.1 (nw_lt hWb gq35 (by decide)) (nek gq35 gq38 (by decide))).trans fl
  replace hOl := hOl.call hP.2.1 hzq38 hz
  replace g0 := hl5 _ _ (nek g0 gq38 (by decide)) (by decide) g0
  replace gq21 := hl5 _ _ (nek gq21 gq38 (by decide)) (by decide) gq21
  replace gq22 := hl5 _ _ (nek gq22 gq38 (by decide)) (by decide) gq22
  replace gq25 := hl5 _ _ (nek gq25 gq38 (by decide)) (by decide) gq25
  replace gq28 := hl5 _ _ (nek gq28 gq38 (by decide)) (by decide) gq28
  replace gq31 := hl5 _ _ (nek gq31 gq38 (by decide)) (by decide) gq31
  replace gq35 := hl5 _ _ (nek gq35 gq38 (by decide)) (by decide) gq35
  replace gq39 := hl5 _ _ (nek gq39 gq38 (by decide)) (by decide) gq39
  replace hLf := hLf.tr2x hl5 (hW0.1 q38 hzq38) gq38
  replace hz := Nat.le_trans hz zq
  replace hKN := hKN.tr hP.1; replace hI := hI.tr h12
  replace gq38 := gq
  clear zq hl5 h12 hP
  refine q_putN E hin hC hS hW g0 gq38 fn_RX11_28_202 rfl rfl ⟨by decide, by decide⟩ dX11_init_75 (fun H41 locs41 Γ41 zs eo U41 gz hl5 hk5 hE5 E hC hS hW => ?_)
  replace hx := E.1; replace hb := E.2.1
  replace hI := hI.put hl5 hk5 g0 (by decide)
  replace u2 := u2.eq hE5 g0 (by decide) gz (by decide)
  replace fl := (up_nI (a' := q35) (j' := X.1.2 4 1) U41 (fun hh => absurd hh.1 (nek gq35 g0 (by decide)))).trans fl
  replace gq21 := hl5 _ _ (nek gq21 g0 (by decide)) (by decide) gq21
  replace gq22 := hl5 _ _ (nek gq22 g0 (by decide)) (by decide) gq22
  replace gq25 := hl5 _ _ (nek gq25 g0 (by decide)) (by decide) gq25
  replace gq28 := hl5 _ _ (nek gq28 g0 (by decide)) (by decide) gq28
  replace gq31 := hl5 _ _ (nek gq31 g0 (by decide)) (by decide) gq31
  replace gq35 := hl5 _ _ (nek gq35 g0 (by decide)) (by decide) gq35
  replace gq38 := hl5 _ _ (nek gq38 g0 (by decide)) (by decide) gq38
  replace gq39 := hl5 _ _ (nek gq39 g0 (by decide)) (by decide) gq39
  replace hOl := hOl.put eo
  replace hLf := hLf.tr hl5; replace hKN := hKN.tr hk5
  replace hz : H0.size ≤ H41.size := by rw [zs]; exact hz
  replace g0 := gz
  clear eo zs hl5 hk5 hE5
  refine lv_aload_n hx hb dX11_init_78 rfl (lv_at hl 0 rfl) ?_
  replace hWb := hW; replace gq350 := gq35
  refine q_newO E hC hS hW (Nat.le_trans hn0 hz) no_RX11_32 (by decide) (by decide) dX11_init_79 (fun q42 H42 Γ42 zq zs ho hzz gq42 hL hK E hC hS hW => ?_)
  replace hx := E.1; replace hb := E.2.1
  replace g0 := hL _ _ (by decide) g0
  replace gq21 := hL _ _ (by decide) gq21
  replace gq22 := hL _ _ (by decide) gq22
  replace gq25 := hL _ _ (by decide) gq25
  replace gq28 := hL _ _ (by decide) gq28
  replace gq31 := hL _ _ (by decide) gq31
  replace gq35 := hL _ _ (by decide) gq35
  replace gq38 := hL _ _ (by decide) gq38
  replace gq39 := hL _ _ (by decide) gq39
  replace hLf := hLf.al hL; replace hKN := hKN.al hK (by decide); replace hI := hI.al hL hK (by decide)
  replace u2 := u2.al hL hK (by decide) (by decide)
  replace fl := (sI_al (j := X.1.2 4 1) ho (nw_lt hWb gq350 (by decide))).trans fl
  replace hOl := hOl.al ho hz
  replace hzq42 : H0.size ≤ q42 := by rw [zq]; exact hz
  replace hz : H0.size ≤ H42.size := by rw [zs]; exact Nat.le_succ_of_le hz
  clear ho hL hK zs zq
  refine lv_dup hx hb dX11_init_82 rfl ?_
  refine lv_aload_n hx hb dX11_init_83 rfl (lv_at hl 0 rfl) ?_
  refine q_getR E hC g0 faz_RX11_19_203 dX11_init_84 (fun q43 _ gq43 => ?_)
  replace hWb := hW
  refine q_goN (q_runI (As := [.ref q43]) (rest := [.ref q42, .ref h0]) E hAO hS (m_X3_init l X Γ42 H42 n0 hC hW (Nat.le_trans hn0 hz) q42 gq42 q43 gq43) cw_X3_init cn_RX11_34 rfl rfl hl.1 rfl (show _ ≤ _ from by simp [Value.category]) (by decide) (by decide) (by decide) (by decide) dX11_init_87) E hS hW.2 (fun H44 Γ44 locs44 zq gq hl5 h12 hP hW E hC hS => ?_)
  replace hx := E.1; replace hb := E.2.1
  replace u2 := u2.call hP.2.2 hl5 gq42 (by decide) gq (by decide) (by decide); replace fl := (sI_ol (j := X.1.2 4 1) hP.2.1 (nw_lt hWb gq35 (by decide)) (nek gq35 gq42 (by decide))).trans fl
  replace hOl := hOl.call hP.2.1 hzq42 hz
  replace g0 := hl5 _ _ (nek g0 gq42 (by decide)) (by decide) g0
  replace gq21 := hl5 _ _ (nek gq21 gq42 (by decide)) (by decide) gq21
  replace gq22 := hl5 _ _ (nek gq22 gq42 (by decide)) (by decide) gq22
  replace gq25 := hl5 _ _ (nek gq25 gq42 (by decide)) (by decide) gq25
  replace gq28 := hl5 _ _ (nek gq28 gq42 (by decide)) (by decide) gq28
  replace gq31 := hl5 _ _ (nek gq31 gq42 (by decide)) (by decide) gq31
  replace gq35 := hl5 _ _ (nek gq35 gq42 (by decide)) (by decide) gq35
  replace gq38 := hl5 _ _ (nek gq38 gq42 (by decide)) (by decide) gq38
  replace gq39 := hl5 _ _ (nek gq39 gq42 (by decide)) (by decide) gq39
  replace gq43 := hl5 _ _ (nek gq43 gq42 (by decide)) (by decide) gq43
  replace hLf := hLf.tr2x hl5 (hW0.1 q42 hzq42) gq42
  replace hz := Nat.le_trans hz zq
  replace hKN := hKN.tr hP.1; replace hI := hI.tr h12
  replace gq42 := gq
  clear zq hl5 h12 hP
  refine q_putN E hin hC hS hW g0 gq42 fn_RX11_35_203 rfl rfl ⟨by decide, by decide⟩ dX11_init_90 (fun H45 locs45 Γ45 zs eo U45 gz hl5 hk5 hE5 E hC hS hW => ?_)
  replace hx := E.1; replace hb := E.2.1
  replace hI := hI.put hl5 hk5 g0 (by decide)
  replace u2 := u2.eq hE5 g0 (by decide) gz (by decide)
  replace fl := (up_nI (a' := q35) (j' := X.1.2 4 1) U45 (fun hh => absurd hh.1 (nek gq35 g0 (by decide)))).trans fl
  replace gq21 := hl5 _ _ (nek gq21 g0 (by decide)) (by decide) gq21
  replace gq22 := hl5 _ _ (nek gq22 g0 (by decide)) (by decide) gq22
  replace gq25 := hl5 _ _ (nek gq25 g0 (by decide)) (by decide) gq25
  replace gq28 := hl5 _ _ (nek gq28 g0 (by decide)) (by decide) gq28
  replace gq31 := hl5 _ _ (nek gq31 g0 (by decide)) (by decide) gq31
  replace gq35 := hl5 _ _ (nek gq35 g0 (by decide)) (by decide) gq35
  replace gq38 := hl5 _ _ (nek gq38 g0 (by decide)) (by decide) gq38
  replace gq39 := hl5 _ _ (nek gq39 g0 (by decide)) (by decide) gq39
  replace gq42 := hl5 _ _ (nek gq42 g0 (by decide)) (by decide) gq42
  replace gq43 := hl5 _ _ (nek gq43 g0 (by decide)) (by decide) gq43
  replace hOl := hOl.put eo
  replace hLf := hLf.tr hl5; replace hKN := hKN.tr hk5
  replace hz : H0.size ≤ H45.size := by rw [zs]; exact hz
  replace g0 := gz
  clear eo zs hl5 hk5 hE5
  refine lv_aload_n hx hb dX11_init_93 rfl (lv_at hl 0 rfl) ?_
  as_aux_lemma =>
    replace hWb := hW; replace gq350 := gq35
    refine q_newO E hC hS hW (Nat.le_trans hn0 hz) no_RX11_39 (by decide) (by decide) dX11_init_94 (fun q46 H46 Γ46 zq zs ho hzz gq46 hL hK E hC hS hW => ?_)
    replace hx := E.1; replace hb := E.2.1
    replace g0 := hL _ _ (by decide) g0
    replace gq21 := hL _ _ (by decide) gq21
    replace gq22 := hL _ _ (by decide) gq22
    replace gq25 := hL _ _ (by decide) gq25
    replace gq28 := hL _ _ (by decide) gq28
    replace gq31 := hL _ _ (by decide) gq31
    replace gq35 := hL _ _ (by decide) gq35
    replace gq38 := hL _ _ (by decide) gq38
    replace gq39 := hL _ _ (by decide) gq39
    replace gq42 := hL _ _ (by decide) gq42
    replace gq43 := hL _ _ (by decide) gq43
    replace hLf := hLf.al hL; replace hKN := hKN.al hK (by decide); replace hI := hI.al hL hK (by decide)
    replace u2 := u2.al hL hK (by decide) (by decide)
    replace fl := (sI_al (j := X.1.2 4 1) ho (nw_lt hWb gq350 (by decide))).trans fl
    replace hOl := hOl.al ho hz
    replace hzq46 : H0.size ≤ q46 := by rw [zq]; exact hz
    replace hz : H0.size ≤ H46.size := by rw [zs]; exact Nat.le_succ_of_le hz
    clear ho hL hK zs zq
    refine lv_dup hx hb dX11_init_97 rfl ?_
    replace hWb := hW
    refine q_goN (q_runIN (As := []) (rest := [.ref q46, .ref h0]) E hAO hS (m_X9_init l X Γ46 H46 n0 hC hW (Nat.le_trans hn0 hz) q46 gq46 ) cw_X9_init cn_RX11_41 rfl rfl hl.1 rfl (show _ ≤ _ from by simp [Value.category]) (by decide) (by decide) (by decide) (by decide) dX11_init_98) E hS hW.2 (fun H47 Γ47 locs47 zq gq hl5 h12 hP hW E hC hS => ?_)
    replace hx := E.1; replace hb := E.2.1
    replace u2 := u2.call hP.2.2 hl5 gq46 (by decide) gq (by decide) (by decide); replace fl := (sI_ol (j := X.1.2 4 1) hP.2.1 (nw_lt hWb gq35 (by decide)) (nek gq35 gq46 (by decide))).trans fl
    replace hOl := hOl.call hP.2.1 hzq46 hz
    replace g0 := hl5 _ _ (nek g0 gq46 (by decide)) (by decide) g0
    replace gq21 := hl5 _ _ (nek gq21 gq46 (by decide)) (by decide) gq21
    replace gq22 := hl5 _ _ (nek gq22 gq46 (by decide)) (by decide) gq22
    replace gq25 := hl5 _ _ (nek gq25 gq46 (by decide)) (by decide) gq25
    replace gq28 := hl5 _ _ (nek gq28 gq46 (by decide)) (by decide) gq28
    replace gq31 := hl5 _ _ (nek gq31 gq46 (by decide)) (by decide) gq31
    replace gq35 := hl5 _ _ (nek gq35 gq46 (by decide)) (by decide) gq35
    replace gq38 := hl5 _ _ (nek gq38 gq46 (by decide)) (by decide) gq38
    replace gq39 := hl5 _ _ (nek gq39 gq46 (by decide)) (by decide) gq39
    replace gq42 := hl5 _ _ (nek gq42 gq46 (by decide)) (by decide) gq42
    replace gq43 := hl5 _ _ (nek gq43 gq46 (by decide)) (by decide) gq43
    replace hLf := hLf.tr2x hl5 (hW0.1 q46 hzq46) gq46
    replace hz := Nat.le_trans hz zq
    replace hKN := hKN.tr hP.1; replace hI := hI.tr h12
    replace gq46 := gq
    clear zq hl5 h12 hP
    refine q_putN E hin hC hS hW g0 gq46 fn_RX11_42_204 rfl rfl ⟨by decide, by decide⟩ dX11_init_101 (fun H48 locs48 Γ48 zs eo U48 gz hl5 hk5 hE5 E hC hS hW => ?_)
    replace hx := E.1; replace hb := E.2.1
    replace hI := hI.put hl5 hk5 g0 (by decide)
    replace u2 := u2.eq hE5 g0 (by decide) gz (by decide)
    replace fl := (up_nI (a' := q35) (j' := X.1.2 4 1) U48 (fun hh => absurd hh.1 (nek gq35 g0 (by decide)))).trans fl
    replace gq21 := hl5 _ _ (nek gq21 g0 (by decide)) (by decide) gq21
    replace gq22 := hl5 _ _ (nek gq22 g0 (by decide)) (by decide) gq22
    replace gq25 := hl5 _ _ (nek gq25 g0 (by decide)) (by decide) gq25
    replace gq28 := hl5 _ _ (nek gq28 g0 (by decide)) (by decide) gq28
    replace gq31 := hl5 _ _ (nek gq31 g0 (by decide)) (by decide) gq31
    replace gq35 := hl5 _ _ (nek gq35 g0 (by decide)) (by decide) gq35
    replace gq38 := hl5 _ _ (nek gq38 g0 (by decide)) (by decide) gq38
    replace gq39 := hl5 _ _ (nek gq39 g0 (by decide)) (by decide) gq39
    replace gq42 := hl5 _ _ (nek gq42 g0 (by decide)) (by decide) gq42
    replace gq43 := hl5 _ _ (nek gq43 g0 (by decide)) (by decide) gq43
    replace gq46 := hl5 _ _ (nek gq46 g0 (by decide)) (by decide) gq46
    replace hOl := hOl.put eo
    replace hLf := hLf.tr hl5; replace hKN := hKN.tr hk5
    replace hz : H0.size ≤ H48.size := by rw [zs]; exact hz
    replace g0 := gz
    clear eo zs hl5 hk5 hE5
    refine lv_aload_n hx hb dX11_init_104 rfl (lv_at hl 0 rfl) ?_
    replace hWb := hW; replace gq350 := gq35
    refine q_newO E hC hS hW (Nat.le_trans hn0 hz) no_RX11_39 (by decide) (by decide) dX11_init_105 (fun q49 H49 Γ49 zq zs ho hzz gq49 hL hK E hC hS hW => ?_)
    replace hx := E.1; replace hb := E.2.1
    replace g0 := hL _ _ (by decide) g0
    replace gq21 := hL _ _ (by decide) gq21
    replace gq22 := hL _ _ (by decide) gq22
    replace gq25 := hL _ _ (by decide) gq25
    replace gq28 := hL _ _ (by decide) gq28
    replace gq31 := hL _ _ (by decide) gq31
    replace gq35 := hL _ _ (by decide) gq35
    replace gq38 := hL _ _ (by decide) gq38
    replace gq39 := hL _ _ (by decide) gq39
    replace gq42 := hL _ _ (by decide) gq42
    replace gq43 := hL _ _ (by decide) gq43
    replace gq46 := hL _ _ (by decide) gq46
    replace hLf := hLf.al hL; replace hKN := hKN.al hK (by decide); replace hI := hI.al hL hK (by decide)
    replace u2 := u2.al hL hK (by decide) (by decide)
    replace fl := (sI_al (j := X.1.2 4 1) ho (nw_lt hWb gq350 (by decide))).trans fl
    replace hOl := hOl.al ho hz
    replace hzq49 : H0.size ≤ q49 := by rw [zq]; exact hz
    replace hz : H0.size ≤ H49.size := by rw [zs]; exact Nat.le_succ_of_le hz
    clear ho hL hK zs zq
    refine lv_dup hx hb dX11_init_108 rfl ?_
    replace hWb := hW
    refine q_goN (q_runIN (As := []) (rest := [.ref q49, .ref h0]) E hAO hS (m_X9_init l X Γ49 H49 n0 hC hW (Nat.le_trans hn0 hz) q49 gq49 ) cw_X9_init cn_RX11_41 rfl rfl hl.1 rfl (show _ ≤ _ from by simp [Value.category]) (by decide) (by decide) (by decide) (by decide) dX11_init_109) E hS hW.2 (fun H50 Γ50 locs50 zq gq hl5 h12 hP hW E hC hS => ?_)
    replace hx := E.1; replace hb := E.2.1
    replace u2 := u2.call hP.2.2 hl5 gq49 (by decide) gq (by decide) (by decide); replace fl := (sI_ol (j := X.1.2 4 1) hP.2.1 (nw_lt hWb gq35 (by decide)) (nek gq35 gq49 (by decide))).trans fl
    replace hOl := hOl.call hP.2.1 hzq49 hz
    replace g0 := hl5 _ _ (nek g0 gq49 (by decide)) (by decide) g0
    replace gq21 := hl5 _ _ (nek gq21 gq49 (by decide)) (by decide) gq21
    replace gq22 := hl5 _ _ (nek gq22 gq49 (by decide)) (by decide) gq22
    replace gq25 := hl5 _ _ (nek gq25 gq49 (by decide)) (by decide) gq25
    replace gq28 := hl5 _ _ (nek gq28 gq49 (by decide)) (by decide) gq28
    replace gq31 := hl5 _ _ (nek gq31 gq49 (by decide)) (by decide) gq31
    replace gq35 := hl5 _ _ (nek gq35 gq49 (by decide)) (by decide) gq35
    replace gq38 := hl5 _ _ (nek gq38 gq49 (by decide)) (by decide) gq38
    replace gq39 := hl5 _ _ (nek gq39 gq49 (by decide)) (by decide) gq39
    replace gq42 := hl5 _ _ (nek gq42 gq49 (by decide)) (by decide) gq42
    replace gq43 := hl5 _ _ (nek gq43 gq49 (by decide)) (by decide) gq43
    replace gq46 := hl5 _ _ (nek gq46 gq49 (by decide)) (by decide) gq46
    replace hLf := hLf.tr2x hl5 (hW0.1 q49 hzq49) gq49
    replace hz := Nat.le_trans hz zq
    replace hKN := hKN.tr hP.1; replace hI := hI.tr h12
    replace gq49 := gq
    clear zq hl5 h12 hP
    refine q_putN E hin hC hS hW g0 gq49 fn_RX11_46_205 rfl rfl ⟨by decide, by decide⟩ dX11_init_112 (fun H51 locs51 Γ51 zs eo U51 gz hl5 hk5 hE5 E hC hS hW => ?_)
    replace hx := E.1; replace hb := E.2.1
    replace hI := hI.put hl5 hk5 g0 (by decide)
    replace u2 := u2.eq hE5 g0 (by decide) gz (by decide)
    replace fl := (up_nI (a' := q35) (j' := X.1.2 4 1) U51 (fun hh => absurd hh.1 (nek gq35 g0 (by decide)))).trans fl
    replace gq21 := hl5 _ _ (nek gq21 g0 (by decide)) (by decide) gq21
    replace gq22 := hl5 _ _ (nek gq22 g0 (by decide)) (by decide) gq22
    replace gq25 := hl5 _ _ (nek gq25 g0 (by decide)) (by decide) gq25
    replace gq28 := hl5 _ _ (nek gq28 g0 (by decide)) (by decide) gq28
    replace gq31 := hl5 _ _ (nek gq31 g0 (by decide)) (by decide) gq31
    replace gq35 := hl5 _ _ (nek gq35 g0 (by decide)) (by decide) gq35
    replace gq38 := hl5 _ _ (nek gq38 g0 (by decide)) (by decide) gq38
    replace gq39 := hl5 _ _ (nek gq39 g0 (by decide)) (by decide) gq39
    replace gq42 := hl5 _ _ (nek gq42 g0 (by decide)) (by decide) gq42
    replace gq43 := hl5 _ _ (nek gq43 g0 (by decide)) (by decide) gq43
    replace gq46 := hl5 _ _ (nek gq46 g0 (by decide)) (by decide) gq46
    replace gq49 := hl5 _ _ (nek gq49 g0 (by decide)) (by decide) gq49
    replace hOl := hOl.put eo
    replace hLf := hLf.tr hl5; replace hKN := hKN.tr hk5
    replace hz : H0.size ≤ H51.size := by rw [zs]; exact hz
    replace g0 := gz
    clear eo zs hl5 hk5 hE5
    refine lv_aload_n hx hb dX11_init_115 rfl (lv_at hl 0 rfl) ?_
    replace hWb := hW; replace gq350 := gq35
    refine q_newO E hC hS hW (Nat.le_trans hn0 hz) no_RX11_49 (by decide) (by decide) dX11_init_116 (fun q52 H52 Γ52 zq zs ho hzz gq52 hL hK E hC hS hW => ?_)
    replace hx := E.1; replace hb := E.2.1
    replace g0 := hL _ _ (by decide) g0
    replace gq21 := hL _ _ (by decide) gq21
    replace gq22 := hL _ _ (by decide) gq22
    replace gq25 := hL _ _ (by decide) gq25
    replace gq28 := hL _ _ (by decide) gq28
    replace gq31 := hL _ _ (by decide) gq31
    replace gq35 := hL _ _ (by decide) gq35
    replace gq38 := hL _ _ (by decide) gq38
    replace gq39 := hL _ _ (by decide) gq39
    replace gq42 := hL _ _ (by decide) gq42
    replace gq43 := hL _ _ (by decide) gq43
    replace gq46 := hL _ _ (by decide) gq46
    replace gq49 := hL _ _ (by decide) gq49
    replace hLf := hLf.al hL; replace hKN := hKN.al hK (by decide); replace hI := hI.al hL hK (by decide)
    replace u2 := u2.al hL hK (by decide) (by decide)
    replace fl := (sI_al (j := X.1.2 4 1) ho (nw_lt hWb gq350 (by decide))).trans fl
    replace hOl := hOl.al ho hz
    replace hzq52 : H0.size ≤ q52 := by rw [zq]; exact hz
    replace hz : H0.size ≤ H52.size := by rw [zs]; exact Nat.le_succ_of_le hz
    clear ho hL hK zs zq
    refine lv_dup hx hb dX11_init_119 rfl ?_
    replace hWb := hW
    refine q_goN (q_runIN (As := []) (rest := [.ref q52, .ref h0]) E hAO hS (m_X2_init l X Γ52 H52 n0 hC hW (Nat.le_trans hn0 hz) q52 gq52 ) cw_X2_init cn_RX11_51 rfl rfl hl.1 rfl (show _ ≤ _ from by simp [Value.category]) (by decide) (by decide) (by decide) (by decide) dX11_init_120) E hS hW.2 (fun H53 Γ53 locs53 zq gq hl5 h12 hP hW E hC hS => ?_)
    replace hx := E.1; replace hb := E.2.1
    replace u2 := u2.call hP.2.2 hl5 gq52 (by decide) gq (by decide) (by decide); replace fl := (sI_ol (j := X.1.2 4 1) hP.2.1 (nw_lt hWb gq35 (by decide)) (nek gq35 gq52 (by decide))).trans fl
    replace hOl := hOl.call hP.2.1 hzq52 hz
    replace g0 := hl5 _ _ (nek g0 gq52 (by decide)) (by decide) g0
    replace gq21 := hl5 _ _ (nek gq21 gq52 (by decide)) (by decide) gq21
    replace gq22 := hl5 _ _ (nek gq22 gq52 (by decide)) (by decide) gq22
    replace gq25 := hl5 _ _ (nek gq25 gq52 (by decide)) (by decide) gq25
    replace gq28 := hl5 _ _ (nek gq28 gq52 (by decide)) (by decide) gq28
    replace gq31 := hl5 _ _ (nek gq31 gq52 (by decide)) (by decide) gq31
    replace gq35 := hl5 _ _ (nek gq35 gq52 (by decide)) (by decide) gq35
    replace gq38 := hl5 _ _ (nek gq38 gq52 (by decide)) (by decide) gq38
    replace gq39 := hl5 _ _ (nek gq39 gq52 (by decide)) (by decide) gq39
    replace gq42 := hl5 _ _ (nek gq42 gq52 (by decide)) (by decide) gq42
    replace gq43 := hl5 _ _ (nek gq43 gq52 (by decide)) (by decide) gq43
    replace gq46 := hl5 _ _ (nek gq46 gq52 (by decide)) (by decide) gq46
    replace gq49 := hl5 _ _ (nek gq49 gq52 (by decide)) (by decide) gq49
    replace hLf := hLf.tr2x hl5 (hW0.1 q52 hzq52) gq52
    replace hz := Nat.le_trans hz zq
    replace hKN := hKN.tr hP.1; replace hI := hI.tr h12
    replace gq52 := gq
    clear zq hl5 h12 hP
    refine q_putN E hin hC hS hW g0 gq52 fn_RX11_52_206 rfl rfl ⟨by decide, by decide⟩ dX11_init_123 (fun H54 locs54 Γ54 zs eo U54 gz hl5 hk5 hE5 E hC hS hW => ?_)
    replace hx := E.1; replace hb := E.2.1
    replace hI := hI.put hl5 hk5 g0 (by decide)
    replace u2 := u2.eq hE5 g0 (by decide) gz (by decide)
    replace fl := (up_nI (a' := q35) (j' := X.1.2 4 1) U54 (fun hh => absurd hh.1 (nek gq35 g0 (by decide)))).trans fl
    replace gq21 := hl5 _ _ (nek gq21 g0 (by decide)) (by decide) gq21
    replace gq22 := hl5 _ _ (nek gq22 g0 (by decide)) (by decide) gq22
    replace gq25 := hl5 _ _ (nek gq25 g0 (by decide)) (by decide) gq25
    replace gq28 := hl5 _ _ (nek gq28 g0 (by decide)) (by decide) gq28
    replace gq31 := hl5 _ _ (nek gq31 g0 (by decide)) (by decide) gq31
    replace gq35 := hl5 _ _ (nek gq35 g0 (by decide)) (by decide) gq35
    replace gq38 := hl5 _ _ (nek gq38 g0 (by decide)) (by decide) gq38
    replace gq39 := hl5 _ _ (nek gq39 g0 (by decide)) (by decide) gq39
    replace gq42 := hl5 _ _ (nek gq42 g0 (by decide)) (by decide) gq42
    replace gq43 := hl5 _ _ (nek gq43 g0 (by decide)) (by decide) gq43
    replace gq46 := hl5 _ _ (nek gq46 g0 (by decide)) (by decide) gq46
    replace gq49 := hl5 _ _ (nek gq49 g0 (by decide)) (by decide) gq49
    replace gq52 := hl5 _ _ (nek gq52 g0 (by decide)) (by decide) gq52
    replace hOl := hOl.put eo
    replace hLf := hLf.tr hl5; replace hKN := hKN.tr hk5
    replace hz : H0.size ≤ H54.size := by rw [zs]; exact hz
    replace g0 := gz
    clear eo zs hl5 hk5 hE5
    refine lv_aload_n hx hb dX11_init_126 rfl (lv_at hl 0 rfl) ?_
    replace hWb := hW; replace gq350 := gq35
    refine q_newO E hC hS hW (Nat.le_trans hn0 hz) no_RX11_49 (by decide) (by decide) dX11_init_127 (fun q55 H55 Γ55 zq zs ho hzz gq55 hL hK E hC hS hW => ?_)
    replace hx := E.1; replace hb := E.2.1
    replace g0 := hL _ _ (by decide) g0
    replace gq21 := hL _ _ (by decide) gq21
    replace gq22 := hL _ _ (by decide) gq22
    replace gq25 := hL _ _ (by decide) gq25
    replace gq28 := hL _ _ (by decide) gq28
    replace gq31 := hL _ _ (by decide) gq31
    replace gq35 := hL _ _ (by decide) gq35
    replace gq38 := hL _ _ (by decide) gq38
    replace gq39 := hL _ _ (by decide) gq39
    replace gq42 := hL _ _ (by decide) gq42
    replace gq43 := hL _ _ (by decide) gq43
    replace gq46 := hL _ _ (by decide) gq46
    replace gq49 := hL _ _ (by decide) gq49
    replace gq52 := hL _ _ (by decide) gq52
    replace hLf := hLf.al hL; replace hKN := hKN.al hK (by decide); replace hI := hI.al hL hK (by decide)
    replace u2 := u2.al hL hK (by decide) (by decide)
    replace fl := (sI_al (j := X.1.2 4 1) ho (nw_lt hWb gq350 (by decide))).trans fl
    replace hOl := hOl.al ho hz
    replace hzq55 : H0.size ≤ q55 := by rw [zq]; exact hz
    replace hz : H0.size ≤ H55.size := by rw [zs]; exact Nat.le_succ_of_le hz
    clear ho hL hK zs zq
    refine lv_dup hx hb dX11_init_130 rfl ?_
    replace hWb := hW
    refine q_goN (q_runIN (As := []) (rest := [.ref q55, .ref h0]) E hAO hS (m_X2_init l X Γ55 H55 n0 hC hW (Nat.le_trans hn0 hz) q55 gq55 ) cw_X2_init cn_RX11_51 rfl rfl hl.1 rfl (show _ ≤ _ from by simp [Value.category]) (by decide) (by decide) (by decide) (by decide) dX11_init_131) E hS hW.2 (fun H56 Γ56 locs56 zq gq hl5 h12 hP hW E hC hS => ?_)
    replace hx := E.1; replace hb := E.2.1
    replace u2 := u2.call hP.2.2 hl5 gq55 (by decide) gq (by decide) (by decide); replace fl := (sI_ol (j := X.1.2 4 1) hP.2.1 (nw_lt hWb gq35 (by decide)) (nek gq35 gq55 (by decide))).trans fl
    replace hOl := hOl.call hP.2.1 hzq55 hz
    replace g0 := hl5 _ _ (nek g0 gq55 (by decide)) (by decide) g0
    replace gq21 := hl5 _ _ (nek gq21 gq55 (by decide)) (by decide) gq21
    replace gq22 := hl5 _ _ (nek gq22 gq55 (by decide)) (by decide) gq22
    replace gq25 := hl5 _ _ (nek gq25 gq55 (by decide)) (by decide) gq25
    replace gq28 := hl5 _ _ (nek gq28 gq55 (by decide)) (by decide) gq28
    replace gq31 := hl5 _ _ (nek gq31 gq55 (by decide)) (by decide) gq31
    replace gq35 := hl5 _ _ (nek gq35 gq55 (by decide)) (by decide) gq35
    replace gq38 := hl5 _ _ (nek gq38 gq55 (by decide)) (by decide) gq38
    replace gq39 := hl5 _ _ (nek gq39 gq55 (by decide)) (by decide) gq39
    replace gq42 := hl5 _ _ (nek gq42 gq55 (by decide)) (by decide) gq42
    replace gq43 := hl5 _ _ (nek gq43 gq55 (by decide)) (by decide) gq43
    replace gq46 := hl5 _ _ (nek gq46 gq55 (by decide)) (by decide) gq46
    replace gq49 := hl5 _ _ (nek gq49 gq55 (by decide)) (by decide) gq49
    replace gq52 := hl5 _ _ (nek gq52 gq55 (by decide)) (by decide) gq52
    replace hLf := hLf.tr2x hl5 (hW0.1 q55 hzq55) gq55
    replace hz := Nat.le_trans hz zq
    replace hKN := hKN.tr hP.1; replace hI := hI.tr h12
    replace gq55 := gq
    clear zq hl5 h12 hP
    refine q_putN E hin hC hS hW g0 gq55 fn_RX11_56_207 rfl rfl ⟨by decide, by decide⟩ dX11_init_134 (fun H57 locs57 Γ57 zs eo U57 gz hl5 hk5 hE5 E hC hS hW => ?_)
    replace hx := E.1; replace hb := E.2.1
    replace hI := hI.put hl5 hk5 g0 (by decide)
    replace u2 := u2.eq hE5 g0 (by decide) gz (by decide)
    replace fl := (up_nI (a' := q35) (j' := X.1.2 4 1) U57 (fun hh => absurd hh.1 (nek gq35 g0 (by decide)))).trans fl
    replace gq21 := hl5 _ _ (nek gq21 g0 (by decide)) (by decide) gq21
    replace gq22 := hl5 _ _ (nek gq22 g0 (by decide)) (by decide) gq22
    replace gq25 := hl5 _ _ (nek gq25 g0 (by decide)) (by decide) gq25
    replace gq28 := hl5 _ _ (nek gq28 g0 (by decide)) (by decide) gq28
    replace gq31 := hl5 _ _ (nek gq31 g0 (by decide)) (by decide) gq31
    replace gq35 := hl5 _ _ (nek gq35 g0 (by decide)) (by decide) gq35
    replace gq38 := hl5 _ _ (nek gq38 g0 (by decide)) (by decide) gq38
    replace gq39 := hl5 _ _ (nek gq39 g0 (by decide)) (by decide) gq39
    replace gq42 := hl5 _ _ (nek gq42 g0 (by decide)) (by decide) gq42
    replace gq43 := hl5 _ _ (nek gq43 g0 (by decide)) (by decide) gq43
    replace gq46 := hl5 _ _ (nek gq46 g0 (by decide)) (by decide) gq46
    replace gq49 := hl5 _ _ (nek gq49 g0 (by decide)) (by decide) gq49
    replace gq52 := hl5 _ _ (nek gq52 g0 (by decide)) (by decide) gq52
    replace gq55 := hl5 _ _ (nek gq55 g0 (by decide)) (by decide) gq55
    replace hOl := hOl.put eo
    replace hLf := hLf.tr hl5; replace hKN := hKN.tr hk5
    replace hz : H0.size ≤ H57.size := by rw [zs]; exact hz
    replace g0 := gz
    clear eo zs hl5 hk5 hE5
    refine lv_aload_n hx hb dX11_init_137 rfl (lv_at hl 0 rfl) ?_
    refine lv_iconst (v := 3) hx hb dX11_init_138 rfl ?_
    replace hWb := hW; replace gq350 := gq35
    refine q_newR E hC hS hW (Nat.le_trans hn0 hz) (r := 910) (t := 5) (N := 3) (C := "SnowForts$Yard") rfl rfl rfl (fun j => by rw [if_neg (Nat.not_lt_zero j)]; rfl) w_161 hAO.2.2.1 (by decide) (by decide) (by decide) (by decide) (by decide) (by decide) dX11_init_139 (fun q58 H58 Γ58 zq zs ho gq58 hL hK E hC hS hW => ?_)
    replace hx := E.1; replace hb := E.2.1
    replace g0 := hL _ _ (by decide) g0
    replace gq21 := hL _ _ (by decide) gq21
    replace gq22 := hL _ _ (by decide) gq22
    replace gq25 := hL _ _ (by decide) gq25
    replace gq28 := hL _ _ (by decide) gq28
    replace gq31 := hL _ _ (by decide) gq31
    replace gq35 := hL _ _ (by decide) gq35
    replace gq38 := hL _ _ (by decide) gq38
    replace gq39 := hL _ _ (by decide) gq39
    replace gq42 := hL _ _ (by decide) gq42
    replace gq43 := hL _ _ (by decide) gq43
    replace gq46 := hL _ _ (by decide) gq46
    replace gq49 := hL _ _ (by decide) gq49
    replace gq52 := hL _ _ (by decide) gq52
    replace gq55 := hL _ _ (by decide) gq55
    replace hLf := hLf.al hL; replace hKN := hKN.al hK (by decide); replace hI := hI.al hL hK (by decide)
    replace u2 := u2.al hL hK (by decide) (by decide)
    replace fl := (sI_al (j := X.1.2 4 1) ho (nw_lt hWb gq350 (by decide))).trans fl
    replace hOl := hOl.al ho hz
    replace hzq58 : H0.size ≤ q58 := by rw [zq]; exact hz
    replace hz : H0.size ≤ H58.size := by rw [zs]; exact Nat.le_succ_of_le hz
    clear ho hL hK zs zq
    refine lv_dup hx hb dX11_init_142 rfl ?_
    refine lv_iconst (v := 0) hx hb dX11_init_143 rfl ?_
    as_aux_lemma =>
      replace hWb := hW; replace gq350 := gq35
      refine q_newO E hC hS hW (Nat.le_trans hn0 hz) no_RX11_39 (by decide) (by decide) dX11_init_144 (fun q59 H59 Γ59 zq zs ho hzz gq59 hL hK E hC hS hW => ?_)
      replace hx := E.1; replace hb := E.2.1
      replace g0 := hL _ _ (by decide) g0
      replace gq21 := hL _ _ (by decide) gq21
      replace gq22 := hL _ _ (by decide) gq22
      replace gq25 := hL _ _ (by decide) gq25
      replace gq28 := hL _ _ (by decide) gq28
      replace gq31 := hL _ _ (by decide) gq31
      replace gq35 := hL _ _ (by decide) gq35
      replace gq38 := hL _ _ (by decide) gq38
      replace gq39 := hL _ _ (by decide) gq39
      replace gq42 := hL _ _ (by decide) gq42
      replace gq43 := hL _ _ (by decide) gq43
      replace gq46 := hL _ _ (by decide) gq46
      replace gq49 := hL _ _ (by decide) gq49
      replace gq52 := hL _ _ (by decide) gq52
      replace gq55 := hL _ _ (by decide) gq55
      replace gq58 := hL _ _ (by decide) gq58
      replace hLf := hLf.al hL; replace hKN := hKN.al hK (by decide); replace hI := hI.al hL hK (by decide)
      replace u2 := u2.al hL hK (by decide) (by decide)
      replace fl := (sI_al (j := X.1.2 4 1) ho (nw_lt hWb gq350 (by decide))).trans fl
      replace hOl := hOl.al ho hz
      replace hzq59 : H0.size ≤ q59 := by rw [zq]; exact hz
      replace hz : H0.size ≤ H59.size := by rw [zs]; exact Nat.le_succ_of_le hz
      clear ho hL hK zs zq
      refine lv_dup hx hb dX11_init_147 rfl ?_
      replace hWb := hW
      refine q_goN (q_runIN (As := []) (rest := [.ref q59, .int 0, .ref q58, .ref q58, .ref h0]) E hAO hS (m_X9_init l X Γ59 H59 n0 hC hW (Nat.le_trans hn0 hz) q59 gq59 ) cw_X9_init cn_RX11_41 rfl rfl hl.1 rfl (show _ ≤ _ from by simp [Value.category]) (by decide) (by decide) (by decide) (by decide) dX11_init_148) E hS hW.2 (fun H60 Γ60 locs60 zq gq hl5 h12 hP hW E hC hS => ?_)
      replace hx := E.1; replace hb := E.2.1
      replace u2 := u2.call hP.2.2 hl5 gq59 (by decide) gq (by decide) (by decide); replace fl := (sI_ol (j := X.1.2 4 1) hP.2.1 (nw_lt hWb gq35 (by decide)) (nek gq35 gq59 (by decide))).trans fl
      replace hOl := hOl.call hP.2.1 hzq59 hz
      replace g0 := hl5 _ _ (nek g0 gq59 (by decide)) (by decide) g0
      replace gq21 := hl5 _ _ (nek gq21 gq59 (by decide)) (by decide) gq21
      replace gq22 := hl5 _ _ (nek gq22 gq59 (by decide)) (by decide) gq22
      replace gq25 := hl5 _ _ (nek gq25 gq59 (by decide)) (by decide) gq25
      replace gq28 := hl5 _ _ (nek gq28 gq59 (by decide)) (by decide) gq28
      replace gq31 := hl5 _ _ (nek gq31 gq59 (by decide)) (by decide) gq31
      replace gq35 := hl5 _ _ (nek gq35 gq59 (by decide)) (by decide) gq35
      replace gq38 := hl5 _ _ (nek gq38 gq59 (by decide)) (by decide) gq38
      replace gq39 := hl5 _ _ (nek gq39 gq59 (by decide)) (by decide) gq39
      replace gq42 := hl5 _ _ (nek gq42 gq59 (by decide)) (by decide) gq42
      replace gq43 := hl5 _ _ (nek gq43 gq59 (by decide)) (by decide) gq43
      replace gq46 := hl5 _ _ (nek gq46 gq59 (by decide)) (by decide) gq46
      replace gq49 := hl5 _ _ (nek gq49 gq59 (by decide)) (by decide) gq49
      replace gq52 := hl5 _ _ (nek gq52 gq59 (by decide)) (by decide) gq52
      replace gq55 := hl5 _ _ (nek gq55 gq59 (by decide)) (by decide) gq55
      replace gq58 := hl5 _ _ (nek gq58 gq59 (by decide)) (by decide) gq58
      replace hLf := hLf.tr2x hl5 (hW0.1 q59 hzq59) gq59
      replace hz := Nat.le_trans hz zq
      replace hKN := hKN.tr hP.1; replace hI := hI.tr h12
      replace gq59 := gq
      clear zq hl5 h12 hP
      refine q_aastN E hC hS hW (i := 0) (t := 5) (C := "SnowForts$Yard") gq58 gq59 an_910 rfl rfl rfl ⟨by decide, by decide⟩ (vp_in_iff.mpr ⟨by decide, by decide⟩) dX11_init_151 (fun H61 locs61 Γ61 zs ho5 U61 gz hl5 hk5 hE5 E hC hS hW => ?_)
      replace hx := E.1; replace hb := E.2.1
      replace hI := hI.put hl5 hk5 gq58 (by decide)
      replace hOl := hOl.fr ho5 hzq58
      replace u2 := u2.eq hE5 gq58 (by decide) gz (by decide)
      replace fl := (sI_ne (j := X.1.2 4 1) ho5 (nek gq35 gq58 (by decide))).trans fl
      replace g0 := hl5 _ _ (nek g0 gq58 (by decide)) (by decide) g0
      replace gq21 := hl5 _ _ (nek gq21 gq58 (by decide)) (by decide) gq21
      replace gq22 := hl5 _ _ (nek gq22 gq58 (by decide)) (by decide) gq22
      replace gq25 := hl5 _ _ (nek gq25 gq58 (by decide)) (by decide) gq25
      replace gq28 := hl5 _ _ (nek gq28 gq58 (by decide)) (by decide) gq28
      replace gq31 := hl5 _ _ (nek gq31 gq58 (by decide)) (by decide) gq31
      replace gq35 := hl5 _ _ (nek gq35 gq58 (by decide)) (by decide) gq35
      replace gq38 := hl5 _ _ (nek gq38 gq58 (by decide)) (by decide) gq38
      replace gq39 := hl5 _ _ (nek gq39 gq58 (by decide)) (by decide) gq39
      replace gq42 := hl5 _ _ (nek gq42 gq58 (by decide)) (by decide) gq42
      replace gq43 := hl5 _ _ (nek gq43 gq58 (by decide)) (by decide) gq43
      replace gq46 := hl5 _ _ (nek gq46 gq58 (by decide)) (by decide) gq46
      replace gq49 := hl5 _ _ (nek gq49 gq58 (by decide)) (by decide) gq49
      replace gq52 := hl5 _ _ (nek gq52 gq58 (by decide)) (by decide) gq52
      replace gq55 := hl5 _ _ (nek gq55 gq58 (by decide)) (by decide) gq55
      replace gq59 := hl5 _ _ (nek gq59 gq58 (by decide)) (by decide) gq59
      replace hLf := hLf.tr2x hl5 (hW0.1 q58 hzq58) gq58
      replace hKN := hKN.tr hk5
      replace gq58 := gz
      replace hz : H0.size ≤ H61.size := by rw [zs]; exact hz
      clear zs ho5 hl5 hk5 hE5
      refine lv_dup hx hb dX11_init_152 rfl ?_
      refine lv_iconst (v := 1) hx hb dX11_init_153 rfl ?_
      replace hWb := hW; replace gq350 := gq35
      refine q_newO E hC hS hW (Nat.le_trans hn0 hz) no_RX11_39 (by decide) (by decide) dX11_init_154 (fun q62 H62 Γ62 zq zs ho hzz gq62 hL hK E hC hS hW => ?_)
      replace hx := E.1; replace hb := E.2.1
      replace g0 := hL _ _ (by decide) g0
      replace gq21 := hL _ _ (by decide) gq21
      replace gq22 := hL _ _ (by decide) gq22
      replace gq25 := hL _ _ (by decide) gq25
      replace gq28 := hL _ _ (by decide) gq28
      replace gq31 := hL _ _ (by decide) gq31
      replace gq35 := hL _ _ (by decide) gq35
      replace gq38 := hL _ _ (by decide) gq38
      replace gq39 := hL _ _ (by decide) gq39
      replace gq42 := hL _ _ (by decide) gq42
      replace gq43 := hL _ _ (by decide) gq43
      replace gq46 := hL _ _ (by decide) gq46
      replace gq49 := hL _ _ (by decide) gq49
      replace gq52 := hL _ _ (by decide) gq52
      replace gq55 := hL _ _ (by decide) gq55
      replace gq58 := hL _ _ (by decide) gq58
      replace gq59 := hL _ _ (by decide) gq59
      replace hLf := hLf.al hL; replace hKN := hKN.al hK (by decide); replace hI := hI.al hL hK (by decide)
      replace u2 := u2.al hL hK (by decide) (by decide)
      replace fl := (sI_al (j := X.1.2 4 1) ho (nw_lt hWb gq350 (by decide))).trans fl
      replace hOl := hOl.al ho hz
      replace hzq62 : H0.size ≤ q62 := by rw [zq]; exact hz
      replace hz : H0.size ≤ H62.size := by rw [zs]; exact Nat.le_succ_of_le hz
      clear ho hL hK zs zq
      refine lv_dup hx hb dX11_init_157 rfl ?_
      replace hWb := hW
      refine q_goN (q_runIN (As := []) (rest := [.ref q62, .int 1, .ref q58, .ref q58, .ref h0]) E hAO hS (m_X9_init l X Γ62 H62 n0 hC hW (Nat.le_trans hn0 hz) q62 gq62 ) cw_X9_init cn_RX11_41 rfl rfl hl.1 rfl (show _ ≤ _ from by simp [Value.category]) (by decide) (by decide) (by decide) (by decide) dX11_init_158) E hS hW.2 (fun H63 Γ63 locs63 zq gq hl5 h12 hP hW E hC hS => ?_)
      replace hx := E.1; replace hb := E.2.1
      replace u2 := u2.call hP.2.2 hl5 gq62 (by decide) gq (by decide) (by decide); replace fl := (sI_ol (j := X.1.2 4 1) hP.2.1 (nw_lt hWb gq35 (by decide)) (nek gq35 gq62 (by decide))).trans fl
      replace hOl := hOl.call hP.2.1 hzq62 hz
      replace g0 := hl5 _ _ (nek g0 gq62 (by decide)) (by decide) g0
      replace gq21 := hl5 _ _ (nek gq21 gq62 (by decide)) (by decide) gq21
      replace gq22 := hl5 _ _ (nek gq22 gq62 (by decide)) (by decide) gq22
      replace gq25 := hl5 _ _ (nek gq25 gq62 (by decide)) (by decide) gq25
      replace gq28 := hl5 _ _ (nek gq28 gq62 (by decide)) (by decide) gq28
      replace gq31 := hl5 _ _ (nek gq31 gq62 (by decide)) (by decide) gq31
      replace gq35 := hl5 _ _ (nek gq35 gq62 (by decide)) (by decide) gq35
      replace gq38 := hl5 _ _ (nek gq38 gq62 (by decide)) (by decide) gq38
      replace gq39 := hl5 _ _ (nek gq39 gq62 (by decide)) (by decide) gq39
      replace gq42 := hl5 _ _ (nek gq42 gq62 (by decide)) (by decide) gq42
      replace gq43 := hl5 _ _ (nek gq43 gq62 (by decide)) (by decide) gq43
      replace gq46 := hl5 _ _ (nek gq46 gq62 (by decide)) (by decide) gq46
      replace gq49 := hl5 _ _ (nek gq49 gq62 (by decide)) (by decide) gq49
      replace gq52 := hl5 _ _ (nek gq52 gq62 (by decide)) (by decide) gq52
      replace gq55 := hl5 _ _ (nek gq55 gq62 (by decide)) (by decide) gq55
      replace gq58 := hl5 _ _ (nek gq58 gq62 (by decide)) (by decide) gq58
      replace gq59 := hl5 _ _ (nek gq59 gq62 (by decide)) (by decide) gq59
      replace hLf := hLf.tr2x hl5 (hW0.1 q62 hzq62) gq62
      replace hz := Nat.le_trans hz zq
      replace hKN := hKN.tr hP.1; replace hI := hI.tr h12
      replace gq62 := gq
      clear zq hl5 h12 hP
      refine q_aastN E hC hS hW (i := 1) (t := 5) (C := "SnowForts$Yard") gq58 gq62 an_911 rfl rfl rfl ⟨by decide, by decide⟩ (vp_in_iff.mpr ⟨by decide, by decide⟩) dX11_init_161 (fun H64 locs64 Γ64 zs ho5 U64 gz hl5 hk5 hE5 E hC hS hW => ?_)
      replace hx := E.1; replace hb := E.2.1
      replace hI := hI.put hl5 hk5 gq58 (by decide)
      replace hOl := hOl.fr ho5 hzq58
      replace u2 := u2.eq hE5 gq58 (by decide) gz (by decide)
      replace fl := (sI_ne (j := X.1.2 4 1) ho5 (nek gq35 gq58 (by decide))).trans fl
      replace g0 := hl5 _ _ (nek g0 gq58 (by decide)) (by decide) g0
      replace gq21 := hl5 _ _ (nek gq21 gq58 (by decide)) (by decide) gq21
      replace gq22 := hl5 _ _ (nek gq22 gq58 (by decide)) (by decide) gq22
      replace gq25 := hl5 _ _ (nek gq25 gq58 (by decide)) (by decide) gq25
      replace gq28 := hl5 _ _ (nek gq28 gq58 (by decide)) (by decide) gq28
      replace gq31 := hl5 _ _ (nek gq31 gq58 (by decide)) (by decide) gq31
      replace gq35 := hl5 _ _ (nek gq35 gq58 (by decide)) (by decide) gq35
      replace gq38 := hl5 _ _ (nek gq38 gq58 (by decide)) (by decide) gq38
      replace gq39 := hl5 _ _ (nek gq39 gq58 (by decide)) (by decide) gq39
      replace gq42 := hl5 _ _ (nek gq42 gq58 (by decide)) (by decide) gq42
      replace gq43 := hl5 _ _ (nek gq43 gq58 (by decide)) (by decide) gq43
      replace gq46 := hl5 _ _ (nek gq46 gq58 (by decide)) (by decide) gq46
      replace gq49 := hl5 _ _ (nek gq49 gq58 (by decide)) (by decide) gq49
      replace gq52 := hl5 _ _ (nek gq52 gq58 (by decide)) (by decide) gq52
      replace gq55 := hl5 _ _ (nek gq55 gq58 (by decide)) (by decide) gq55
      replace gq59 := hl5 _ _ (nek gq59 gq58 (by decide)) (by decide) gq59
      replace gq62 := hl5 _ _ (nek gq62 gq58 (by decide)) (by decide) gq62
      replace hLf := hLf.tr2x hl5 (hW0.1 q58 hzq58) gq58
      replace hKN := hKN.tr hk5
      replace gq58 := gz
      replace hz : H0.size ≤ H64.size := by rw [zs]; exact hz
      clear zs ho5 hl5 hk5 hE5
      refine lv_dup hx hb dX11_init_162 rfl ?_
      refine lv_iconst (v := 2) hx hb dX11_init_163 rfl ?_
      replace hWb := hW; replace gq350 := gq35
      refine q_newO E hC hS hW (Nat.le_trans hn0 hz) no_RX11_39 (by decide) (by decide) dX11_init_164 (fun q65 H65 Γ65 zq zs ho hzz gq65 hL hK E hC hS hW => ?_)
      replace hx := E.1; replace hb := E.2.1
      replace g0 := hL _ _ (by decide) g0
      replace gq21 := hL _ _ (by decide) gq21
      replace gq22 := hL _ _ (by decide) gq22
      replace gq25 := hL _ _ (by decide) gq25
      replace gq28 := hL _ _ (by decide) gq28
      replace gq31 := hL _ _ (by decide) gq31
      replace gq35 := hL _ _ (by decide) gq35
      replace gq38 := hL _ _ (by decide) gq38
      replace gq39 := hL _ _ (by decide) gq39
      replace gq42 := hL _ _ (by decide) gq42
      replace gq43 := hL _ _ (by decide) gq43
      replace gq46 := hL _ _ (by decide) gq46
      replace gq49 := hL _ _ (by decide) gq49
      replace gq52 := hL _ _ (by decide) gq52
      replace gq55 := hL _ _ (by decide) gq55
      replace gq58 := hL _ _ (by decide) gq58
      replace gq59 := hL _ _ (by decide) gq59
      replace gq62 := hL _ _ (by decide) gq62
      replace hLf := hLf.al hL; replace hKN := hKN.al hK (by decide); replace hI := hI.al hL hK (by decide)
      replace u2 := u2.al hL hK (by decide) (by decide)
      replace fl := (sI_al (j := X.1.2 4 1) ho (nw_lt hWb gq350 (by decide))).trans fl
      replace hOl := hOl.al ho hz
      replace hzq65 : H0.size ≤ q65 := by rw [zq]; exact hz
      replace hz : H0.size ≤ H65.size := by rw [zs]; exact Nat.le_succ_of_le hz
      clear ho hL hK zs zq
      refine lv_dup hx hb dX11_init_167 rfl ?_
      replace hWb := hW
      refine q_goN (q_runIN (As := []) (rest := [.ref q65, .int 2, .ref q58, .ref q58, .ref h0]) E hAO hS (m_X9_init l X Γ65 H65 n0 hC hW (Nat.le_trans hn0 hz) q65 gq65 ) cw_X9_init cn_RX11_41 rfl rfl hl.1 rfl (show _ ≤ _ from by simp [Value.category]) (by decide) (by decide) (by decide) (by decide) dX11_init_168) E hS hW.2 (fun H66 Γ66 locs66 zq gq hl5 h12 hP hW E hC hS => ?_)
      replace hx := E.1; replace hb := E.2.1
      replace u2 := u2.call hP.2.2 hl5 gq65 (by decide) gq (by decide) (by decide); replace fl := (sI_ol (j := X.1.2 4 1) hP.2.1 (nw_lt hWb gq35 (by decide)) (nek gq35 gq65 (by decide))).trans fl
      replace hOl := hOl.call hP.2.1 hzq65 hz
      replace g0 := hl5 _ _ (nek g0 gq65 (by decide)) (by decide) g0
      replace gq21 := hl5 _ _ (nek gq21 gq65 (by decide)) (by decide) gq21
      replace gq22 := hl5 _ _ (nek gq22 gq65 (by decide)) (by decide) gq22
      replace gq25 := hl5 _ _ (nek gq25 gq65 (by decide)) (by decide) gq25
      replace gq28 := hl5 _ _ (nek gq28 gq65 (by decide)) (by decide) gq28
      replace gq31 := hl5 _ _ (nek gq31 gq65 (by decide)) (by decide) gq31
      replace gq35 := hl5 _ _ (nek gq35 gq65 (by decide)) (by decide) gq35
      replace gq38 := hl5 _ _ (nek gq38 gq65 (by decide)) (by decide) gq38
      replace gq39 := hl5 _ _ (nek gq39 gq65 (by decide)) (by decide) gq39
      replace gq42 := hl5 _ _ (nek gq42 gq65 (by decide)) (by decide) gq42
      replace gq43 := hl5 _ _ (nek gq43 gq65 (by decide)) (by decide) gq43
      replace gq46 := hl5 _ _ (nek gq46 gq65 (by decide)) (by decide) gq46
      replace gq49 := hl5 _ _ (nek gq49 gq65 (by decide)) (by decide) gq49
      replace gq52 := hl5 _ _ (nek gq52 gq65 (by decide)) (by decide) gq52
      replace gq55 := hl5 _ _ (nek gq55 gq65 (by decide)) (by decide) gq55
      replace gq58 := hl5 _ _ (nek gq58 gq65 (by decide)) (by decide) gq58
      replace gq59 := hl5 _ _ (nek gq59 gq65 (by decide)) (by decide) gq59
      replace gq62 := hl5 _ _ (nek gq62 gq65 (by decide)) (by decide) gq62
      replace hLf := hLf.tr2x hl5 (hW0.1 q65 hzq65) gq65
      replace hz := Nat.le_trans hz zq
      replace hKN := hKN.tr hP.1; replace hI := hI.tr h12
      replace gq65 := gq
      clear zq hl5 h12 hP
      refine q_aastN E hC hS hW (i := 2) (t := 5) (C := "SnowForts$Yard") gq58 gq65 an_912 rfl rfl rfl ⟨by decide, by decide⟩ (vp_in_iff.mpr ⟨by decide, by decide⟩) dX11_init_171 (fun H67 locs67 Γ67 zs ho5 U67 gz hl5 hk5 hE5 E hC hS hW => ?_)
      replace hx := E.1; replace hb := E.2.1
      replace hI := hI.put hl5 hk5 gq58 (by decide)
      replace hOl := hOl.fr ho5 hzq58
      replace u2 := u2.eq hE5 gq58 (by decide) gz (by decide)
      replace fl := (sI_ne (j := X.1.2 4 1) ho5 (nek gq35 gq58 (by decide))).trans fl
      replace g0 := hl5 _ _ (nek g0 gq58 (by decide)) (by decide) g0
      replace gq21 := hl5 _ _ (nek gq21 gq58 (by decide)) (by decide) gq21
      replace gq22 := hl5 _ _ (nek gq22 gq58 (by decide)) (by decide) gq22
      replace gq25 := hl5 _ _ (nek gq25 gq58 (by decide)) (by decide) gq25
      replace gq28 := hl5 _ _ (nek gq28 gq58 (by decide)) (by decide) gq28
      replace gq31 := hl5 _ _ (nek gq31 gq58 (by decide)) (by decide) gq31
      replace gq35 := hl5 _ _ (nek gq35 gq58 (by decide)) (by decide) gq35
      replace gq38 := hl5 _ _ (nek gq38 gq58 (by decide)) (by decide) gq38
      replace gq39 := hl5 _ _ (nek gq39 gq58 (by decide)) (by decide) gq39
      replace gq42 := hl5 _ _ (nek gq42 gq58 (by decide)) (by decide) gq42
      replace gq43 := hl5 _ _ (nek gq43 gq58 (by decide)) (by decide) gq43
      replace gq46 := hl5 _ _ (nek gq46 gq58 (by decide)) (by decide) gq46
      replace gq49 := hl5 _ _ (nek gq49 gq58 (by decide)) (by decide) gq49
      replace gq52 := hl5 _ _ (nek gq52 gq58 (by decide)) (by decide) gq52
      replace gq55 := hl5 _ _ (nek gq55 gq58 (by decide)) (by decide) gq55
      replace gq59 := hl5 _ _ (nek gq59 gq58 (by decide)) (by decide) gq59
      replace gq62 := hl5 _ _ (nek gq62 gq58 (by decide)) (by decide) gq62
      replace gq65 := hl5 _ _ (nek gq65 gq58 (by decide)) (by decide) gq65
      replace hLf := hLf.tr2x hl5 (hW0.1 q58 hzq58) gq58
      replace hKN := hKN.tr hk5
      replace gq58 := gz
      replace hz : H0.size ≤ H67.size := by rw [zs]; exact hz
      clear zs ho5 hl5 hk5 hE5
      refine q_putN E hin hC hS hW g0 gq58 fn_RX11_59_208 rfl rfl ⟨by decide, by decide⟩ dX11_init_172 (fun H68 locs68 Γ68 zs eo U68 gz hl5 hk5 hE5 E hC hS hW => ?_)
      replace hx := E.1; replace hb := E.2.1
      replace hI := hI.put hl5 hk5 g0 (by decide)
      replace u2 := u2.eq hE5 g0 (by decide) gz (by decide)
      replace fl := (up_nI (a' := q35) (j' := X.1.2 4 1) U68 (fun hh => absurd hh.1 (nek gq35 g0 (by decide)))).trans fl
      replace gq21 := hl5 _ _ (nek gq21 g0 (by decide)) (by decide) gq21
      replace gq22 := hl5 _ _ (nek gq22 g0 (by decide)) (by decide) gq22
      replace gq25 := hl5 _ _ (nek gq25 g0 (by decide)) (by decide) gq25
      replace gq28 := hl5 _ _ (nek gq28 g0 (by decide)) (by decide) gq28
      replace gq31 := hl5 _ _ (nek gq31 g0 (by decide)) (by decide) gq31
      replace gq35 := hl5 _ _ (nek gq35 g0 (by decide)) (by decide) gq35
      replace gq38 := hl5 _ _ (nek gq38 g0 (by decide)) (by decide) gq38
      replace gq39 := hl5 _ _ (nek gq39 g0 (by decide)) (by decide) gq39
      replace gq42 := hl5 _ _ (nek gq42 g0 (by decide)) (by decide) gq42
      replace gq43 := hl5 _ _ (nek gq43 g0 (by decide)) (by decide) gq43
      replace gq46 := hl5 _ _ (nek gq46 g0 (by decide)) (by decide) gq46
      replace gq49 := hl5 _ _ (nek gq49 g0 (by decide)) (by decide) gq49
      replace gq52 := hl5 _ _ (nek gq52 g0 (by decide)) (by decide) gq52
      replace gq55 := hl5 _ _ (nek gq55 g0 (by decide)) (by decide) gq55
      replace gq58 := hl5 _ _ (nek gq58 g0 (by decide)) (by decide) gq58
      replace gq59 := hl5 _ _ (nek gq59 g0 (by decide)) (by decide) gq59
      replace gq62 := hl5 _ _ (nek gq62 g0 (by decide)) (by decide) gq62
      replace gq65 := hl5 _ _ (nek gq65 g0 (by decide)) (by decide) gq65
      replace hOl := hOl.put eo
      replace hLf := hLf.tr hl5; replace hKN := hKN.tr hk5
      replace hz : H0.size ≤ H68.size := by rw [zs]; exact hz
      replace g0 := gz
      clear eo zs hl5 hk5 hE5
      refine lv_aload_n hx hb dX11_init_175 rfl (lv_at hl 0 rfl) ?_
      refine lv_iconst (v := 3) hx hb dX11_init_176 rfl ?_
      replace hWb := hW; replace gq350 := gq35
      refine q_newR E hC hS hW (Nat.le_trans hn0 hz) (r := 920) (t := 6) (N := 3) (C := "SnowForts$Orders") rfl rfl rfl (fun j => by rw [if_neg (Nat.not_lt_zero j)]; rfl) w_238 hAO.2.2.2 (by decide) (by decide) (by decide) (by decide) (by decide) (by decide) dX11_init_177 (fun q69 H69 Γ69 zq zs ho gq69 hL hK E hC hS hW => ?_)
      replace hx := E.1; replace hb := E.2.1
      replace g0 := hL _ _ (by decide) g0
      replace gq21 := hL _ _ (by decide) gq21
      replace gq22 := hL _ _ (by decide) gq22
      replace gq25 := hL _ _ (by decide) gq25
      replace gq28 := hL _ _ (by decide) gq28
      replace gq31 := hL _ _ (by decide) gq31
      replace gq35 := hL _ _ (by decide) gq35
      replace gq38 := hL _ _ (by decide) gq38
      replace gq39 := hL _ _ (by decide) gq39
      replace gq42 := hL _ _ (by decide) gq42
      replace gq43 := hL _ _ (by decide) gq43
      replace gq46 := hL _ _ (by decide) gq46
      replace gq49 := hL _ _ (by decide) gq49
      replace gq52 := hL _ _ (by decide) gq52
      replace gq55 := hL _ _ (by decide) gq55
      replace gq58 := hL _ _ (by decide) gq58
      replace gq59 := hL _ _ (by decide) gq59
      replace gq62 := hL _ _ (by decide) gq62
      replace gq65 := hL _ _ (by decide) gq65
      replace hLf := hLf.al hL; replace hKN := hKN.al hK (by decide); replace hI := hI.al hL hK (by decide)
      replace u2 := u2.al hL hK (by decide) (by decide)
      replace fl := (sI_al (j := X.1.2 4 1) ho (nw_lt hWb gq350 (by decide))).trans fl
      replace hOl := hOl.al ho hz
      replace hzq69 : H0.size ≤ q69 := by rw [zq]; exact hz
      replace hz : H0.size ≤ H69.size := by rw [zs]; exact Nat.le_succ_of_le hz
      clear ho hL hK zs zq
      refine lv_dup hx hb dX11_init_180 rfl ?_
      refine lv_iconst (v := 0) hx hb dX11_init_181 rfl ?_
      as_aux_lemma =>
        replace hWb := hW; replace gq350 := gq35
        refine q_newO E hC hS hW (Nat.le_trans hn0 hz) no_RX11_49 (by decide) (by decide) dX11_init_182 (fun q70 H70 Γ70 zq zs ho hzz gq70 hL hK E hC hS hW => ?_)
        replace hx := E.1; replace hb := E.2.1
        replace g0 := hL _ _ (by decide) g0
        replace gq21 := hL _ _ (by decide) gq21
        replace gq22 := hL _ _ (by decide) gq22
        replace gq25 := hL _ _ (by decide) gq25
        replace gq28 := hL _ _ (by decide) gq28
        replace gq31 := hL _ _ (by decide) gq31
        replace gq35 := hL _ _ (by decide) gq35
        replace gq38 := hL _ _ (by decide) gq38
        replace gq39 := hL _ _ (by decide) gq39
        replace gq42 := hL _ _ (by decide) gq42
        replace gq43 := hL _ _ (by decide) gq43
        replace gq46 := hL _ _ (by decide) gq46
        replace gq49 := hL _ _ (by decide) gq49
        replace gq52 := hL _ _ (by decide) gq52
        replace gq55 := hL _ _ (by decide) gq55
        replace gq58 := hL _ _ (by decide) gq58
        replace gq59 := hL _ _ (by decide) gq59
        replace gq62 := hL _ _ (by decide) gq62
        replace gq65 := hL _ _ (by decide) gq65
        replace gq69 := hL _ _ (by decide) gq69
        replace hLf := hLf.al hL; replace hKN := hKN.al hK (by decide); replace hI := hI.al hL hK (by decide)
        replace u2 := u2.al hL hK (by decide) (by decide)
        replace fl := (sI_al (j := X.1.2 4 1) ho (nw_lt hWb gq350 (by decide))).trans fl
        replace hOl := hOl.al ho hz
        replace hzq70 : H0.size ≤ q70 := by rw [zq]; exact hz
        replace hz : H0.size ≤ H70.size := by rw [zs]; exact Nat.le_succ_of_le hz
        clear ho hL hK zs zq
        refine lv_dup hx hb dX11_init_185 rfl ?_
        replace hWb := hW
        refine q_goN (q_runIN (As := []) (rest := [.ref q70, .int 0, .ref q69, .ref q69, .ref h0]) E hAO hS (m_X2_init l X Γ70 H70 n0 hC hW (Nat.le_trans hn0 hz) q70 gq70 ) cw_X2_init cn_RX11_51 rfl rfl hl.1 rfl (show _ ≤ _ from by simp [Value.category]) (by decide) (by decide) (by decide) (by decide) dX11_init_186) E hS hW.2 (fun H71 Γ71 locs71 zq gq hl5 h12 hP hW E hC hS => ?_)
        replace hx := E.1; replace hb := E.2.1
        replace u2 := u2.call hP.2.2 hl5 gq70 (by decide) gq (by decide) (by decide); replace fl := (sI_ol (j := X.1.2 4 1) hP.2.1 (nw_lt hWb gq35 (by decide)) (nek gq35 gq70 (by decide))).trans fl
        replace hOl := hOl.call hP.2.1 hzq70 hz
        replace g0 := hl5 _ _ (nek g0 gq70 (by decide)) (by decide) g0
        replace gq21 := hl5 _ _ (nek gq21 gq70 (by decide)) (by decide) gq21
        replace gq22 := hl5 _ _ (nek gq22 gq70 (by decide)) (by decide) gq22
        replace gq25 := hl5 _ _ (nek gq25 gq70 (by decide)) (by decide) gq25
        replace gq28 := hl5 _ _ (nek gq28 gq70 (by decide)) (by decide) gq28
        replace gq31 := hl5 _ _ (nek gq31 gq70 (by decide)) (by decide) gq31
        replace gq35 := hl5 _ _ (nek gq35 gq70 (by decide)) (by decide) gq35
        replace gq38 := hl5 _ _ (nek gq38 gq70 (by decide)) (by decide) gq38
        replace gq39 := hl5 _ _ (nek gq39 gq70 (by decide)) (by decide) gq39
        replace gq42 := hl5 _ _ (nek gq42 gq70 (by decide)) (by decide) gq42
        replace gq43 := hl5 _ _ (nek gq43 gq70 (by decide)) (by decide) gq43
        replace gq46 := hl5 _ _ (nek gq46 gq70 (by decide)) (by decide) gq46
        replace gq49 := hl5 _ _ (nek gq49 gq70 (by decide)) (by decide) gq49
        replace gq52 := hl5 _ _ (nek gq52 gq70 (by decide)) (by decide) gq52
        replace gq55 := hl5 _ _ (nek gq55 gq70 (by decide)) (by decide) gq55
        replace gq58 := hl5 _ _ (nek gq58 gq70 (by decide)) (by decide) gq58
        replace gq59 := hl5 _ _ (nek gq59 gq70 (by decide)) (by decide) gq59
        replace gq62 := hl5 _ _ (nek gq62 gq70 (by decide)) (by decide) gq62
        replace gq65 := hl5 _ _ (nek gq65 gq70 (by decide)) (by decide) gq65
        replace gq69 := hl5 _ _ (nek gq69 gq70 (by decide)) (by decide) gq69
        replace hLf := hLf.tr2x hl5 (hW0.1 q70 hzq70) gq70
        replace hz := Nat.le_trans hz zq
        replace hKN := hKN.tr hP.1; replace hI := hI.tr h12
        replace gq70 := gq
        clear zq hl5 h12 hP
        refine q_aastN E hC hS hW (i := 0) (t := 6) (C := "SnowForts$Orders") gq69 gq70 an_920 rfl rfl rfl ⟨by decide, by decide⟩ (vp_in_iff.mpr ⟨by decide, by decide⟩) dX11_init_189 (fun H72 locs72 Γ72 zs ho5 U72 gz hl5 hk5 hE5 E hC hS hW => ?_)
        replace hx := E.1; replace hb := E.2.1
        replace hI := hI.put hl5 hk5 gq69 (by decide)
        replace hOl := hOl.fr ho5 hzq69
        replace u2 := u2.eq hE5 gq69 (by decide) gz (by decide)
        replace fl := (sI_ne (j := X.1.2 4 1) ho5 (nek gq35 gq69 (by decide))).trans fl
        replace g0 := hl5 _ _ (nek g0 gq69 (by decide)) (by decide) g0
        replace gq21 := hl5 _ _ (nek gq21 gq69 (by decide)) (by decide) gq21
        replace gq22 := hl5 _ _ (nek gq22 gq69 (by decide)) (by decide) gq22
        replace gq25 := hl5 _ _ (nek gq25 gq69 (by decide)) (by decide) gq25
        replace gq28 := hl5 _ _ (nek gq28 gq69 (by decide)) (by decide) gq28
        replace gq31 := hl5 _ _ (nek gq31 gq69 (by decide)) (by decide) gq31
        replace gq35 := hl5 _ _ (nek gq35 gq69 (by decide)) (by decide) gq35
        replace gq38 := hl5 _ _ (nek gq38 gq69 (by decide)) (by decide) gq38
        replace gq39 := hl5 _ _ (nek gq39 gq69 (by decide)) (by decide) gq39
        replace gq42 := hl5 _ _ (nek gq42 gq69 (by decide)) (by decide) gq42
        replace gq43 := hl5 _ _ (nek gq43 gq69 (by decide)) (by decide) gq43
        replace gq46 := hl5 _ _ (nek gq46 gq69 (by decide)) (by decide) gq46
        replace gq49 := hl5 _ _ (nek gq49 gq69 (by decide)) (by decide) gq49
        replace gq52 := hl5 _ _ (nek gq52 gq69 (by decide)) (by decide) gq52
        replace gq55 := hl5 _ _ (nek gq55 gq69 (by decide)) (by decide) gq55
        replace gq58 := hl5 _ _ (nek gq58 gq69 (by decide)) (by decide) gq58
        replace gq59 := hl5 _ _ (nek gq59 gq69 (by decide)) (by decide) gq59
        replace gq62 := hl5 _ _ (nek gq62 gq69 (by decide)) (by decide) gq62
        replace gq65 := hl5 _ _ (nek gq65 gq69 (by decide)) (by decide) gq65
        replace gq70 := hl5 _ _ (nek gq70 gq69 (by decide)) (by decide) gq70
        replace hLf := hLf.tr2x hl5 (hW0.1 q69 hzq69) gq69
        replace hKN := hKN.tr hk5
        replace gq69 := gz
        replace hz : H0.size ≤ H72.size := by rw [zs]; exact hz
        clear zs ho5 hl5 hk5 hE5
        refine lv_dup hx hb dX11_init_190 rfl ?_
        refine lv_iconst (v := 1) hx hb dX11_init_191 rfl ?_
        replace hWb := hW; replace gq350 := gq35
        refine q_newO E hC hS hW (Nat.le_trans hn0 hz) no_RX11_49 (by decide) (by decide) dX11_init_192 (fun q73 H73 Γ73 zq zs ho hzz gq73 hL hK E hC hS hW => ?_)
        replace hx := E.1; replace hb := E.2.1
        replace g0 := hL _ _ (by decide) g0
        replace gq21 := hL _ _ (by decide) gq21
        replace gq22 := hL _ _ (by decide) gq22
        replace gq25 := hL _ _ (by decide) gq25
        replace gq28 := hL _ _ (by decide) gq28
        replace gq31 := hL _ _ (by decide) gq31
        replace gq35 := hL _ _ (by decide) gq35
        replace gq38 := hL _ _ (by decide) gq38
        replace gq39 := hL _ _ (by decide) gq39
        replace gq42 := hL _ _ (by decide) gq42
        replace gq43 := hL _ _ (by decide) gq43
        replace gq46 := hL _ _ (by decide) gq46
        replace gq49 := hL _ _ (by decide) gq49
        replace gq52 := hL _ _ (by decide) gq52
        replace gq55 := hL _ _ (by decide) gq55
        replace gq58 := hL _ _ (by decide) gq58
        replace gq59 := hL _ _ (by decide) gq59
        replace gq62 := hL _ _ (by decide) gq62
        replace gq65 := hL _ _ (by decide) gq65
        replace gq69 := hL _ _ (by decide) gq69
        replace gq70 := hL _ _ (by decide) gq70
        replace hLf := hLf.al hL; replace hKN := hKN.al hK (by decide); replace hI := hI.al hL hK (by decide)
        replace u2 := u2.al hL hK (by decide) (by decide)
        replace fl := (sI_al (j := X.1.2 4 1) ho (nw_lt hWb gq350 (by decide))).trans fl
        replace hOl := hOl.al ho hz
        replace hzq73 : H0.size ≤ q73 := by rw [zq]; exact hz
        replace hz : H0.size ≤ H73.size := by rw [zs]; exact Nat.le_succ_of_le hz
        clear ho hL hK zs zq
        refine lv_dup hx hb dX11_init_195 rfl ?_
        replace hWb := hW
        refine q_goN (q_runIN (As := []) (rest := [.ref q73, .int 1, .ref q69, .ref q69, .ref h0]) E hAO hS (m_X2_init l X Γ73 H73 n0 hC hW (Nat.le_trans hn0 hz) q73 gq73 ) cw_X2_init cn_RX11_51 rfl rfl hl.1 rfl (show _ ≤ _ from by simp [Value.category]) (by decide) (by decide) (by decide) (by decide) dX11_init_196) E hS hW.2 (fun H74 Γ74 locs74 zq gq hl5 h12 hP hW E hC hS => ?_)
        replace hx := E.1; replace hb := E.2.1
        replace u2 := u2.call hP.2.2 hl5 gq73 (by decide) gq (by decide) (by decide); replace fl := (sI_ol (j := X.1.2 4 1) hP.2.1 (nw_lt hWb gq35 (by decide)) (nek gq35 gq73 (by decide))).trans fl
        replace hOl := hOl.call hP.2.1 hzq73 hz
        replace g0 := hl5 _ _ (nek g0 gq73 (by decide)) (by decide) g0
        replace gq21 := hl5 _ _ (nek gq21 gq73 (by decide)) (by decide) gq21
        replace gq22 := hl5 _ _ (nek gq22 gq73 (by decide)) (by decide) gq22
        replace gq25 := hl5 _ _ (nek gq25 gq73 (by decide)) (by decide) gq25
        replace gq28 := hl5 _ _ (nek gq28 gq73 (by decide)) (by decide) gq28
        replace gq31 := hl5 _ _ (nek gq31 gq73 (by decide)) (by decide) gq31
        replace gq35 := hl5 _ _ (nek gq35 gq73 (by decide)) (by decide) gq35
        replace gq38 := hl5 _ _ (nek gq38 gq73 (by decide)) (by decide) gq38
        replace gq39 := hl5 _ _ (nek gq39 gq73 (by decide)) (by decide) gq39
        replace gq42 := hl5 _ _ (nek gq42 gq73 (by decide)) (by decide) gq42
        replace gq43 := hl5 _ _ (nek gq43 gq73 (by decide)) (by decide) gq43
        replace gq46 := hl5 _ _ (nek gq46 gq73 (by decide)) (by decide) gq46
        replace gq49 := hl5 _ _ (nek gq49 gq73 (by decide)) (by decide) gq49
        replace gq52 := hl5 _ _ (nek gq52 gq73 (by decide)) (by decide) gq52
        replace gq55 := hl5 _ _ (nek gq55 gq73 (by decide)) (by decide) gq55
        replace gq58 := hl5 _ _ (nek gq58 gq73 (by decide)) (by decide) gq58
        replace gq59 := hl5 _ _ (nek gq59 gq73 (by decide)) (by decide) gq59
        replace gq62 := hl5 _ _ (nek gq62 gq73 (by decide)) (by decide) gq62
        replace gq65 := hl5 _ _ (nek gq65 gq73 (by decide)) (by decide) gq65
        replace gq69 := hl5 _ _ (nek gq69 gq73 (by decide)) (by decide) gq69
        replace gq70 := hl5 _ _ (nek gq70 gq73 (by decide)) (by decide) gq70
        replace hLf := hLf.tr2x hl5 (hW0.1 q73 hzq73) gq73
        replace hz := Nat.le_trans hz zq
        replace hKN := hKN.tr hP.1; replace hI := hI.tr h12
        replace gq73 := gq
        clear zq hl5 h12 hP
        refine q_aastN E hC hS hW (i := 1) (t := 6) (C := "SnowForts$Orders") gq69 gq73 an_921 rfl rfl rfl ⟨by decide, by decide⟩ (vp_in_iff.mpr ⟨by decide, by decide⟩) dX11_init_199 (fun H75 locs75 Γ75 zs ho5 U75 gz hl5 hk5 hE5 E hC hS hW => ?_)
        replace hx := E.1; replace hb := E.2.1
        replace hI := hI.put hl5 hk5 gq69 (by decide)
        replace hOl := hOl.fr ho5 hzq69
        replace u2 := u2.eq hE5 gq69 (by decide) gz (by decide)
        replace fl := (sI_ne (j := X.1.2 4 1) ho5 (nek gq35 gq69 (by decide))).trans fl
        replace g0 := hl5 _ _ (nek g0 gq69 (by decide)) (by decide) g0
        replace gq21 := hl5 _ _ (nek gq21 gq69 (by decide)) (by decide) gq21
        replace gq22 := hl5 _ _ (nek gq22 gq69 (by decide)) (by decide) gq22
        replace gq25 := hl5 _ _ (nek gq25 gq69 (by decide)) (by decide) gq25
        replace gq28 := hl5 _ _ (nek gq28 gq69 (by decide)) (by decide) gq28
        replace gq31 := hl5 _ _ (nek gq31 gq69 (by decide)) (by decide) gq31
        replace gq35 := hl5 _ _ (nek gq35 gq69 (by decide)) (by decide) gq35
        replace gq38 := hl5 _ _ (nek gq38 gq69 (by decide)) (by decide) gq38
        replace gq39 := hl5 _ _ (nek gq39 gq69 (by decide)) (by decide) gq39
        replace gq42 := hl5 _ _ (nek gq42 gq69 (by decide)) (by decide) gq42
        replace gq43 := hl5 _ _ (nek gq43 gq69 (by decide)) (by decide) gq43
        replace gq46 := hl5 _ _ (nek gq46 gq69 (by decide)) (by decide) gq46
        replace gq49 := hl5 _ _ (nek gq49 gq69 (by decide)) (by decide) gq49
        replace gq52 := hl5 _ _ (nek gq52 gq69 (by decide)) (by decide) gq52
        replace gq55 := hl5 _ _ (nek gq55 gq69 (by decide)) (by decide) gq55
        replace gq58 := hl5 _ _ (nek gq58 gq69 (by decide)) (by decide) gq58
        replace gq59 := hl5 _ _ (nek gq59 gq69 (by decide)) (by decide) gq59
        replace gq62 := hl5 _ _ (nek gq62 gq69 (by decide)) (by decide) gq62
        replace gq65 := hl5 _ _ (nek gq65 gq69 (by decide)) (by decide) gq65
        replace gq70 := hl5 _ _ (nek gq70 gq69 (by decide)) (by decide) gq70
        replace gq73 := hl5 _ _ (nek gq73 gq69 (by decide)) (by decide) gq73
        replace hLf := hLf.tr2x hl5 (hW0.1 q69 hzq69) gq69
        replace hKN := hKN.tr hk5
        replace gq69 := gz
        replace hz : H0.size ≤ H75.size := by rw [zs]; exact hz
        clear zs ho5 hl5 hk5 hE5
        refine lv_dup hx hb dX11_init_200 rfl ?_
        refine lv_iconst (v := 2) hx hb dX11_init_201 rfl ?_
        replace hWb := hW; replace gq350 := gq35
        refine q_newO E hC hS hW (Nat.le_trans hn0 hz) no_RX11_49 (by decide) (by decide) dX11_init_202 (fun q76 H76 Γ76 zq zs ho hzz gq76 hL hK E hC hS hW => ?_)
        replace hx := E.1; replace hb := E.2.1
        replace g0 := hL _ _ (by decide) g0
        replace gq21 := hL _ _ (by decide) gq21
        replace gq22 := hL _ _ (by decide) gq22
        replace gq25 := hL _ _ (by decide) gq25
        replace gq28 := hL _ _ (by decide) gq28
        replace gq31 := hL _ _ (by decide) gq31
        replace gq35 := hL _ _ (by decide) gq35
        replace gq38 := hL _ _ (by decide) gq38
        replace gq39 := hL _ _ (by decide) gq39
        replace gq42 := hL _ _ (by decide) gq42
        replace gq43 := hL _ _ (by decide) gq43
        replace gq46 := hL _ _ (by decide) gq46
        replace gq49 := hL _ _ (by decide) gq49
        replace gq52 := hL _ _ (by decide) gq52
        replace gq55 := hL _ _ (by decide) gq55
        replace gq58 := hL _ _ (by decide) gq58
        replace gq59 := hL _ _ (by decide) gq59
        replace gq62 := hL _ _ (by decide) gq62
        replace gq65 := hL _ _ (by decide) gq65
        replace gq69 := hL _ _ (by decide) gq69
        replace gq70 := hL _ _ (by decide) gq70
        replace gq73 := hL _ _ (by decide) gq73
        replace hLf := hLf.al hL; replace hKN := hKN.al hK (by decide); replace hI := hI.al hL hK (by decide)
        replace u2 := u2.al hL hK (by decide) (by decide)
        replace fl := (sI_al (j := X.1.2 4 1) ho (nw_lt hWb gq350 (by decide))).trans fl
        replace hOl := hOl.al ho hz
        replace hzq76 : H0.size ≤ q76 := by rw [zq]; exact hz
        replace hz : H0.size ≤ H76.size := by rw [zs]; exact Nat.le_succ_of_le hz
        clear ho hL hK zs zq
        refine lv_dup hx hb dX11_init_205 rfl ?_
        replace hWb := hW
        refine q_goN (q_runIN (As := []) (rest := [.ref q76, .int 2, .ref q69, .ref q69, .ref h0]) E hAO hS (m_X2_init l X Γ76 H76 n0 hC hW (Nat.le_trans hn0 hz) q76 gq76 ) cw_X2_init cn_RX11_51 rfl rfl hl.1 rfl (show _ ≤ _ from by simp [Value.category]) (by decide) (by decide) (by decide) (by decide) dX11_init_206) E hS hW.2 (fun H77 Γ77 locs77 zq gq hl5 h12 hP hW E hC hS => ?_)
        replace hx := E.1; replace hb := E.2.1
        replace u2 := u2.call hP.2.2 hl5 gq76 (by decide) gq (by decide) (by decide); replace fl := (sI_ol (j := X.1.2 4 1) hP.2.1 (nw_lt hWb gq35 (by decide)) (nek gq35 gq76 (by decide))).trans fl
        replace hOl := hOl.call hP.2.1 hzq76 hz
        replace g0 := hl5 _ _ (nek g0 gq76 (by decide)) (by decide) g0
        replace gq21 := hl5 _ _ (nek gq21 gq76 (by decide)) (by decide) gq21
        replace gq22 := hl5 _ _ (nek gq22 gq76 (by decide)) (by decide) gq22
        replace gq25 := hl5 _ _ (nek gq25 gq76 (by decide)) (by decide) gq25
        replace gq28 := hl5 _ _ (nek gq28 gq76 (by decide)) (by decide) gq28
        replace gq31 := hl5 _ _ (nek gq31 gq76 (by decide)) (by decide) gq31
        replace gq35 := hl5 _ _ (nek gq35 gq76 (by decide)) (by decide) gq35
        replace gq38 := hl5 _ _ (nek gq38 gq76 (by decide)) (by decide) gq38
        replace gq39 := hl5 _ _ (nek gq39 gq76 (by decide)) (by decide) gq39
        replace gq42 := hl5 _ _ (nek gq42 gq76 (by decide)) (by decide) gq42
        replace gq43 := hl5 _ _ (nek gq43 gq76 (by decide)) (by decide) gq43
        replace gq46 := hl5 _ _ (nek gq46 gq76 (by decide)) (by decide) gq46
        replace gq49 := hl5 _ _ (nek gq49 gq76 (by decide)) (by decide) gq49
        replace gq52 := hl5 _ _ (nek gq52 gq76 (by decide)) (by decide) gq52
        replace gq55 := hl5 _ _ (nek gq55 gq76 (by decide)) (by decide) gq55
        replace gq58 := hl5 _ _ (nek gq58 gq76 (by decide)) (by decide) gq58
        replace gq59 := hl5 _ _ (nek gq59 gq76 (by decide)) (by decide) gq59
        replace gq62 := hl5 _ _ (nek gq62 gq76 (by decide)) (by decide) gq62
        replace gq65 := hl5 _ _ (nek gq65 gq76 (by decide)) (by decide) gq65
        replace gq69 := hl5 _ _ (nek gq69 gq76 (by decide)) (by decide) gq69
        replace gq70 := hl5 _ _ (nek gq70 gq76 (by decide)) (by decide) gq70
        replace gq73 := hl5 _ _ (nek gq73 gq76 (by decide)) (by decide) gq73
        replace hLf := hLf.tr2x hl5 (hW0.1 q76 hzq76) gq76
        replace hz := Nat.le_trans hz zq
        replace hKN := hKN.tr hP.1; replace hI := hI.tr h12
        replace gq76 := gq
        clear zq hl5 h12 hP
        refine q_aastN E hC hS hW (i := 2) (t := 6) (C := "SnowForts$Orders") gq69 gq76 an_922 rfl rfl rfl ⟨by decide, by decide⟩ (vp_in_iff.mpr ⟨by decide, by decide⟩) dX11_init_209 (fun H78 locs78 Γ78 zs ho5 U78 gz hl5 hk5 hE5 E hC hS hW => ?_)
        replace hx := E.1; replace hb := E.2.1
        replace hI := hI.put hl5 hk5 gq69 (by decide)
        replace hOl := hOl.fr ho5 hzq69
        replace u2 := u2.eq hE5 gq69 (by decide) gz (by decide)
        replace fl := (sI_ne (j := X.1.2 4 1) ho5 (nek gq35 gq69 (by decide))).trans fl
        replace g0 := hl5 _ _ (nek g0 gq69 (by decide)) (by decide) g0
        replace gq21 := hl5 _ _ (nek gq21 gq69 (by decide)) (by decide) gq21
        replace gq22 := hl5 _ _ (nek gq22 gq69 (by decide)) (by decide) gq22
        replace gq25 := hl5 _ _ (nek gq25 gq69 (by decide)) (by decide) gq25
        replace gq28 := hl5 _ _ (nek gq28 gq69 (by decide)) (by decide) gq28
        replace gq31 := hl5 _ _ (nek gq31 gq69 (by decide)) (by decide) gq31
        replace gq35 := hl5 _ _ (nek gq35 gq69 (by decide)) (by decide) gq35
        replace gq38 := hl5 _ _ (nek gq38 gq69 (by decide)) (by decide) gq38
        replace gq39 := hl5 _ _ (nek gq39 gq69 (by decide)) (by decide) gq39
        replace gq42 := hl5 _ _ (nek gq42 gq69 (by decide)) (by decide) gq42
        replace gq43 := hl5 _ _ (nek gq43 gq69 (by decide)) (by decide) gq43
        replace gq46 := hl5 _ _ (nek gq46 gq69 (by decide)) (by decide) gq46
        replace gq49 := hl5 _ _ (nek gq49 gq69 (by decide)) (by decide) gq49
        replace gq52 := hl5 _ _ (nek gq52 gq69 (by decide)) (by decide) gq52
        replace gq55 := hl5 _ _ (nek gq55 gq69 (by decide)) (by decide) gq55
        replace gq58 := hl5 _ _ (nek gq58 gq69 (by decide)) (by decide) gq58
        replace gq59 := hl5 _ _ (nek gq59 gq69 (by decide)) (by decide) gq59
        replace gq62 := hl5 _ _ (nek gq62 gq69 (by decide)) (by decide) gq62
        replace gq65 := hl5 _ _ (nek gq65 gq69 (by decide)) (by decide) gq65
        replace gq70 := hl5 _ _ (nek gq70 gq69 (by decide)) (by decide) gq70
        replace gq73 := hl5 _ _ (nek gq73 gq69 (by decide)) (by decide) gq73
        replace gq76 := hl5 _ _ (nek gq76 gq69 (by decide)) (by decide) gq76
        replace hLf := hLf.tr2x hl5 (hW0.1 q69 hzq69) gq69
        replace hKN := hKN.tr hk5
        replace gq69 := gz
        replace hz : H0.size ≤ H78.size := by rw [zs]; exact hz
        clear zs ho5 hl5 hk5 hE5
        refine q_putN E hin hC hS hW g0 gq69 fn_RX11_63_209 rfl rfl ⟨by decide, by decide⟩ dX11_init_210 (fun H79 locs79 Γ79 zs eo U79 gz hl5 hk5 hE5 E hC hS hW => ?_)
        replace hx := E.1; replace hb := E.2.1
        replace hI := hI.put hl5 hk5 g0 (by decide)
        replace u2 := u2.eq hE5 g0 (by decide) gz (by decide)
        replace fl := (up_nI (a' := q35) (j' := X.1.2 4 1) U79 (fun hh => absurd hh.1 (nek gq35 g0 (by decide)))).trans fl
        replace gq21 := hl5 _ _ (nek gq21 g0 (by decide)) (by decide) gq21
        replace gq22 := hl5 _ _ (nek gq22 g0 (by decide)) (by decide) gq22
        replace gq25 := hl5 _ _ (nek gq25 g0 (by decide)) (by decide) gq25
        replace gq28 := hl5 _ _ (nek gq28 g0 (by decide)) (by decide) gq28
        replace gq31 := hl5 _ _ (nek gq31 g0 (by decide)) (by decide) gq31
        replace gq35 := hl5 _ _ (nek gq35 g0 (by decide)) (by decide) gq35
        replace gq38 := hl5 _ _ (nek gq38 g0 (by decide)) (by decide) gq38
        replace gq39 := hl5 _ _ (nek gq39 g0 (by decide)) (by decide) gq39
        replace gq42 := hl5 _ _ (nek gq42 g0 (by decide)) (by decide) gq42
        replace gq43 := hl5 _ _ (nek gq43 g0 (by decide)) (by decide) gq43
        replace gq46 := hl5 _ _ (nek gq46 g0 (by decide)) (by decide) gq46
        replace gq49 := hl5 _ _ (nek gq49 g0 (by decide)) (by decide) gq49
        replace gq52 := hl5 _ _ (nek gq52 g0 (by decide)) (by decide) gq52
        replace gq55 := hl5 _ _ (nek gq55 g0 (by decide)) (by decide) gq55
        replace gq58 := hl5 _ _ (nek gq58 g0 (by decide)) (by decide) gq58
        replace gq59 := hl5 _ _ (nek gq59 g0 (by decide)) (by decide) gq59
        replace gq62 := hl5 _ _ (nek gq62 g0 (by decide)) (by decide) gq62
        replace gq65 := hl5 _ _ (nek gq65 g0 (by decide)) (by decide) gq65
        replace gq69 := hl5 _ _ (nek gq69 g0 (by decide)) (by decide) gq69
        replace gq70 := hl5 _ _ (nek gq70 g0 (by decide)) (by decide) gq70
        replace gq73 := hl5 _ _ (nek gq73 g0 (by decide)) (by decide) gq73
        replace gq76 := hl5 _ _ (nek gq76 g0 (by decide)) (by decide) gq76
        replace hOl := hOl.put eo
        replace hLf := hLf.tr hl5; replace hKN := hKN.tr hk5
        replace hz : H0.size ≤ H79.size := by rw [zs]; exact hz
        replace g0 := gz
        clear eo zs hl5 hk5 hE5
        refine lv_aload_n hx hb dX11_init_213 rfl (lv_at hl 0 rfl) ?_
        as_aux_lemma =>
          replace hWb := hW; replace gq350 := gq35
          refine q_newO E hC hS hW (Nat.le_trans hn0 hz) no_RX11_67 (by decide) (by decide) dX11_init_214 (fun q80 H80 Γ80 zq zs ho hzz gq80 hL hK E hC hS hW => ?_)
          replace hx := E.1; replace hb := E.2.1
          replace g0 := hL _ _ (by decide) g0
          replace gq21 := hL _ _ (by decide) gq21
          replace gq22 := hL _ _ (by decide) gq22
          replace gq25 := hL _ _ (by decide) gq25
          replace gq28 := hL _ _ (by decide) gq28
          replace gq31 := hL _ _ (by decide) gq31
          replace gq35 := hL _ _ (by decide) gq35
          replace gq38 := hL _ _ (by decide) gq38
          replace gq39 := hL _ _ (by decide) gq39
          replace gq42 := hL _ _ (by decide) gq42
          replace gq43 := hL _ _ (by decide) gq43
          replace gq46 := hL _ _ (by decide) gq46
          replace gq49 := hL _ _ (by decide) gq49
          replace gq52 := hL _ _ (by decide) gq52
          replace gq55 := hL _ _ (by decide) gq55
          replace gq58 := hL _ _ (by decide) gq58
          replace gq59 := hL _ _ (by decide) gq59
          replace gq62 := hL _ _ (by decide) gq62
          replace gq65 := hL _ _ (by decide) gq65
          replace gq69 := hL _ _ (by decide) gq69
          replace gq70 := hL _ _ (by decide) gq70
          replace gq73 := hL _ _ (by decide) gq73
          replace gq76 := hL _ _ (by decide) gq76
          replace hLf := hLf.al hL; replace hKN := hKN.al hK (by decide); replace hI := hI.al hL hK (by decide)
          replace u2 := u2.al hL hK (by decide) (by decide)
          replace fl := (sI_al (j := X.1.2 4 1) ho (nw_lt hWb gq350 (by decide))).trans fl
          replace hOl := hOl.al ho hz
          replace hzq80 : H0.size ≤ q80 := by rw [zq]; exact hz
          replace hz : H0.size ≤ H80.size := by rw [zs]; exact Nat.le_succ_of_le hz
          clear ho hL hK zs zq
          refine lv_dup hx hb dX11_init_217 rfl ?_
          replace hWb := hW
          refine q_goN (q_runIN (As := []) (rest := [.ref q80, .ref h0]) E hAO hS (m_X7_init l X Γ80 H80 n0 hC hW (Nat.le_trans hn0 hz) q80 gq80  (sI_z (hzz 4 _ (by decide) rfl) rfl)) cw_X7_init cn_RX11_69 rfl rfl hl.1 rfl (show _ ≤ _ from by simp [Value.category]) (by decide) (by decide) (by decide) (by decide) dX11_init_218) E hS hW.2 (fun H81 Γ81 locs81 zq gq hl5 h12 hP hW E hC hS => ?_)
          replace hx := E.1; replace hb := E.2.1
          replace u2 := u2.call hP.2.2.1 hl5 gq80 (by decide) gq (by decide) (by decide); replace fl := (sI_ol (j := X.1.2 4 1) hP.2.1 (nw_lt hWb gq35 (by decide)) (nek gq35 gq80 (by decide))).trans fl
          replace hOl := hOl.call hP.2.1 hzq80 hz
          replace wz := hP.2.2.2
          replace g0 := hl5 _ _ (nek g0 gq80 (by decide)) (by decide) g0
          replace gq21 := hl5 _ _ (nek gq21 gq80 (by decide)) (by decide) gq21
          replace gq22 := hl5 _ _ (nek gq22 gq80 (by decide)) (by decide) gq22
          replace gq25 := hl5 _ _ (nek gq25 gq80 (by decide)) (by decide) gq25
          replace gq28 := hl5 _ _ (nek gq28 gq80 (by decide)) (by decide) gq28
          replace gq31 := hl5 _ _ (nek gq31 gq80 (by decide)) (by decide) gq31
          replace gq35 := hl5 _ _ (nek gq35 gq80 (by decide)) (by decide) gq35
          replace gq38 := hl5 _ _ (nek gq38 gq80 (by decide)) (by decide) gq38
          replace gq39 := hl5 _ _ (nek gq39 gq80 (by decide)) (by decide) gq39
          replace gq42 := hl5 _ _ (nek gq42 gq80 (by decide)) (by decide) gq42
          replace gq43 := hl5 _ _ (nek gq43 gq80 (by decide)) (by decide) gq43
          replace gq46 := hl5 _ _ (nek gq46 gq80 (by decide)) (by decide) gq46
          replace gq49 := hl5 _ _ (nek gq49 gq80 (by decide)) (by decide) gq49
          replace gq52 := hl5 _ _ (nek gq52 gq80 (by decide)) (by decide) gq52
          replace gq55 := hl5 _ _ (nek gq55 gq80 (by decide)) (by decide) gq55
          replace gq58 := hl5 _ _ (nek gq58 gq80 (by decide)) (by decide) gq58
          replace gq59 := hl5 _ _ (nek gq59 gq80 (by decide)) (by decide) gq59
          replace gq62 := hl5 _ _ (nek gq62 gq80 (by decide)) (by decide) gq62
          replace gq65 := hl5 _ _ (nek gq65 gq80 (by decide)) (by decide) gq65
          replace gq69 := hl5 _ _ (nek gq69 gq80 (by decide)) (by decide) gq69
          replace gq70 := hl5 _ _ (nek gq70 gq80 (by decide)) (by decide) gq70
          replace gq73 := hl5 _ _ (nek gq73 gq80 (by decide)) (by decide) gq73
          replace gq76 := hl5 _ _ (nek gq76 gq80 (by decide)) (by decide) gq76
          replace hLf := hLf.tr2x hl5 (hW0.1 q80 hzq80) gq80
          replace hz := Nat.le_trans hz zq
          replace hKN := hKN.tr hP.1; replace hI := hI.tr h12
          replace gq80 := gq
          clear zq hl5 h12 hP
          refine q_putN E hin hC hS hW g0 gq80 fn_RX11_70_210 rfl rfl ⟨by decide, by decide⟩ dX11_init_221 (fun H82 locs82 Γ82 zs eo U82 gz hl5 hk5 hE5 E hC hS hW => ?_)
          replace hx := E.1; replace hb := E.2.1
          replace hI := hI.put hl5 hk5 g0 (by decide)
          replace u2 := u2.eq hE5 g0 (by decide) gz (by decide)
          replace fl := (up_nI (a' := q35) (j' := X.1.2 4 1) U82 (fun hh => absurd hh.1 (nek gq35 g0 (by decide)))).trans fl
          replace wz := (up_nI (a' := q80) (j' := X.1.2 7 4) U82 (fun hh => absurd hh.1 (nek gq80 g0 (by decide)))).trans wz
          replace gq21 := hl5 _ _ (nek gq21 g0 (by decide)) (by decide) gq21
          replace gq22 := hl5 _ _ (nek gq22 g0 (by decide)) (by decide) gq22
          replace gq25 := hl5 _ _ (nek gq25 g0 (by decide)) (by decide) gq25
          replace gq28 := hl5 _ _ (nek gq28 g0 (by decide)) (by decide) gq28
          replace gq31 := hl5 _ _ (nek gq31 g0 (by decide)) (by decide) gq31
          replace gq35 := hl5 _ _ (nek gq35 g0 (by decide)) (by decide) gq35
          replace gq38 := hl5 _ _ (nek gq38 g0 (by decide)) (by decide) gq38
          replace gq39 := hl5 _ _ (nek gq39 g0 (by decide)) (by decide) gq39
          replace gq42 := hl5 _ _ (nek gq42 g0 (by decide)) (by decide) gq42
          replace gq43 := hl5 _ _ (nek gq43 g0 (by decide)) (by decide) gq43
          replace gq46 := hl5 _ _ (nek gq46 g0 (by decide)) (by decide) gq46
          replace gq49 := hl5 _ _ (nek gq49 g0 (by decide)) (by decide) gq49
          replace gq52 := hl5 _ _ (nek gq52 g0 (by decide)) (by decide) gq52
          replace gq55 := hl5 _ _ (nek gq55 g0 (by decide)) (by decide) gq55
          replace gq58 := hl5 _ _ (nek gq58 g0 (by decide)) (by decide) gq58
          replace gq59 := hl5 _ _ (nek gq59 g0 (by decide)) (by decide) gq59
          replace gq62 := hl5 _ _ (nek gq62 g0 (by decide)) (by decide) gq62
          replace gq65 := hl5 _ _ (nek gq65 g0 (by decide)) (by decide) gq65
          replace gq69 := hl5 _ _ (nek gq69 g0 (by decide)) (by decide) gq69
          replace gq70 := hl5 _ _ (nek gq70 g0 (by decide)) (by decide) gq70
          replace gq73 := hl5 _ _ (nek gq73 g0 (by decide)) (by decide) gq73
          replace gq76 := hl5 _ _ (nek gq76 g0 (by decide)) (by decide) gq76
          replace gq80 := hl5 _ _ (nek gq80 g0 (by decide)) (by decide) gq80
          replace hOl := hOl.put eo
          replace tmo := U82.1
          replace hLf := hLf.tr hl5; replace hKN := hKN.tr hk5
          replace hz : H0.size ≤ H82.size := by rw [zs]; exact hz
          replace g0 := gz
          clear eo zs hl5 hk5 hE5
          refine lv_aload_n hx hb dX11_init_224 rfl (lv_at hl 0 rfl) ?_
          replace hWb := hW; replace gq350 := gq35
          replace gq800 := gq80
          refine q_newO E hC hS hW (Nat.le_trans hn0 hz) no_RX11_74 (by decide) (by decide) dX11_init_225 (fun q83 H83 Γ83 zq zs ho hzz gq83 hL hK E hC hS hW => ?_)
          replace hx := E.1; replace hb := E.2.1
          replace g0 := hL _ _ (by decide) g0
          replace gq21 := hL _ _ (by decide) gq21
          replace gq22 := hL _ _ (by decide) gq22
          replace gq25 := hL _ _ (by decide) gq25
          replace gq28 := hL _ _ (by decide) gq28
          replace gq31 := hL _ _ (by decide) gq31
          replace gq35 := hL _ _ (by decide) gq35
          replace gq38 := hL _ _ (by decide) gq38
          replace gq39 := hL _ _ (by decide) gq39
          replace gq42 := hL _ _ (by decide) gq42
          replace gq43 := hL _ _ (by decide) gq43
          replace gq46 := hL _ _ (by decide) gq46
          replace gq49 := hL _ _ (by decide) gq49
          replace gq52 := hL _ _ (by decide) gq52
          replace gq55 := hL _ _ (by decide) gq55
          replace gq58 := hL _ _ (by decide) gq58
          replace gq59 := hL _ _ (by decide) gq59
          replace gq62 := hL _ _ (by decide) gq62
          replace gq65 := hL _ _ (by decide) gq65
          replace gq69 := hL _ _ (by decide) gq69
          replace gq70 := hL _ _ (by decide) gq70
          replace gq73 := hL _ _ (by decide) gq73
          replace gq76 := hL _ _ (by decide) gq76
          replace gq80 := hL _ _ (by decide) gq80
          replace hLf := hLf.al hL; replace hKN := hKN.al hK (by decide); replace hI := hI.al hL hK (by decide)
          replace u2 := u2.al hL hK (by decide) (by decide)
          replace fl := (sI_al (j := X.1.2 4 1) ho (nw_lt hWb gq350 (by decide))).trans fl
          replace hOl := hOl.al ho hz
          replace wz := (sI_al (j := X.1.2 7 4) ho (nw_lt hWb gq800 (by decide))).trans wz
          replace tmo := (sv_al ho (Nat.lt_of_lt_of_le hlt0 hz)).trans tmo
          replace hzq83 : H0.size ≤ q83 := by rw [zq]; exact hz
          replace hz : H0.size ≤ H83.size := by rw [zs]; exact Nat.le_succ_of_le hz
          clear ho hL hK zs zq
          refine lv_dup hx hb dX11_init_228 rfl ?_
          replace hWb := hW
          refine q_goN (q_runIN (As := []) (rest := [.ref q83, .ref h0]) E hAO hS (m_X0_init l X Γ83 H83 n0 hC hW (Nat.le_trans hn0 hz) q83 gq83 ) cw_X0_init cn_RX11_76 rfl rfl hl.1 rfl (show _ ≤ _ from by simp [Value.category]) (by decide) (by decide) (by decide) (by decide) dX11_init_229) E hS hW.2 (fun H84 Γ84 locs84 zq gq hl5 h12 hP hW E hC hS => ?_)
          replace hx := E.1; replace hb := E.2.1
          replace u2 := u2.call hP.2.2 hl5 gq83 (by decide) gq (by decide) (by decide); replace fl := (sI_ol (j := X.1.2 4 1) hP.2.1 (nw_lt hWb gq35 (by decide)) (nek gq35 gq83 (by decide))).trans fl
          replace hOl := hOl.call hP.2.1 hzq83 hz
          replace wz := (sI_ol (j := X.1.2 7 4) hP.2.1 (nw_lt hWb gq80 (by decide)) (nek gq80 gq83 (by decide))).trans wz
          replace tmo := (sv_ol hP.2.1 (Nat.lt_of_lt_of_le hlt0 hz) (nek g0 gq83 (by decide))).trans tmo
          replace g0 := hl5 _ _ (nek g0 gq83 (by decide)) (by decide) g0
          replace gq21 := hl5 _ _ (nek gq21 gq83 (by decide)) (by decide) gq21
          replace gq22 := hl5 _ _ (nek gq22 gq83 (by decide)) (by decide) gq22
          replace gq25 := hl5 _ _ (nek gq25 gq83 (by decide)) (by decide) gq25
          replace gq28 := hl5 _ _ (nek gq28 gq83 (by decide)) (by decide) gq28
          replace gq31 := hl5 _ _ (nek gq31 gq83 (by decide)) (by decide) gq31
          replace gq35 := hl5 _ _ (nek gq35 gq83 (by decide)) (by decide) gq35
          replace gq38 := hl5 _ _ (nek gq38 gq83 (by decide)) (by decide) gq38
          replace gq39 := hl5 _ _ (nek gq39 gq83 (by decide)) (by decide) gq39
          replace gq42 := hl5 _ _ (nek gq42 gq83 (by decide)) (by decide) gq42
          replace gq43 := hl5 _ _ (nek gq43 gq83 (by decide)) (by decide) gq43
          replace gq46 := hl5 _ _ (nek gq46 gq83 (by decide)) (by decide) gq46
          replace gq49 := hl5 _ _ (nek gq49 gq83 (by decide)) (by decide) gq49
          replace gq52 := hl5 _ _ (nek gq52 gq83 (by decide)) (by decide) gq52
          replace gq55 := hl5 _ _ (nek gq55 gq83 (by decide)) (by decide) gq55
          replace gq58 := hl5 _ _ (nek gq58 gq83 (by decide)) (by decide) gq58
          replace gq59 := hl5 _ _ (nek gq59 gq83 (by decide)) (by decide) gq59
          replace gq62 := hl5 _ _ (nek gq62 gq83 (by decide)) (by decide) gq62
          replace gq65 := hl5 _ _ (nek gq65 gq83 (by decide)) (by decide) gq65
          replace gq69 := hl5 _ _ (nek gq69 gq83 (by decide)) (by decide) gq69
          replace gq70 := hl5 _ _ (nek gq70 gq83 (by decide)) (by decide) gq70
          replace gq73 := hl5 _ _ (nek gq73 gq83 (by decide)) (by decide) gq73
          replace gq76 := hl5 _ _ (nek gq76 gq83 (by decide)) (by decide) gq76
          replace gq80 := hl5 _ _ (nek gq80 gq83 (by decide)) (by decide) gq80
          replace hLf := hLf.tr2x hl5 (hW0.1 q83 hzq83) gq83
          replace hz := Nat.le_trans hz zq
          replace hKN := hKN.tr hP.1; replace hI := hI.tr h12
          replace gq83 := gq
          clear zq hl5 h12 hP
          refine q_putN E hin hC hS hW g0 gq83 fn_RX11_77_211 rfl rfl ⟨by decide, by decide⟩ dX11_init_232 (fun H85 locs85 Γ85 zs eo U85 gz hl5 hk5 hE5 E hC hS hW => ?_)
          replace hx := E.1; replace hb := E.2.1
          replace hI := hI.put hl5 hk5 g0 (by decide)
          replace u2 := u2.eq hE5 g0 (by decide) gz (by decide)
          replace fl := (up_nI (a' := q35) (j' := X.1.2 4 1) U85 (fun hh => absurd hh.1 (nek gq35 g0 (by decide)))).trans fl
          replace wz := (up_nI (a' := q80) (j' := X.1.2 7 4) U85 (fun hh => absurd hh.1 (nek gq80 g0 (by decide)))).trans wz
          replace gq21 := hl5 _ _ (nek gq21 g0 (by decide)) (by decide) gq21
          replace gq22 := hl5 _ _ (nek gq22 g0 (by decide)) (by decide) gq22
          replace gq25 := hl5 _ _ (nek gq25 g0 (by decide)) (by decide) gq25
          replace gq28 := hl5 _ _ (nek gq28 g0 (by decide)) (by decide) gq28
          replace gq31 := hl5 _ _ (nek gq31 g0 (by decide)) (by decide) gq31
          replace gq35 := hl5 _ _ (nek gq35 g0 (by decide)) (by decide) gq35
          replace gq38 := hl5 _ _ (nek gq38 g0 (by decide)) (by decide) gq38
          replace gq39 := hl5 _ _ (nek gq39 g0 (by decide)) (by decide) gq39
          replace gq42 := hl5 _ _ (nek gq42 g0 (by decide)) (by decide) gq42
          replace gq43 := hl5 _ _ (nek gq43 g0 (by decide)) (by decide) gq43
          replace gq46 := hl5 _ _ (nek gq46 g0 (by decide)) (by decide) gq46
          replace gq49 := hl5 _ _ (nek gq49 g0 (by decide)) (by decide) gq49
          replace gq52 := hl5 _ _ (nek gq52 g0 (by decide)) (by decide) gq52
          replace gq55 := hl5 _ _ (nek gq55 g0 (by decide)) (by decide) gq55
          replace gq58 := hl5 _ _ (nek gq58 g0 (by decide)) (by decide) gq58
          replace gq59 := hl5 _ _ (nek gq59 g0 (by decide)) (by decide) gq59
          replace gq62 := hl5 _ _ (nek gq62 g0 (by decide)) (by decide) gq62
          replace gq65 := hl5 _ _ (nek gq65 g0 (by decide)) (by decide) gq65
          replace gq69 := hl5 _ _ (nek gq69 g0 (by decide)) (by decide) gq69
          replace gq70 := hl5 _ _ (nek gq70 g0 (by decide)) (by decide) gq70
          replace gq73 := hl5 _ _ (nek gq73 g0 (by decide)) (by decide) gq73
          replace gq76 := hl5 _ _ (nek gq76 g0 (by decide)) (by decide) gq76
          replace gq80 := hl5 _ _ (nek gq80 g0 (by decide)) (by decide) gq80
          replace gq83 := hl5 _ _ (nek gq83 g0 (by decide)) (by decide) gq83
          replace hOl := hOl.put eo
          replace tmo := (U85.2 _ _ (ne_f E 10 12 13 rfl (by decide) (by decide) (by decide))).trans tmo
          replace hLf := hLf.tr hl5; replace hKN := hKN.tr hk5
          replace hz : H0.size ≤ H85.size := by rw [zs]; exact hz
          replace g0 := gz
          clear eo zs hl5 hk5 hE5
          refine lv_aload_n hx hb dX11_init_235 rfl (lv_at hl 0 rfl) ?_
          replace hWb := hW; replace gq350 := gq35
          replace gq800 := gq80
          refine q_newO E hC hS hW (Nat.le_trans hn0 hz) no_RX11_81 (by decide) (by decide) dX11_init_236 (fun q86 H86 Γ86 zq zs ho hzz gq86 hL hK E hC hS hW => ?_)
          replace hx := E.1; replace hb := E.2.1
          replace g0 := hL _ _ (by decide) g0
          replace gq21 := hL _ _ (by decide) gq21
          replace gq22 := hL _ _ (by decide) gq22
          replace gq25 := hL _ _ (by decide) gq25
          replace gq28 := hL _ _ (by decide) gq28
          replace gq31 := hL _ _ (by decide) gq31
          replace gq35 := hL _ _ (by decide) gq35
          replace gq38 := hL _ _ (by decide) gq38
          replace gq39 := hL _ _ (by decide) gq39
          replace gq42 := hL _ _ (by decide) gq42
          replace gq43 := hL _ _ (by decide) gq43
          replace gq46 := hL _ _ (by decide) gq46
          replace gq49 := hL _ _ (by decide) gq49
          replace gq52 := hL _ _ (by decide) gq52
          replace gq55 := hL _ _ (by decide) gq55
          replace gq58 := hL _ _ (by decide) gq58
          replace gq59 := hL _ _ (by decide) gq59
          replace gq62 := hL _ _ (by decide) gq62
          replace gq65 := hL _ _ (by decide) gq65
          replace gq69 := hL _ _ (by decide) gq69
          replace gq70 := hL _ _ (by decide) gq70
          replace gq73 := hL _ _ (by decide) gq73
          replace gq76 := hL _ _ (by decide) gq76
          replace gq80 := hL _ _ (by decide) gq80
          replace gq83 := hL _ _ (by decide) gq83
          replace hLf := hLf.al hL; replace hKN := hKN.al hK (by decide); replace hI := hI.al hL hK (by decide)
          replace u2 := u2.al hL hK (by decide) (by decide)
          replace fl := (sI_al (j := X.1.2 4 1) ho (nw_lt hWb gq350 (by decide))).trans fl
          replace hOl := hOl.al ho hz
          replace wz := (sI_al (j := X.1.2 7 4) ho (nw_lt hWb gq800 (by decide))).trans wz
          replace tmo := (sv_al ho (Nat.lt_of_lt_of_le hlt0 hz)).trans tmo
          replace hzq86 : H0.size ≤ q86 := by rw [zq]; exact hz
          replace hz : H0.size ≤ H86.size := by rw [zs]; exact Nat.le_succ_of_le hz
          clear ho hL hK zs zq
          refine lv_dup hx hb dX11_init_239 rfl ?_
          replace hWb := hW
          refine q_goN (q_runIN (As := []) (rest := [.ref q86, .ref h0]) E hAO hS (m_X1_init l X Γ86 H86 n0 hC hW (Nat.le_trans hn0 hz) q86 gq86 ) cw_X1_init cn_RX11_83 rfl rfl hl.1 rfl (show _ ≤ _ from by simp [Value.category]) (by decide) (by decide) (by decide) (by decide) dX11_init_240) E hS hW.2 (fun H87 Γ87 locs87 zq gq hl5 h12 hP hW E hC hS => ?_)
          replace hx := E.1; replace hb := E.2.1
          replace u2 := u2.call hP.2.2 hl5 gq86 (by decide) gq (by decide) (by decide); replace fl := (sI_ol (j := X.1.2 4 1) hP.2.1 (nw_lt hWb gq35 (by decide)) (nek gq35 gq86 (by decide))).trans fl
          replace hOl := hOl.call hP.2.1 hzq86 hz
          replace wz := (sI_ol (j := X.1.2 7 4) hP.2.1 (nw_lt hWb gq80 (by decide)) (nek gq80 gq86 (by decide))).trans wz
          replace tmo := (sv_ol hP.2.1 (Nat.lt_of_lt_of_le hlt0 hz) (nek g0 gq86 (by decide))).trans tmo
          replace g0 := hl5 _ _ (nek g0 gq86 (by decide)) (by decide) g0
          replace gq21 := hl5 _ _ (nek gq21 gq86 (by decide)) (by decide) gq21
          replace gq22 := hl5 _ _ (nek gq22 gq86 (by decide)) (by decide) gq22
          replace gq25 := hl5 _ _ (nek gq25 gq86 (by decide)) (by decide) gq25
          replace gq28 := hl5 _ _ (nek gq28 gq86 (by decide)) (by decide) gq28
          replace gq31 := hl5 _ _ (nek gq31 gq86 (by decide)) (by decide) gq31
          replace gq35 := hl5 _ _ (nek gq35 gq86 (by decide)) (by decide) gq35
          replace gq38 := hl5 _ _ (nek gq38 gq86 (by decide)) (by decide) gq38
          replace gq39 := hl5 _ _ (nek gq39 gq86 (by decide)) (by decide) gq39
          replace gq42 := hl5 _ _ (nek gq42 gq86 (by decide)) (by decide) gq42
          replace gq43 := hl5 _ _ (nek gq43 gq86 (by decide)) (by decide) gq43
          replace gq46 := hl5 _ _ (nek gq46 gq86 (by decide)) (by decide) gq46
          replace gq49 := hl5 _ _ (nek gq49 gq86 (by decide)) (by decide) gq49
          replace gq52 := hl5 _ _ (nek gq52 gq86 (by decide)) (by decide) gq52
          replace gq55 := hl5 _ _ (nek gq55 gq86 (by decide)) (by decide) gq55
          replace gq58 := hl5 _ _ (nek gq58 gq86 (by decide)) (by decide) gq58
          replace gq59 := hl5 _ _ (nek gq59 gq86 (by decide)) (by decide) gq59
          replace gq62 := hl5 _ _ (nek gq62 gq86 (by decide)) (by decide) gq62
          replace gq65 := hl5 _ _ (nek gq65 gq86 (by decide)) (by decide) gq65
          replace gq69 := hl5 _ _ (nek gq69 gq86 (by decide)) (by decide) gq69
          replace gq70 := hl5 _ _ (nek gq70 gq86 (by decide)) (by decide) gq70
          replace gq73 := hl5 _ _ (nek gq73 gq86 (by decide)) (by decide) gq73
          replace gq76 := hl5 _ _ (nek gq76 gq86 (by decide)) (by decide) gq76
          replace gq80 := hl5 _ _ (nek gq80 gq86 (by decide)) (by decide) gq80
          replace gq83 := hl5 _ _ (nek gq83 gq86 (by decide)) (by decide) gq83
          replace hLf := hLf.tr2x hl5 (hW0.1 q86 hzq86) gq86
          replace hz := Nat.le_trans hz zq
          replace hKN := hKN.tr hP.1; replace hI := hI.tr h12
          replace gq86 := gq
          clear zq hl5 h12 hP
          refine q_putN E hin hC hS hW g0 gq86 fn_RX11_84_212 rfl rfl ⟨by decide, by decide⟩ dX11_init_243 (fun H88 locs88 Γ88 zs eo U88 gz hl5 hk5 hE5 E hC hS hW => ?_)
          replace hx := E.1; replace hb := E.2.1
          replace hI := hI.put hl5 hk5 g0 (by decide)
          replace u2 := u2.eq hE5 g0 (by decide) gz (by decide)
          replace fl := (up_nI (a' := q35) (j' := X.1.2 4 1) U88 (fun hh => absurd hh.1 (nek gq35 g0 (by decide)))).trans fl
          replace wz := (up_nI (a' := q80) (j' := X.1.2 7 4) U88 (fun hh => absurd hh.1 (nek gq80 g0 (by decide)))).trans wz
          replace gq21 := hl5 _ _ (nek gq21 g0 (by decide)) (by decide) gq21
          replace gq22 := hl5 _ _ (nek gq22 g0 (by decide)) (by decide) gq22
          replace gq25 := hl5 _ _ (nek gq25 g0 (by decide)) (by decide) gq25
          replace gq28 := hl5 _ _ (nek gq28 g0 (by decide)) (by decide) gq28
          replace gq31 := hl5 _ _ (nek gq31 g0 (by decide)) (by decide) gq31
          replace gq35 := hl5 _ _ (nek gq35 g0 (by decide)) (by decide) gq35
          replace gq38 := hl5 _ _ (nek gq38 g0 (by decide)) (by decide) gq38
          replace gq39 := hl5 _ _ (nek gq39 g0 (by decide)) (by decide) gq39
          replace gq42 := hl5 _ _ (nek gq42 g0 (by decide)) (by decide) gq42
          replace gq43 := hl5 _ _ (nek gq43 g0 (by decide)) (by decide) gq43
          replace gq46 := hl5 _ _ (nek gq46 g0 (by decide)) (by decide) gq46
          replace gq49 := hl5 _ _ (nek gq49 g0 (by decide)) (by decide) gq49
          replace gq52 := hl5 _ _ (nek gq52 g0 (by decide)) (by decide) gq52
          replace gq55 := hl5 _ _ (nek gq55 g0 (by decide)) (by decide) gq55
          replace gq58 := hl5 _ _ (nek gq58 g0 (by decide)) (by decide) gq58
          replace gq59 := hl5 _ _ (nek gq59 g0 (by decide)) (by decide) gq59
          replace gq62 := hl5 _ _ (nek gq62 g0 (by decide)) (by decide) gq62
          replace gq65 := hl5 _ _ (nek gq65 g0 (by decide)) (by decide) gq65
          replace gq69 := hl5 _ _ (nek gq69 g0 (by decide)) (by decide) gq69
          replace gq70 := hl5 _ _ (nek gq70 g0 (by decide)) (by decide) gq70
          replace gq73 := hl5 _ _ (nek gq73 g0 (by decide)) (by decide) gq73
          replace gq76 := hl5 _ _ (nek gq76 g0 (by decide)) (by decide) gq76
          replace gq80 := hl5 _ _ (nek gq80 g0 (by decide)) (by decide) gq80
          replace gq83 := hl5 _ _ (nek gq83 g0 (by decide)) (by decide) gq83
          replace gq86 := hl5 _ _ (nek gq86 g0 (by decide)) (by decide) gq86
          replace hOl := hOl.put eo
          replace tmo := (U88.2 _ _ (ne_f E 10 12 14 rfl (by decide) (by decide) (by decide))).trans tmo
          replace hLf := hLf.tr hl5; replace hKN := hKN.tr hk5
          replace hz : H0.size ≤ H88.size := by rw [zs]; exact hz
          replace g0 := gz
          clear eo zs hl5 hk5 hE5
          refine lv_aload_n hx hb dX11_init_246 rfl (lv_at hl 0 rfl) ?_
          refine lv_sipush (v := 169) hx hb dX11_init_247 rfl ?_
          replace hWb := hW; replace gq350 := gq35
          replace gq800 := gq80
          refine q_newP E hC hS hW (Nat.le_trans hn0 hz) (r := 23) (t := 3) (N := 169) (ty := .boolean) rfl rfl rfl rfl (fun _ _ h => h) (fun _ => by rfl) w_372 (by decide) (by decide) (by decide) (by decide) (by decide) (by decide) dX11_init_250 (fun q89 H89 Γ89 zq zs ho hcell gq89 hL hK E hC hS hW => ?_)
          replace hx := E.1; replace hb := E.2.1
          replace g0 := hL _ _ (by decide) g0
          replace gq21 := hL _ _ (by decide) gq21
          replace gq22 := hL _ _ (by decide) gq22
          replace gq25 := hL _ _ (by decide) gq25
          replace gq28 := hL _ _ (by decide) gq28
          replace gq31 := hL _ _ (by decide) gq31
          replace gq35 := hL _ _ (by decide) gq35
          replace gq38 := hL _ _ (by decide) gq38
          replace gq39 := hL _ _ (by decide) gq39
          replace gq42 := hL _ _ (by decide) gq42
          replace gq43 := hL _ _ (by decide) gq43
          replace gq46 := hL _ _ (by decide) gq46
          replace gq49 := hL _ _ (by decide) gq49
          replace gq52 := hL _ _ (by decide) gq52
          replace gq55 := hL _ _ (by decide) gq55
          replace gq58 := hL _ _ (by decide) gq58
          replace gq59 := hL _ _ (by decide) gq59
          replace gq62 := hL _ _ (by decide) gq62
          replace gq65 := hL _ _ (by decide) gq65
          replace gq69 := hL _ _ (by decide) gq69
          replace gq70 := hL _ _ (by decide) gq70
          replace gq73 := hL _ _ (by decide) gq73
          replace gq76 := hL _ _ (by decide) gq76
          replace gq80 := hL _ _ (by decide) gq80
          replace gq83 := hL _ _ (by decide) gq83
          replace gq86 := hL _ _ (by decide) gq86
          replace hLf := hLf.al hL; replace hKN := hKN.al hK (by decide); replace hI := hI.al hL hK (by decide)
          replace u2 := u2.al hL hK (by decide) (by decide)
          replace fl := (sI_al (j := X.1.2 4 1) ho (nw_lt hWb gq350 (by decide))).trans fl
          replace hOl := hOl.al ho hz
          replace wz := (sI_al (j := X.1.2 7 4) ho (nw_lt hWb gq800 (by decide))).trans wz
          replace tmo := (sv_al ho (Nat.lt_of_lt_of_le hlt0 hz)).trans tmo
          replace hzq89 : H0.size ≤ q89 := by rw [zq]; exact hz
          replace hz : H0.size ≤ H89.size := by rw [zs]; exact Nat.le_succ_of_le hz
          clear ho hL hK zs zq
          refine q_putN E hin hC hS hW g0 gq89 fn_RX11_88_213 rfl rfl ⟨by decide, by decide⟩ dX11_init_252 (fun H90 locs90 Γ90 zs eo U90 gz hl5 hk5 hE5 E hC hS hW => ?_)
          replace hx := E.1; replace hb := E.2.1
          replace hI := hI.put hl5 hk5 g0 (by decide)
          replace u2 := u2.eq hE5 g0 (by decide) gz (by decide)
          replace fl := (up_nI (a' := q35) (j' := X.1.2 4 1) U90 (fun hh => absurd hh.1 (nek gq35 g0 (by decide)))).trans fl
          replace wz := (up_nI (a' := q80) (j' := X.1.2 7 4) U90 (fun hh => absurd hh.1 (nek gq80 g0 (by decide)))).trans wz
          replace gq21 := hl5 _ _ (nek gq21 g0 (by decide)) (by decide) gq21
          replace gq22 := hl5 _ _ (nek gq22 g0 (by decide)) (by decide) gq22
          replace gq25 := hl5 _ _ (nek gq25 g0 (by decide)) (by decide) gq25
          replace gq28 := hl5 _ _ (nek gq28 g0 (by decide)) (by decide) gq28
          replace gq31 := hl5 _ _ (nek gq31 g0 (by decide)) (by decide) gq31
          replace gq35 := hl5 _ _ (nek gq35 g0 (by decide)) (by decide) gq35
          replace gq38 := hl5 _ _ (nek gq38 g0 (by decide)) (by decide) gq38
          replace gq39 := hl5 _ _ (nek gq39 g0 (by decide)) (by decide) gq39
          replace gq42 := hl5 _ _ (nek gq42 g0 (by decide)) (by decide) gq42
          replace gq43 := hl5 _ _ (nek gq43 g0 (by decide)) (by decide) gq43
          replace gq46 := hl5 _ _ (nek gq46 g0 (by decide)) (by decide) gq46
          replace gq49 := hl5 _ _ (nek gq49 g0 (by decide)) (by decide) gq49
          replace gq52 := hl5 _ _ (nek gq52 g0 (by decide)) (by decide) gq52
          replace gq55 := hl5 _ _ (nek gq55 g0 (by decide)) (by decide) gq55
          replace gq58 := hl5 _ _ (nek gq58 g0 (by decide)) (by decide) gq58
          replace gq59 := hl5 _ _ (nek gq59 g0 (by decide)) (by decide) gq59
          replace gq62 := hl5 _ _ (nek gq62 g0 (by decide)) (by decide) gq62
          replace gq65 := hl5 _ _ (nek gq65 g0 (by decide)) (by decide) gq65
          replace gq69 := hl5 _ _ (nek gq69 g0 (by decide)) (by decide) gq69
          replace gq70 := hl5 _ _ (nek gq70 g0 (by decide)) (by decide) gq70
          replace gq73 := hl5 _ _ (nek gq73 g0 (by decide)) (by decide) gq73
          replace gq76 := hl5 _ _ (nek gq76 g0 (by decide)) (by decide) gq76
          replace gq80 := hl5 _ _ (nek gq80 g0 (by decide)) (by decide) gq80
          replace gq83 := hl5 _ _ (nek gq83 g0 (by decide)) (by decide) gq83
          replace gq86 := hl5 _ _ (nek gq86 g0 (by decide)) (by decide) gq86
          replace gq89 := hl5 _ _ (nek gq89 g0 (by decide)) (by decide) gq89
          replace hOl := hOl.put eo
          replace tmo := (U90.2 _ _ (ne_f E 10 12 15 rfl (by decide) (by decide) (by decide))).trans tmo
          replace hLf := hLf.tr hl5; replace hKN := hKN.tr hk5
          replace hz : H0.size ≤ H90.size := by rw [zs]; exact hz
          replace g0 := gz
          clear eo zs hl5 hk5 hE5
          refine lv_aload_n hx hb dX11_init_255 rfl (lv_at hl 0 rfl) ?_
          as_aux_lemma =>
            replace hWb := hW; replace gq350 := gq35
            replace gq800 := gq80
            refine q_newO E hC hS hW (Nat.le_trans hn0 hz) no_RX11_92 (by decide) (by decide) dX11_init_256 (fun q91 H91 Γ91 zq zs ho hzz gq91 hL hK E hC hS hW => ?_)
            replace hx := E.1; replace hb := E.2.1
            replace g0 := hL _ _ (by decide) g0
            replace gq21 := hL _ _ (by decide) gq21
            replace gq22 := hL _ _ (by decide) gq22
            replace gq25 := hL _ _ (by decide) gq25
            replace gq28 := hL _ _ (by decide) gq28
            replace gq31 := hL _ _ (by decide) gq31
            replace gq35 := hL _ _ (by decide) gq35
            replace gq38 := hL _ _ (by decide) gq38
            replace gq39 := hL _ _ (by decide) gq39
            replace gq42 := hL _ _ (by decide) gq42
            replace gq43 := hL _ _ (by decide) gq43
            replace gq46 := hL _ _ (by decide) gq46
            replace gq49 := hL _ _ (by decide) gq49
            replace gq52 := hL _ _ (by decide) gq52
            replace gq55 := hL _ _ (by decide) gq55
            replace gq58 := hL _ _ (by decide) gq58
            replace gq59 := hL _ _ (by decide) gq59
            replace gq62 := hL _ _ (by decide) gq62
            replace gq65 := hL _ _ (by decide) gq65
            replace gq69 := hL _ _ (by decide) gq69
            replace gq70 := hL _ _ (by decide) gq70
            replace gq73 := hL _ _ (by decide) gq73
            replace gq76 := hL _ _ (by decide) gq76
            replace gq80 := hL _ _ (by decide) gq80
            replace gq83 := hL _ _ (by decide) gq83
            replace gq86 := hL _ _ (by decide) gq86
            replace gq89 := hL _ _ (by decide) gq89
            replace hLf := hLf.al hL; replace hKN := hKN.al hK (by decide); replace hI := hI.al hL hK (by decide)
            replace u2 := u2.al hL hK (by decide) (by decide)
            replace fl := (sI_al (j := X.1.2 4 1) ho (nw_lt hWb gq350 (by decide))).trans fl
            replace hOl := hOl.al ho hz
            replace wz := (sI_al (j := X.1.2 7 4) ho (nw_lt hWb gq800 (by decide))).trans wz
            replace tmo := (sv_al ho (Nat.lt_of_lt_of_le hlt0 hz)).trans tmo
            replace hzq91 : H0.size ≤ q91 := by rw [zq]; exact hz
            replace hz : H0.size ≤ H91.size := by rw [zs]; exact Nat.le_succ_of_le hz
            clear ho hL hK zs zq
            refine lv_dup hx hb dX11_init_259 rfl ?_
            replace hWb := hW
            refine q_goN (q_runIN (As := []) (rest := [.ref q91, .ref h0]) E hAO hS (m_X5_init l X Γ91 H91 n0 hC hW (Nat.le_trans hn0 hz) q91 gq91 ) cw_X5_init cn_RX11_94 rfl rfl hl.1 rfl (show _ ≤ _ from by simp [Value.category]) (by decide) (by decide) (by decide) (by decide) dX11_init_260) E hS hW.2 (fun H92 Γ92 locs92 zq gq hl5 h12 hP hW E hC hS => ?_)
            replace hx := E.1; replace hb := E.2.1
            replace u2 := u2.call hP.2.2 hl5 gq91 (by decide) gq (by decide) (by decide); replace fl := (sI_ol (j := X.1.2 4 1) hP.2.1 (nw_lt hWb gq35 (by decide)) (nek gq35 gq91 (by decide))).trans fl
            replace hOl := hOl.call hP.2.1 hzq91 hz
            replace wz := (sI_ol (j := X.1.2 7 4) hP.2.1 (nw_lt hWb gq80 (by decide)) (nek gq80 gq91 (by decide))).trans wz
            replace tmo := (sv_ol hP.2.1 (Nat.lt_of_lt_of_le hlt0 hz) (nek g0 gq91 (by decide))).trans tmo
            replace g0 := hl5 _ _ (nek g0 gq91 (by decide)) (by decide) g0
            replace gq21 := hl5 _ _ (nek gq21 gq91 (by decide)) (by decide) gq21
            replace gq22 := hl5 _ _ (nek gq22 gq91 (by decide)) (by decide) gq22
            replace gq25 := hl5 _ _ (nek gq25 gq91 (by decide)) (by decide) gq25
            replace gq28 := hl5 _ _ (nek gq28 gq91 (by decide)) (by decide) gq28
            replace gq31 := hl5 _ _ (nek gq31 gq91 (by decide)) (by decide) gq31
            replace gq35 := hl5 _ _ (nek gq35 gq91 (by decide)) (by decide) gq35
            replace gq38 := hl5 _ _ (nek gq38 gq91 (by decide)) (by decide) gq38
            replace gq39 := hl5 _ _ (nek gq39 gq91 (by decide)) (by decide) gq39
            replace gq42 := hl5 _ _ (nek gq42 gq91 (by decide)) (by decide) gq42
            replace gq43 := hl5 _ _ (nek gq43 gq91 (by decide)) (by decide) gq43
            replace gq46 := hl5 _ _ (nek gq46 gq91 (by decide)) (by decide) gq46
            replace gq49 := hl5 _ _ (nek gq49 gq91 (by decide)) (by decide) gq49
            replace gq52 := hl5 _ _ (nek gq52 gq91 (by decide)) (by decide) gq52
            replace gq55 := hl5 _ _ (nek gq55 gq91 (by decide)) (by decide) gq55
            replace gq58 := hl5 _ _ (nek gq58 gq91 (by decide)) (by decide) gq58
            replace gq59 := hl5 _ _ (nek gq59 gq91 (by decide)) (by decide) gq59
            replace gq62 := hl5 _ _ (nek gq62 gq91 (by decide)) (by decide) gq62
            replace gq65 := hl5 _ _ (nek gq65 gq91 (by decide)) (by decide) gq65
            replace gq69 := hl5 _ _ (nek gq69 gq91 (by decide)) (by decide) gq69
            replace gq70 := hl5 _ _ (nek gq70 gq91 (by decide)) (by decide) gq70
            replace gq73 := hl5 _ _ (nek gq73 gq91 (by decide)) (by decide) gq73
            replace gq76 := hl5 _ _ (nek gq76 gq91 (by decide)) (by decide) gq76
            replace gq80 := hl5 _ _ (nek gq80 gq91 (by decide)) (by decide) gq80
            replace gq83 := hl5 _ _ (nek gq83 gq91 (by decide)) (by decide) gq83
            replace gq86 := hl5 _ _ (nek gq86 gq91 (by decide)) (by decide) gq86
            replace gq89 := hl5 _ _ (nek gq89 gq91 (by decide)) (by decide) gq89
            replace hLf := hLf.tr2x hl5 (hW0.1 q91 hzq91) gq91
            replace hz := Nat.le_trans hz zq
            replace hKN := hKN.tr hP.1; replace hI := hI.tr h12
            replace gq91 := gq
            clear zq hl5 h12 hP
            refine q_putN E hin hC hS hW g0 gq91 fn_RX11_95_214 rfl rfl ⟨by decide, by decide⟩ dX11_init_263 (fun H93 locs93 Γ93 zs eo U93 gz hl5 hk5 hE5 E hC hS hW => ?_)
            replace hx := E.1; replace hb := E.2.1
            replace hI := hI.put hl5 hk5 g0 (by decide)
            replace u2 := u2.eq hE5 g0 (by decide) gz (by decide)
            replace fl := (up_nI (a' := q35) (j' := X.1.2 4 1) U93 (fun hh => absurd hh.1 (nek gq35 g0 (by decide)))).trans fl
            replace wz := (up_nI (a' := q80) (j' := X.1.2 7 4) U93 (fun hh => absurd hh.1 (nek gq80 g0 (by decide)))).trans wz
            replace gq21 := hl5 _ _ (nek gq21 g0 (by decide)) (by decide) gq21
            replace gq22 := hl5 _ _ (nek gq22 g0 (by decide)) (by decide) gq22
            replace gq25 := hl5 _ _ (nek gq25 g0 (by decide)) (by decide) gq25
            replace gq28 := hl5 _ _ (nek gq28 g0 (by decide)) (by decide) gq28
            replace gq31 := hl5 _ _ (nek gq31 g0 (by decide)) (by decide) gq31
            replace gq35 := hl5 _ _ (nek gq35 g0 (by decide)) (by decide) gq35
            replace gq38 := hl5 _ _ (nek gq38 g0 (by decide)) (by decide) gq38
            replace gq39 := hl5 _ _ (nek gq39 g0 (by decide)) (by decide) gq39
            replace gq42 := hl5 _ _ (nek gq42 g0 (by decide)) (by decide) gq42
            replace gq43 := hl5 _ _ (nek gq43 g0 (by decide)) (by decide) gq43
            replace gq46 := hl5 _ _ (nek gq46 g0 (by decide)) (by decide) gq46
            replace gq49 := hl5 _ _ (nek gq49 g0 (by decide)) (by decide) gq49
            replace gq52 := hl5 _ _ (nek gq52 g0 (by decide)) (by decide) gq52
            replace gq55 := hl5 _ _ (nek gq55 g0 (by decide)) (by decide) gq55
            replace gq58 := hl5 _ _ (nek gq58 g0 (by decide)) (by decide) gq58
            replace gq59 := hl5 _ _ (nek gq59 g0 (by decide)) (by decide) gq59
            replace gq62 := hl5 _ _ (nek gq62 g0 (by decide)) (by decide) gq62
            replace gq65 := hl5 _ _ (nek gq65 g0 (by decide)) (by decide) gq65
            replace gq69 := hl5 _ _ (nek gq69 g0 (by decide)) (by decide) gq69
            replace gq70 := hl5 _ _ (nek gq70 g0 (by decide)) (by decide) gq70
            replace gq73 := hl5 _ _ (nek gq73 g0 (by decide)) (by decide) gq73
            replace gq76 := hl5 _ _ (nek gq76 g0 (by decide)) (by decide) gq76
            replace gq80 := hl5 _ _ (nek gq80 g0 (by decide)) (by decide) gq80
            replace gq83 := hl5 _ _ (nek gq83 g0 (by decide)) (by decide) gq83
            replace gq86 := hl5 _ _ (nek gq86 g0 (by decide)) (by decide) gq86
            replace gq89 := hl5 _ _ (nek gq89 g0 (by decide)) (by decide) gq89
            replace gq91 := hl5 _ _ (nek gq91 g0 (by decide)) (by decide) gq91
            replace hOl := hOl.put eo
            replace tmo := (U93.2 _ _ (ne_f E 10 12 16 rfl (by decide) (by decide) (by decide))).trans tmo
            replace hLf := hLf.tr hl5; replace hKN := hKN.tr hk5
            replace hz : H0.size ≤ H93.size := by rw [zs]; exact hz
            replace g0 := gz
            clear eo zs hl5 hk5 hE5
            refine lv_aload_n hx hb dX11_init_266 rfl (lv_at hl 0 rfl) ?_
            replace hWb := hW; replace gq350 := gq35
            replace gq800 := gq80
            refine q_newO E hC hS hW (Nat.le_trans hn0 hz) no_RX11_92 (by decide) (by decide) dX11_init_267 (fun q94 H94 Γ94 zq zs ho hzz gq94 hL hK E hC hS hW => ?_)
            replace hx := E.1; replace hb := E.2.1
            replace g0 := hL _ _ (by decide) g0
            replace gq21 := hL _ _ (by decide) gq21
            replace gq22 := hL _ _ (by decide) gq22
            replace gq25 := hL _ _ (by decide) gq25
            replace gq28 := hL _ _ (by decide) gq28
            replace gq31 := hL _ _ (by decide) gq31
            replace gq35 := hL _ _ (by decide) gq35
            replace gq38 := hL _ _ (by decide) gq38
            replace gq39 := hL _ _ (by decide) gq39
            replace gq42 := hL _ _ (by decide) gq42
            replace gq43 := hL _ _ (by decide) gq43
            replace gq46 := hL _ _ (by decide) gq46
            replace gq49 := hL _ _ (by decide) gq49
            replace gq52 := hL _ _ (by decide) gq52
            replace gq55 := hL _ _ (by decide) gq55
            replace gq58 := hL _ _ (by decide) gq58
            replace gq59 := hL _ _ (by decide) gq59
            replace gq62 := hL _ _ (by decide) gq62
            replace gq65 := hL _ _ (by decide) gq65
            replace gq69 := hL _ _ (by decide) gq69
            replace gq70 := hL _ _ (by decide) gq70
            replace gq73 := hL _ _ (by decide) gq73
            replace gq76 := hL _ _ (by decide) gq76
            replace gq80 := hL _ _ (by decide) gq80
            replace gq83 := hL _ _ (by decide) gq83
            replace gq86 := hL _ _ (by decide) gq86
            replace gq89 := hL _ _ (by decide) gq89
            replace gq91 := hL _ _ (by decide) gq91
            replace hLf := hLf.al hL; replace hKN := hKN.al hK (by decide); replace hI := hI.al hL hK (by decide)
            replace u2 := u2.al hL hK (by decide) (by decide)
            replace fl := (sI_al (j := X.1.2 4 1) ho (nw_lt hWb gq350 (by decide))).trans fl
            replace hOl := hOl.al ho hz
            replace wz := (sI_al (j := X.1.2 7 4) ho (nw_lt hWb gq800 (by decide))).trans wz
            replace tmo := (sv_al ho (Nat.lt_of_lt_of_le hlt0 hz)).trans tmo
            replace hzq94 : H0.size ≤ q94 := by rw [zq]; exact hz
            replace hz : H0.size ≤ H94.size := by rw [zs]; exact Nat.le_succ_of_le hz
            clear ho hL hK zs zq
            refine lv_dup hx hb dX11_init_270 rfl ?_
            replace hWb := hW
            refine q_goN (q_runIN (As := []) (rest := [.ref q94, .ref h0]) E hAO hS (m_X5_init l X Γ94 H94 n0 hC hW (Nat.le_trans hn0 hz) q94 gq94 ) cw_X5_init cn_RX11_94 rfl rfl hl.1 rfl (show _ ≤ _ from by simp [Value.category]) (by decide) (by decide) (by decide) (by decide) dX11_init_271) E hS hW.2 (fun H95 Γ95 locs95 zq gq hl5 h12 hP hW E hC hS => ?_)
            replace hx := E.1; replace hb := E.2.1
            replace u2 := u2.call hP.2.2 hl5 gq94 (by decide) gq (by decide) (by decide); replace fl := (sI_ol (j := X.1.2 4 1) hP.2.1 (nw_lt hWb gq35 (by decide)) (nek gq35 gq94 (by decide))).trans fl
            replace hOl := hOl.call hP.2.1 hzq94 hz
            replace wz := (sI_ol (j := X.1.2 7 4) hP.2.1 (nw_lt hWb gq80 (by decide)) (nek gq80 gq94 (by decide))).trans wz
            replace tmo := (sv_ol hP.2.1 (Nat.lt_of_lt_of_le hlt0 hz) (nek g0 gq94 (by decide))).trans tmo
            replace g0 := hl5 _ _ (nek g0 gq94 (by decide)) (by decide) g0
            replace gq21 := hl5 _ _ (nek gq21 gq94 (by decide)) (by decide) gq21
            replace gq22 := hl5 _ _ (nek gq22 gq94 (by decide)) (by decide) gq22
            replace gq25 := hl5 _ _ (nek gq25 gq94 (by decide)) (by decide) gq25
            replace gq28 := hl5 _ _ (nek gq28 gq94 (by decide)) (by decide) gq28
            replace gq31 := hl5 _ _ (nek gq31 gq94 (by decide)) (by decide) gq31
            replace gq35 := hl5 _ _ (nek gq35 gq94 (by decide)) (by decide) gq35
            replace gq38 := hl5 _ _ (nek gq38 gq94 (by decide)) (by decide) gq38
            replace gq39 := hl5 _ _ (nek gq39 gq94 (by decide)) (by decide) gq39
            replace gq42 := hl5 _ _ (nek gq42 gq94 (by decide)) (by decide) gq42
            replace gq43 := hl5 _ _ (nek gq43 gq94 (by decide)) (by decide) gq43
            replace gq46 := hl5 _ _ (nek gq46 gq94 (by decide)) (by decide) gq46
            replace gq49 := hl5 _ _ (nek gq49 gq94 (by decide)) (by decide) gq49
            replace gq52 := hl5 _ _ (nek gq52 gq94 (by decide)) (by decide) gq52
            replace gq55 := hl5 _ _ (nek gq55 gq94 (by decide)) (by decide) gq55
            replace gq58 := hl5 _ _ (nek gq58 gq94 (by decide)) (by decide) gq58
            replace gq59 := hl5 _ _ (nek gq59 gq94 (by decide)) (by decide) gq59
            replace gq62 := hl5 _ _ (nek gq62 gq94 (by decide)) (by decide) gq62
            replace gq65 := hl5 _ _ (nek gq65 gq94 (by decide)) (by decide) gq65
            replace gq69 := hl5 _ _ (nek gq69 gq94 (by decide)) (by decide) gq69
            replace gq70 := hl5 _ _ (nek gq70 gq94 (by decide)) (by decide) gq70
            replace gq73 := hl5 _ _ (nek gq73 gq94 (by decide)) (by decide) gq73
            replace gq76 := hl5 _ _ (nek gq76 gq94 (by decide)) (by decide) gq76
            replace gq80 := hl5 _ _ (nek gq80 gq94 (by decide)) (by decide) gq80
            replace gq83 := hl5 _ _ (nek gq83 gq94 (by decide)) (by decide) gq83
            replace gq86 := hl5 _ _ (nek gq86 gq94 (by decide)) (by decide) gq86
            replace gq89 := hl5 _ _ (nek gq89 gq94 (by decide)) (by decide) gq89
            replace gq91 := hl5 _ _ (nek gq91 gq94 (by decide)) (by decide) gq91
            replace hLf := hLf.tr2x hl5 (hW0.1 q94 hzq94) gq94
            replace hz := Nat.le_trans hz zq
            replace hKN := hKN.tr hP.1; replace hI := hI.tr h12
            replace gq94 := gq
            clear zq hl5 h12 hP
            refine q_putN E hin hC hS hW g0 gq94 fn_RX11_99_215 rfl rfl ⟨by decide, by decide⟩ dX11_init_274 (fun H96 locs96 Γ96 zs eo U96 gz hl5 hk5 hE5 E hC hS hW => ?_)
            replace hx := E.1; replace hb := E.2.1
            replace hI := hI.put hl5 hk5 g0 (by decide)
            replace u2 := u2.eq hE5 g0 (by decide) gz (by decide)
            replace fl := (up_nI (a' := q35) (j' := X.1.2 4 1) U96 (fun hh => absurd hh.1 (nek gq35 g0 (by decide)))).trans fl
            replace wz := (up_nI (a' := q80) (j' := X.1.2 7 4) U96 (fun hh => absurd hh.1 (nek gq80 g0 (by decide)))).trans wz
            replace gq21 := hl5 _ _ (nek gq21 g0 (by decide)) (by decide) gq21
            replace gq22 := hl5 _ _ (nek gq22 g0 (by decide)) (by decide) gq22
            replace gq25 := hl5 _ _ (nek gq25 g0 (by decide)) (by decide) gq25
            replace gq28 := hl5 _ _ (nek gq28 g0 (by decide)) (by decide) gq28
            replace gq31 := hl5 _ _ (nek gq31 g0 (by decide)) (by decide) gq31
            replace gq35 := hl5 _ _ (nek gq35 g0 (by decide)) (by decide) gq35
            replace gq38 := hl5 _ _ (nek gq38 g0 (by decide)) (by decide) gq38
            replace gq39 := hl5 _ _ (nek gq39 g0 (by decide)) (by decide) gq39
            replace gq42 := hl5 _ _ (nek gq42 g0 (by decide)) (by decide) gq42
            replace gq43 := hl5 _ _ (nek gq43 g0 (by decide)) (by decide) gq43
            replace gq46 := hl5 _ _ (nek gq46 g0 (by decide)) (by decide) gq46
            replace gq49 := hl5 _ _ (nek gq49 g0 (by decide)) (by decide) gq49
            replace gq52 := hl5 _ _ (nek gq52 g0 (by decide)) (by decide) gq52
            replace gq55 := hl5 _ _ (nek gq55 g0 (by decide)) (by decide) gq55
            replace gq58 := hl5 _ _ (nek gq58 g0 (by decide)) (by decide) gq58
            replace gq59 := hl5 _ _ (nek gq59 g0 (by decide)) (by decide) gq59
            replace gq62 := hl5 _ _ (nek gq62 g0 (by decide)) (by decide) gq62
            replace gq65 := hl5 _ _ (nek gq65 g0 (by decide)) (by decide) gq65
            replace gq69 := hl5 _ _ (nek gq69 g0 (by decide)) (by decide) gq69
            replace gq70 := hl5 _ _ (nek gq70 g0 (by decide)) (by decide) gq70
            replace gq73 := hl5 _ _ (nek gq73 g0 (by decide)) (by decide) gq73
            replace gq76 := hl5 _ _ (nek gq76 g0 (by decide)) (by decide) gq76
            replace gq80 := hl5 _ _ (nek gq80 g0 (by decide)) (by decide) gq80
            replace gq83 := hl5 _ _ (nek gq83 g0 (by decide)) (by decide) gq83
            replace gq86 := hl5 _ _ (nek gq86 g0 (by decide)) (by decide) gq86
            replace gq89 := hl5 _ _ (nek gq89 g0 (by decide)) (by decide) gq89
            replace gq91 := hl5 _ _ (nek gq91 g0 (by decide)) (by decide) gq91
            replace gq94 := hl5 _ _ (nek gq94 g0 (by decide)) (by decide) gq94
            replace hOl := hOl.put eo
            replace tmo := (U96.2 _ _ (ne_f E 10 12 17 rfl (by decide) (by decide) (by decide))).trans tmo
            replace hLf := hLf.tr hl5; replace hKN := hKN.tr hk5
            replace hz : H0.size ≤ H96.size := by rw [zs]; exact hz
            replace g0 := gz
            clear eo zs hl5 hk5 hE5
            exact ret H96 Γ96 _ _ _ dX11_init_277 g0 hLf hW hI ⟨hKN, hOl, ⟨q35, u2, fl⟩, ⟨q80, tmo, wz⟩⟩ hC hS
