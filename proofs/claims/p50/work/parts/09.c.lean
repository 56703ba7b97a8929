set_option maxRecDepth 100000 in
set_option maxHeartbeats 4000000 in
theorem m_X6_init (l : Launch) (X : xW) (Γ : Nat → Option Nat) (H0 : Heap) (n0 : Nat) (hC0 : Conf X Γ H0) (hW0 : NwG Γ n0 H0) (hn0 : n0 ≤ H0.size) (h0 : Nat) (g0 : Γ h0 = some 230)  : CtrN l X Γ n0 yX6_init cX6_init 1 1 1 60 [.ref h0] H0 h0 1 (fun H1 Γ1 => KN Γ Γ1 ∧ Ol h0 H0 H1 ∧ KNb h0 2 Γ Γ1) := by
  refine q_enterN (own := "SnowForts$Tray") (by decide) rfl rfl (Nat.le_of_ble_eq_true rfl) hW0.2 ?_
  intro p e s m args below meth c ls Qz E hAO hin hl ret hS
  have hx := E.1; have hb := E.2.1; have hC := hC0; have hW := hW0
  have hl : lv_has ls 1 [(0, .ref h0)] := hl
  have hLf : Lf h0 Γ Γ := Lf.rf; have hKN : KN Γ Γ := KN.rf; have hI : I12 Γ Γ := I12.rf
  have hlt0 : h0 < H0.size := nw_lt hW0 g0 (by decide); have hz : H0.size ≤ H0.size := Nat.le_refl _
  have hKb : KNb h0 2 Γ Γ := KNb.rf
  have hOl : Ol h0 H0 H0 := Ol.rf
  refine lv_aload_n hx hb dX6_init_0 rfl (lv_at hl 0 rfl) ?_
  refine W.objInit hx hb E.2.2.2.1 (E.2.2.2.2.1 _ w_35) (E.2.2.2.2.1 _ w_27) (E.2.2.2.2.1 _ w_28) rfl (hl.1.trans E.2.2.1.symm) rfl dX6_init_1 (by decide) (Nat.le_trans (Nat.add_le_add_right (lv_room (Nat.zero_le _)) 12) (by decide)) ?_
  refine lv_aload_n hx hb dX6_init_4 rfl (lv_at hl 0 rfl) ?_
  refine lv_bipush (v := 60) hx hb dX6_init_5 rfl ?_
  refine q_newP E hC hS hW (Nat.le_trans hn0 hz) (r := 24) (t := 2) (N := 60) (ty := .long) rfl rfl rfl rfl (fun _ _ h => h) (fun _ => by rfl) w_45 (by decide) (by decide) (by decide) (by decide) (by decide) (by decide) dX6_init_7 (fun q21 H21 Γ21 zq zs ho hcell gq21 hL hK E hC hS hW => ?_)
  replace hx := E.1; replace hb := E.2.1
  replace g0 := hL _ _ (by decide) g0
  replace hLf := hLf.al hL; replace hKN := hKN.al hK (by decide); replace hI := hI.al hL hK (by decide)
  replace hKb := hKb.al hK (by decide)
  replace hOl := hOl.al ho hz
  replace hzq21 : H0.size ≤ q21 := by rw [zq]; exact hz
  replace hz : H0.size ≤ H21.size := by rw [zs]; exact Nat.le_succ_of_le hz
  refine q_putN E hin hC hS hW g0 gq21 fn_RX6_9_230 rfl rfl ⟨by decide, by decide⟩ dX6_init_9 (fun H22 locs22 Γ22 zs eo U22 gz hl5 hk5 hE5 E hC hS hW => ?_)
  replace hx := E.1; replace hb := E.2.1
  replace hI := hI.put hl5 hk5 g0 (by decide)
  replace hKb := hKb.put hE5
  replace gq21 := hl5 _ _ (nek gq21 g0 (by decide)) (by decide) gq21
  replace hOl := hOl.put eo
  replace hLf := hLf.tr hl5; replace hKN := hKN.tr hk5
  replace hz : H0.size ≤ H22.size := by rw [zs]; exact hz
  replace g0 := gz
  refine lv_aload_n hx hb dX6_init_12 rfl (lv_at hl 0 rfl) ?_
  refine lv_iconst (v := (-1)) hx hb dX6_init_13 rfl ?_
  refine q_putZ E hC hS g0 fpz_RX6_15_1 (tv_I (show ((-1) : Int32).toInt = (-1) from by decide) (by decide) (by decide)) rfl rfl dX6_init_14 (fun H23 locs23 zs eo hC hS U23 => ?_)
  replace hOl := hOl.put eo
  replace hW := hW.up (Nat.le_of_eq zs.symm)
  replace hz : H0.size ≤ H23.size := by rw [zs]; exact hz
  exact ret H23 Γ22 _ _ _ dX6_init_17 g0 hLf hW hI ⟨hKN, hOl, hKb⟩ hC hS
set_option maxRecDepth 100000 in
set_option maxHeartbeats 4000000 in
theorem m_X4_init (l : Launch) (X : xW) (Γ : Nat → Option Nat) (H0 : Heap) (n0 : Nat) (hC0 : Conf X Γ H0) (hW0 : NwG Γ n0 H0) (hn0 : n0 ≤ H0.size) (h0 : Nat) (g0 : Γ h0 = some 260)  (fl : sI H0 h0 (X.1.2 4 1) = 0) : CtrN l X Γ n0 yX4_init cX4_init 1 1 5 4504 [.ref h0] H0 h0 2 (fun H1 Γ1 => KN Γ Γ1 ∧ Ol h0 H0 H1 ∧ KNb h0 2 Γ Γ1 ∧ sI H1 h0 (X.1.2 4 1) = 0) := by
  refine q_enterN (own := "SnowForts$Reader") (by decide) rfl rfl (Nat.le_of_ble_eq_true rfl) hW0.2 ?_
  intro p e s m args below meth c ls Qz E hAO hin hl ret hS
  have hx := E.1; have hb := E.2.1; have hC := hC0; have hW := hW0
  have hl : lv_has ls 1 [(0, .ref h0)] := hl
  have hLf : Lf h0 Γ Γ := Lf.rf; have hKN : KN Γ Γ := KN.rf; have hI : I12 Γ Γ := I12.rf
  have hlt0 : h0 < H0.size := nw_lt hW0 g0 (by decide); have hz : H0.size ≤ H0.size := Nat.le_refl _
  have hKb : KNb h0 2 Γ Γ := KNb.rf
  have hOl : Ol h0 H0 H0 := Ol.rf
  refine lv_aload_n hx hb dX4_init_0 rfl (lv_at hl 0 rfl) ?_
  refine W.objInit hx hb E.2.2.2.1 (E.2.2.2.2.1 _ w_51) (E.2.2.2.2.1 _ w_27) (E.2.2.2.2.1 _ w_28) rfl (hl.1.trans E.2.2.1.symm) rfl dX4_init_1 (by decide) (Nat.le_trans (Nat.add_le_add_right (lv_room (Nat.zero_le _)) 12) (by decide)) ?_
  refine lv_aload_n hx hb dX4_init_4 rfl (lv_at hl 0 rfl) ?_
  refine lv_sipush (v := 900) hx hb dX4_init_5 rfl ?_
  refine q_newP E hC hS hW (Nat.le_trans hn0 hz) (r := 25) (t := 0) (N := 900) (ty := .byte) rfl rfl rfl rfl (fun _ _ h => h) (fun _ => by rfl) w_118 (by decide) (by decide) (by decide) (by decide) (by decide) (by decide) dX4_init_8 (fun q21 H21 Γ21 zq zs ho hcell gq21 hL hK E hC hS hW => ?_)
  replace hx := E.1; replace hb := E.2.1
  replace g0 := hL _ _ (by decide) g0
  replace hLf := hLf.al hL; replace hKN := hKN.al hK (by decide); replace hI := hI.al hL hK (by decide)
  replace hKb := hKb.al hK (by decide)
  replace fl := (sI_al (j := X.1.2 4 1) ho (Nat.lt_of_lt_of_le hlt0 hz)).trans fl
  replace hOl := hOl.al ho hz
  replace hzq21 : H0.size ≤ q21 := by rw [zq]; exact hz
  replace hz : H0.size ≤ H21.size := by rw [zs]; exact Nat.le_succ_of_le hz
  refine q_putN E hin hC hS hW g0 gq21 fn_RX4_9_260 rfl rfl ⟨by decide, by decide⟩ dX4_init_10 (fun H22 locs22 Γ22 zs eo U22 gz hl5 hk5 hE5 E hC hS hW => ?_)
  replace hx := E.1; replace hb := E.2.1
  replace hI := hI.put hl5 hk5 g0 (by decide)
  replace hKb := hKb.put hE5
  replace fl := (up_nI U22 (ne_f E 4 1 0 rfl (by decide) (by decide) (by decide))).trans fl
  replace gq21 := hl5 _ _ (nek gq21 g0 (by decide)) (by decide) gq21
  replace hOl := hOl.put eo
  replace hLf := hLf.tr hl5; replace hKN := hKN.tr hk5
  replace hz : H0.size ≤ H22.size := by rw [zs]; exact hz
  replace g0 := gz
  refine lv_aload_n hx hb dX4_init_13 rfl (lv_at hl 0 rfl) ?_
  refine lv_sipush (v := 901) hx hb dX4_init_14 rfl ?_
  refine q_newP E hC hS hW (Nat.le_trans hn0 hz) (r := 26) (t := 1) (N := 901) (ty := .int) rfl rfl rfl rfl (fun _ _ h => h) (fun _ => by rfl) w_119 (by decide) (by decide) (by decide) (by decide) (by decide) (by decide) dX4_init_17 (fun q23 H23 Γ23 zq zs ho hcell gq23 hL hK E hC hS hW => ?_)
  replace hx := E.1; replace hb := E.2.1
  replace g0 := hL _ _ (by decide) g0
  replace gq21 := hL _ _ (by decide) gq21
  replace hLf := hLf.al hL; replace hKN := hKN.al hK (by decide); replace hI := hI.al hL hK (by decide)
  replace hKb := hKb.al hK (by decide)
  replace fl := (sI_al (j := X.1.2 4 1) ho (Nat.lt_of_lt_of_le hlt0 hz)).trans fl
  replace hOl := hOl.al ho hz
  replace hzq23 : H0.size ≤ q23 := by rw [zq]; exact hz
  replace hz : H0.size ≤ H23.size := by rw [zs]; exact Nat.le_succ_of_le hz
  refine q_putN E hin hC hS hW g0 gq23 fn_RX4_15_261 rfl rfl ⟨by decide, by decide⟩ dX4_init_19 (fun H24 locs24 Γ24 zs eo U24 gz hl5 hk5 hE5 E hC hS hW => ?_)
  replace hx := E.1; replace hb := E.2.1
  replace hI := hI.put hl5 hk5 g0 (by decide)
  replace hKb := hKb.put hE5
  replace fl := (up_nI U24 (ne_f E 4 1 2 rfl (by decide) (by decide) (by decide))).trans fl
  replace gq21 := hl5 _ _ (nek gq21 g0 (by decide)) (by decide) gq21
  replace gq23 := hl5 _ _ (nek gq23 g0 (by decide)) (by decide) gq23
  replace hOl := hOl.put eo
  replace hLf := hLf.tr hl5; replace hKN := hKN.tr hk5
  replace hz : H0.size ≤ H24.size := by rw [zs]; exact hz
  replace g0 := gz
  refine lv_aload_n hx hb dX4_init_22 rfl (lv_at hl 0 rfl) ?_
  refine lv_sipush (v := 901) hx hb dX4_init_23 rfl ?_
  refine q_newP E hC hS hW (Nat.le_trans hn0 hz) (r := 27) (t := 1) (N := 901) (ty := .int) rfl rfl rfl rfl (fun _ _ h => h) (fun _ => by rfl) w_119 (by decide) (by decide) (by decide) (by decide) (by decide) (by decide) dX4_init_26 (fun q25 H25 Γ25 zq zs ho hcell gq25 hL hK E hC hS hW => ?_)
  replace hx := E.1; replace hb := E.2.1
  replace g0 := hL _ _ (by decide) g0
  replace gq21 := hL _ _ (by decide) gq21
  replace gq23 := hL _ _ (by decide) gq23
  replace hLf := hLf.al hL; replace hKN := hKN.al hK (by decide); replace hI := hI.al hL hK (by decide)
  replace hKb := hKb.al hK (by decide)
  replace fl := (sI_al (j := X.1.2 4 1) ho (Nat.lt_of_lt_of_le hlt0 hz)).trans fl
  replace hOl := hOl.al ho hz
  replace hzq25 : H0.size ≤ q25 := by rw [zq]; exact hz
  replace hz : H0.size ≤ H25.size := by rw [zs]; exact Nat.le_succ_of_le hz
  refine q_putN E hin hC hS hW g0 gq25 fn_RX4_19_262 rfl rfl ⟨by decide, by decide⟩ dX4_init_28 (fun H26 locs26 Γ26 zs eo U26 gz hl5 hk5 hE5 E hC hS hW => ?_)
  replace hx := E.1; replace hb := E.2.1
  replace hI := hI.put hl5 hk5 g0 (by decide)
  replace hKb := hKb.put hE5
  replace fl := (up_nI U26 (ne_f E 4 1 3 rfl (by decide) (by decide) (by decide))).trans fl
  replace gq21 := hl5 _ _ (nek gq21 g0 (by decide)) (by decide) gq21
  replace gq23 := hl5 _ _ (nek gq23 g0 (by decide)) (by decide) gq23
  replace gq25 := hl5 _ _ (nek gq25 g0 (by decide)) (by decide) gq25
  replace hOl := hOl.put eo
  replace hLf := hLf.tr hl5; replace hKN := hKN.tr hk5
  replace hz : H0.size ≤ H26.size := by rw [zs]; exact hz
  replace g0 := gz
  refine lv_aload_n hx hb dX4_init_31 rfl (lv_at hl 0 rfl) ?_
  refine lv_sipush (v := 901) hx hb dX4_init_32 rfl ?_
  refine q_newP E hC hS hW (Nat.le_trans hn0 hz) (r := 28) (t := 2) (N := 901) (ty := .long) rfl rfl rfl rfl (fun _ _ h => h) (fun _ => by rfl) w_45 (by decide) (by decide) (by decide) (by decide) (by decide) (by decide) dX4_init_35 (fun q27 H27 Γ27 zq zs ho hcell gq27 hL hK E hC hS hW => ?_)
  replace hx := E.1; replace hb := E.2.1
  replace g0 := hL _ _ (by decide) g0
  replace gq21 := hL _ _ (by decide) gq21
  replace gq23 := hL _ _ (by decide) gq23
  replace gq25 := hL _ _ (by decide) gq25
  replace hLf := hLf.al hL; replace hKN := hKN.al hK (by decide); replace hI := hI.al hL hK (by decide)
  replace hKb := hKb.al hK (by decide)
  replace fl := (sI_al (j := X.1.2 4 1) ho (Nat.lt_of_lt_of_le hlt0 hz)).trans fl
  replace hOl := hOl.al ho hz
  replace hzq27 : H0.size ≤ q27 := by rw [zq]; exact hz
  replace hz : H0.size ≤ H27.size := by rw [zs]; exact Nat.le_succ_of_le hz
  refine q_putN E hin hC hS hW g0 gq27 fn_RX4_22_263 rfl rfl ⟨by decide, by decide⟩ dX4_init_37 (fun H28 locs28 Γ28 zs eo U28 gz hl5 hk5 hE5 E hC hS hW => ?_)
  replace hx := E.1; replace hb := E.2.1
  replace hI := hI.put hl5 hk5 g0 (by decide)
  replace hKb := hKb.put hE5
  replace fl := (up_nI U28 (ne_f E 4 1 4 rfl (by decide) (by decide) (by decide))).trans fl
  replace gq21 := hl5 _ _ (nek gq21 g0 (by decide)) (by decide) gq21
  replace gq23 := hl5 _ _ (nek gq23 g0 (by decide)) (by decide) gq23
  replace gq25 := hl5 _ _ (nek gq25 g0 (by decide)) (by decide) gq25
  replace gq27 := hl5 _ _ (nek gq27 g0 (by decide)) (by decide) gq27
  replace hOl := hOl.put eo
  replace hLf := hLf.tr hl5; replace hKN := hKN.tr hk5
  replace hz : H0.size ≤ H28.size := by rw [zs]; exact hz
  replace g0 := gz
  refine lv_aload_n hx hb dX4_init_40 rfl (lv_at hl 0 rfl) ?_
  refine lv_sipush (v := 901) hx hb dX4_init_41 rfl ?_
  refine q_newR E hC hS hW (Nat.le_trans hn0 hz) (r := 29) (t := 7) (N := 901) (C := "SnowForts$Word") rfl rfl rfl (fun _ => by rfl) w_52 hAO.2.1 (by decide) (by decide) (by decide) (by decide) (by decide) (by decide) dX4_init_44 (fun q29 H29 Γ29 zq zs ho gq29 hL hK E hC hS hW => ?_)
  replace hx := E.1; replace hb := E.2.1
  replace g0 := hL _ _ (by decide) g0
  replace gq21 := hL _ _ (by decide) gq21
  replace gq23 := hL _ _ (by decide) gq23
  replace gq25 := hL _ _ (by decide) gq25
  replace gq27 := hL _ _ (by decide) gq27
  replace hLf := hLf.al hL; replace hKN := hKN.al hK (by decide); replace hI := hI.al hL hK (by decide)
  replace hKb := hKb.al hK (by decide)
  replace fl := (sI_al (j := X.1.2 4 1) ho (Nat.lt_of_lt_of_le hlt0 hz)).trans fl
  replace hOl := hOl.al ho hz
  replace hzq29 : H0.size ≤ q29 := by rw [zq]; exact hz
  replace hz : H0.size ≤ H29.size := by rw [zs]; exact Nat.le_succ_of_le hz
  refine q_putN E hin hC hS hW g0 gq29 fn_RX4_28_264 rfl rfl ⟨by decide, by decide⟩ dX4_init_47 (fun H30 locs30 Γ30 zs eo U30 gz hl5 hk5 hE5 E hC hS hW => ?_)
  replace hx := E.1; replace hb := E.2.1
  replace hI := hI.put hl5 hk5 g0 (by decide)
  replace hKb := hKb.put hE5
  replace fl := (up_nI U30 (ne_f E 4 1 5 rfl (by decide) (by decide) (by decide))).trans fl
  replace gq21 := hl5 _ _ (nek gq21 g0 (by decide)) (by decide) gq21
  replace gq23 := hl5 _ _ (nek gq23 g0 (by decide)) (by decide) gq23
  replace gq25 := hl5 _ _ (nek gq25 g0 (by decide)) (by decide) gq25
  replace gq27 := hl5 _ _ (nek gq27 g0 (by decide)) (by decide) gq27
  replace gq29 := hl5 _ _ (nek gq29 g0 (by decide)) (by decide) gq29
  replace hOl := hOl.put eo
  replace hLf := hLf.tr hl5; replace hKN := hKN.tr hk5
  replace hz : H0.size ≤ H30.size := by rw [zs]; exact hz
  replace g0 := gz
  refine lv_aload_n hx hb dX4_init_50 rfl (lv_at hl 0 rfl) ?_
  refine lv_iconst (v := (-1)) hx hb dX4_init_51 rfl ?_
  refine q_putZ E hC hS g0 fpz_RX4_32_2 (tv_I (show ((-1) : Int32).toInt = (-1) from by decide) (by decide) (by decide)) rfl rfl dX4_init_52 (fun H31 locs31 zs eo hC hS U31 => ?_)
  replace hOl := hOl.put eo
  replace fl := (up_nI U31 (ne_f E 4 1 15 rfl (by decide) (by decide) (by decide))).trans fl
  replace hW := hW.up (Nat.le_of_eq zs.symm)
  replace hz : H0.size ≤ H31.size := by rw [zs]; exact hz
  refine lv_aload_n hx hb dX4_init_55 rfl (lv_at hl 0 rfl) ?_
  refine lv_iconst (v := (-1)) hx hb dX4_init_56 rfl ?_
  refine q_putZ E hC hS g0 fpz_RX4_36_2 (tv_I (show ((-1) : Int32).toInt = (-1) from by decide) (by decide) (by decide)) rfl rfl dX4_init_57 (fun H32 locs32 zs eo hC hS U32 => ?_)
  replace hOl := hOl.put eo
  replace fl := (up_nI U32 (ne_f E 4 1 16 rfl (by decide) (by decide) (by decide))).trans fl
  replace hW := hW.up (Nat.le_of_eq zs.symm)
  replace hz : H0.size ≤ H32.size := by rw [zs]; exact hz
  exact ret H32 Γ30 _ _ _ dX4_init_60 g0 hLf hW hI ⟨hKN, hOl, hKb, fl⟩ hC hS
set_option maxRecDepth 100000 in
set_option maxHeartbeats 4000000 in
theorem m_X10_init (l : Launch) (X : xW) (Γ : Nat → Option Nat) (H0 : Heap) (n0 : Nat) (hC0 : Conf X Γ H0) (hW0 : NwG Γ n0 H0) (hn0 : n0 ≤ H0.size) (h0 : Nat) (g0 : Γ h0 = some 290) (h1 : Nat) (g1 : Γ h1 = some 2) : CtrN l X Γ n0 yX10_init cX10_init 2 1 3 108 [.ref h0, .ref h1] H0 h0 3 (fun H1 Γ1 => KN Γ Γ1 ∧ Ol h0 H0 H1 ∧ KNb h0 2 Γ Γ1) := by
  refine q_enterN (own := "SnowForts$YardText") (by decide) rfl rfl (Nat.le_of_ble_eq_true rfl) hW0.2 ?_
  intro p e s m args below meth c ls Qz E hAO hin hl ret hS
  have hx := E.1; have hb := E.2.1; have hC := hC0; have hW := hW0
  have hl : lv_has ls 2 [(0, .ref h0), (1, .ref h1)] := hl
  have hLf : Lf h0 Γ Γ := Lf.rf; have hKN : KN Γ Γ := KN.rf; have hI : I12 Γ Γ := I12.rf
  have hlt0 : h0 < H0.size := nw_lt hW0 g0 (by decide); have hz : H0.size ≤ H0.size := Nat.le_refl _
  have hKb : KNb h0 2 Γ Γ := KNb.rf
  have hOl : Ol h0 H0 H0 := Ol.rf
  refine lv_aload_n hx hb dX10_init_0 rfl (lv_at hl 0 rfl) ?_
  refine W.objInit hx hb E.2.2.2.1 (E.2.2.2.2.1 _ w_125) (E.2.2.2.2.1 _ w_27) (E.2.2.2.2.1 _ w_28) rfl (hl.1.trans E.2.2.1.symm) rfl dX10_init_1 (by decide) (Nat.le_trans (Nat.add_le_add_right (lv_room (Nat.zero_le _)) 12) (by decide)) ?_
  refine lv_aload_n hx hb dX10_init_4 rfl (lv_at hl 0 rfl) ?_
  refine lv_bipush (v := 36) hx hb dX10_init_5 rfl ?_
  refine q_newP E hC hS hW (Nat.le_trans hn0 hz) (r := 42) (t := 1) (N := 36) (ty := .int) rfl rfl rfl rfl (fun _ _ h => h) (fun _ => by rfl) w_119 (by decide) (by decide) (by decide) (by decide) (by decide) (by decide) dX10_init_7 (fun q21 H21 Γ21 zq zs ho hcell gq21 hL hK E hC hS hW => ?_)
  replace hx := E.1; replace hb := E.2.1
  replace g0 := hL _ _ (by decide) g0
  replace g1 := hL _ _ (by decide) g1
  replace hLf := hLf.al hL; replace hKN := hKN.al hK (by decide); replace hI := hI.al hL hK (by decide)
  replace hKb := hKb.al hK (by decide)
  replace hOl := hOl.al ho hz
  replace hzq21 : H0.size ≤ q21 := by rw [zq]; exact hz
  replace hz : H0.size ≤ H21.size := by rw [zs]; exact Nat.le_succ_of_le hz
  refine q_putN E hin hC hS hW g0 gq21 fn_RX10_9_290 rfl rfl ⟨by decide, by decide⟩ dX10_init_9 (fun H22 locs22 Γ22 zs eo U22 gz hl5 hk5 hE5 E hC hS hW => ?_)
  replace hx := E.1; replace hb := E.2.1
  replace hI := hI.put hl5 hk5 g0 (by decide)
  replace hKb := hKb.put hE5
  replace g1 := hl5 _ _ (nek g1 g0 (by decide)) (by decide) g1
  replace gq21 := hl5 _ _ (nek gq21 g0 (by decide)) (by decide) gq21
  replace hOl := hOl.put eo
  replace hLf := hLf.tr hl5; replace hKN := hKN.tr hk5
  replace hz : H0.size ≤ H22.size := by rw [zs]; exact hz
  replace g0 := gz
  refine lv_aload_n hx hb dX10_init_12 rfl (lv_at hl 0 rfl) ?_
  refine lv_bipush (v := 36) hx hb dX10_init_13 rfl ?_
  refine q_newP E hC hS hW (Nat.le_trans hn0 hz) (r := 76) (t := 1) (N := 36) (ty := .int) rfl rfl rfl rfl (fun _ _ h => h) (fun _ => by rfl) w_119 (by decide) (by decide) (by decide) (by decide) (by decide) (by decide) dX10_init_15 (fun q23 H23 Γ23 zq zs ho hcell gq23 hL hK E hC hS hW => ?_)
  replace hx := E.1; replace hb := E.2.1
  replace g0 := hL _ _ (by decide) g0
  replace g1 := hL _ _ (by decide) g1
  replace gq21 := hL _ _ (by decide) gq21
  replace hLf := hLf.al hL; replace hKN := hKN.al hK (by decide); replace hI := hI.al hL hK (by decide)
  replace hKb := hKb.al hK (by decide)
  replace hOl := hOl.al ho hz
  replace hzq23 : H0.size ≤ q23 := by rw [zq]; exact hz
  replace hz : H0.size ≤ H23.size := by rw [zs]; exact Nat.le_succ_of_le hz
  refine q_putN E hin hC hS hW g0 gq23 fn_RX10_15_291 rfl rfl ⟨by decide, by decide⟩ dX10_init_17 (fun H24 locs24 Γ24 zs eo U24 gz hl5 hk5 hE5 E hC hS hW => ?_)
  replace hx := E.1; replace hb := E.2.1
  replace hI := hI.put hl5 hk5 g0 (by decide)
  replace hKb := hKb.put hE5
  replace g1 := hl5 _ _ (nek g1 g0 (by decide)) (by decide) g1
  replace gq21 := hl5 _ _ (nek gq21 g0 (by decide)) (by decide) gq21
  replace gq23 := hl5 _ _ (nek gq23 g0 (by decide)) (by decide) gq23
  replace hOl := hOl.put eo
  replace hLf := hLf.tr hl5; replace hKN := hKN.tr hk5
  replace hz : H0.size ≤ H24.size := by rw [zs]; exact hz
  replace g0 := gz
  refine lv_aload_n hx hb dX10_init_20 rfl (lv_at hl 0 rfl) ?_
  refine lv_bipush (v := 36) hx hb dX10_init_21 rfl ?_
  refine q_newP E hC hS hW (Nat.le_trans hn0 hz) (r := 77) (t := 1) (N := 36) (ty := .int) rfl rfl rfl rfl (fun _ _ h => h) (fun _ => by rfl) w_119 (by decide) (by decide) (by decide) (by decide) (by decide) (by decide) dX10_init_23 (fun q25 H25 Γ25 zq zs ho hcell gq25 hL hK E hC hS hW => ?_)
  replace hx := E.1; replace hb := E.2.1
  replace g0 := hL _ _ (by decide) g0
  replace g1 := hL _ _ (by decide) g1
  replace gq21 := hL _ _ (by decide) gq21
  replace gq23 := hL _ _ (by decide) gq23
  replace hLf := hLf.al hL; replace hKN := hKN.al hK (by decide); replace hI := hI.al hL hK (by decide)
  replace hKb := hKb.al hK (by decide)
  replace hOl := hOl.al ho hz
  replace hzq25 : H0.size ≤ q25 := by rw [zq]; exact hz
  replace hz : H0.size ≤ H25.size := by rw [zs]; exact Nat.le_succ_of_le hz
  refine q_putN E hin hC hS hW g0 gq25 fn_RX10_18_292 rfl rfl ⟨by decide, by decide⟩ dX10_init_25 (fun H26 locs26 Γ26 zs eo U26 gz hl5 hk5 hE5 E hC hS hW => ?_)
  replace hx := E.1; replace hb := E.2.1
  replace hI := hI.put hl5 hk5 g0 (by decide)
  replace hKb := hKb.put hE5
  replace g1 := hl5 _ _ (nek g1 g0 (by decide)) (by decide) g1
  replace gq21 := hl5 _ _ (nek gq21 g0 (by decide)) (by decide) gq21
  replace gq23 := hl5 _ _ (nek gq23 g0 (by decide)) (by decide) gq23
  replace gq25 := hl5 _ _ (nek gq25 g0 (by decide)) (by decide) gq25
  replace hOl := hOl.put eo
  replace hLf := hLf.tr hl5; replace hKN := hKN.tr hk5
  replace hz : H0.size ≤ H26.size := by rw [zs]; exact hz
  replace g0 := gz
  refine lv_aload_n hx hb dX10_init_28 rfl (lv_at hl 0 rfl) ?_
  refine lv_aload_n hx hb dX10_init_29 rfl (lv_at hl 1 rfl) ?_
  refine q_putN E hin hC hS hW g0 g1 fn_RX10_21_293 rfl rfl ⟨by decide, by decide⟩ dX10_init_30 (fun H27 locs27 Γ27 zs eo U27 gz hl5 hk5 hE5 E hC hS hW => ?_)
  replace hx := E.1; replace hb := E.2.1
  replace hI := hI.put hl5 hk5 g0 (by decide)
  replace hKb := hKb.put hE5
  replace g1 := hl5 _ _ (nek g1 g0 (by decide)) (by decide) g1
  replace gq21 := hl5 _ _ (nek gq21 g0 (by decide)) (by decide) gq21
  replace gq23 := hl5 _ _ (nek gq23 g0 (by decide)) (by decide) gq23
  replace gq25 := hl5 _ _ (nek gq25 g0 (by decide)) (by decide) gq25
  replace hOl := hOl.put eo
  replace hLf := hLf.tr hl5; replace hKN := hKN.tr hk5
  replace hz : H0.size ≤ H27.size := by rw [zs]; exact hz
  replace g0 := gz
  exact ret H27 Γ27 _ _ _ dX10_init_33 g0 hLf hW hI ⟨hKN, hOl, hKb⟩ hC hS
set_option maxRecDepth 100000 in
set_option maxHeartbeats 4000000 in
theorem m_X3_init (l : Launch) (X : xW) (Γ : Nat → Option Nat) (H0 : Heap) (n0 : Nat) (hC0 : Conf X Γ H0) (hW0 : NwG Γ n0 H0) (hn0 : n0 ≤ H0.size) (h0 : Nat) (g0 : Γ h0 = some 320) (h1 : Nat) (g1 : Γ h1 = some 2) : CtrN l X Γ n0 yX3_init cX3_init 2 1 1 3 [.ref h0, .ref h1] H0 h0 4 (fun H1 Γ1 => KN Γ Γ1 ∧ Ol h0 H0 H1 ∧ KNb h0 2 Γ Γ1) := by
  refine q_enterN (own := "SnowForts$OrdersText") (by decide) rfl rfl (Nat.le_of_ble_eq_true rfl) hW0.2 ?_
  intro p e s m args below meth c ls Qz E hAO hin hl ret hS
  have hx := E.1; have hb := E.2.1; have hC := hC0; have hW := hW0
  have hl : lv_has ls 2 [(0, .ref h0), (1, .ref h1)] := hl
  have hLf : Lf h0 Γ Γ := Lf.rf; have hKN : KN Γ Γ := KN.rf; have hI : I12 Γ Γ := I12.rf
  have hlt0 : h0 < H0.size := nw_lt hW0 g0 (by decide); have hz : H0.size ≤ H0.size := Nat.le_refl _
  have hKb : KNb h0 2 Γ Γ := KNb.rf
  have hOl : Ol h0 H0 H0 := Ol.rf
  refine lv_aload_n hx hb dX3_init_0 rfl (lv_at hl 0 rfl) ?_
  refine W.objInit hx hb E.2.2.2.1 (E.2.2.2.2.1 _ w_147) (E.2.2.2.2.1 _ w_27) (E.2.2.2.2.1 _ w_28) rfl (hl.1.trans E.2.2.1.symm) rfl dX3_init_1 (by decide) (Nat.le_trans (Nat.add_le_add_right (lv_room (Nat.zero_le _)) 12) (by decide)) ?_
  refine lv_aload_n hx hb dX3_init_4 rfl (lv_at hl 0 rfl) ?_
  refine lv_iconst (v := 3) hx hb dX3_init_5 rfl ?_
  refine q_newP E hC hS hW (Nat.le_trans hn0 hz) (r := 30) (t := 1) (N := 3) (ty := .int) rfl rfl rfl rfl (fun _ _ h => h) (fun _ => by rfl) w_119 (by decide) (by decide) (by decide) (by decide) (by decide) (by decide) dX3_init_6 (fun q21 H21 Γ21 zq zs ho hcell gq21 hL hK E hC hS hW => ?_)
  replace hx := E.1; replace hb := E.2.1
  replace g0 := hL _ _ (by decide) g0
  replace g1 := hL _ _ (by decide) g1
  replace hLf := hLf.al hL; replace hKN := hKN.al hK (by decide); replace hI := hI.al hL hK (by decide)
  replace hKb := hKb.al hK (by decide)
  replace hOl := hOl.al ho hz
  replace hzq21 : H0.size ≤ q21 := by rw [zq]; exact hz
  replace hz : H0.size ≤ H21.size := by rw [zs]; exact Nat.le_succ_of_le hz
  refine q_putN E hin hC hS hW g0 gq21 fn_RX3_11_320 rfl rfl ⟨by decide, by decide⟩ dX3_init_8 (fun H22 locs22 Γ22 zs eo U22 gz hl5 hk5 hE5 E hC hS hW => ?_)
  replace hx := E.1; replace hb := E.2.1
  replace hI := hI.put hl5 hk5 g0 (by decide)
  replace hKb := hKb.put hE5
  replace g1 := hl5 _ _ (nek g1 g0 (by decide)) (by decide) g1
  replace gq21 := hl5 _ _ (nek gq21 g0 (by decide)) (by decide) gq21
  replace hOl := hOl.put eo
  replace hLf := hLf.tr hl5; replace hKN := hKN.tr hk5
  replace hz : H0.size ≤ H22.size := by rw [zs]; exact hz
  replace g0 := gz
  refine lv_aload_n hx hb dX3_init_11 rfl (lv_at hl 0 rfl) ?_
  refine lv_aload_n hx hb dX3_init_12 rfl (lv_at hl 1 rfl) ?_
  refine q_putN E hin hC hS hW g0 g1 fn_RX3_15_321 rfl rfl ⟨by decide, by decide⟩ dX3_init_13 (fun H23 locs23 Γ23 zs eo U23 gz hl5 hk5 hE5 E hC hS hW => ?_)
  replace hx := E.1; replace hb := E.2.1
  replace hI := hI.put hl5 hk5 g0 (by decide)
  replace hKb := hKb.put hE5
  replace g1 := hl5 _ _ (nek g1 g0 (by decide)) (by decide) g1
  replace gq21 := hl5 _ _ (nek gq21 g0 (by decide)) (by decide) gq21
  replace hOl := hOl.put eo
  replace hLf := hLf.tr hl5; replace hKN := hKN.tr hk5
  replace hz : H0.size ≤ H23.size := by rw [zs]; exact hz
  replace g0 := gz
  exact ret H23 Γ23 _ _ _ dX3_init_16 g0 hLf hW hI ⟨hKN, hOl, hKb⟩ hC hS
set_option maxRecDepth 100000 in
set_option maxHeartbeats 4000000 in
theorem m_X9_init (l : Launch) (X : xW) (Γ : Nat → Option Nat) (H0 : Heap) (n0 : Nat) (hC0 : Conf X Γ H0) (hW0 : NwG Γ n0 H0) (hn0 : n0 ≤ H0.size) (h0 : Nat) (g0 : Γ h0 = some 350)  : CtrN l X Γ n0 yX9_init cX9_init 1 1 11 231 [.ref h0] H0 h0 5 (fun H1 Γ1 => KN Γ Γ1 ∧ Ol h0 H0 H1 ∧ KNb h0 2 Γ Γ1) := by
  refine q_enterN (own := "SnowForts$Yard") (by decide) rfl rfl (Nat.le_of_ble_eq_true rfl) hW0.2 ?_
  intro p e s m args below meth c ls Qz E hAO hin hl ret hS
  have hx := E.1; have hb := E.2.1; have hC := hC0; have hW := hW0
  have hl : lv_has ls 1 [(0, .ref h0)] := hl
  have hLf : Lf h0 Γ Γ := Lf.rf; have hKN : KN Γ Γ := KN.rf; have hI : I12 Γ Γ := I12.rf
  have hlt0 : h0 < H0.size := nw_lt hW0 g0 (by decide); have hz : H0.size ≤ H0.size := Nat.le_refl _
  have hKb : KNb h0 2 Γ Γ := KNb.rf
  have hOl : Ol h0 H0 H0 := Ol.rf
  refine lv_aload_n hx hb dX9_init_0 rfl (lv_at hl 0 rfl) ?_
  refine W.objInit hx hb E.2.2.2.1 (E.2.2.2.2.1 _ w_166) (E.2.2.2.2.1 _ w_27) (E.2.2.2.2.1 _ w_28) rfl (hl.1.trans E.2.2.1.symm) rfl dX9_init_1 (by decide) (Nat.le_trans (Nat.add_le_add_right (lv_room (Nat.zero_le _)) 12) (by decide)) ?_
  refine lv_aload_n hx hb dX9_init_4 rfl (lv_at hl 0 rfl) ?_
  refine lv_iconst (v := 2) hx hb dX9_init_5 rfl ?_
  refine q_putZ E hC hS g0 fpz_RX9_9_350 (tv_I (show (2 : Int32).toInt = 2 from by decide) (by decide) (by decide)) rfl rfl dX9_init_6 (fun H21 locs21 zs eo hC hS U21 => ?_)
  replace hOl := hOl.put eo
  replace hW := hW.up (Nat.le_of_eq zs.symm)
  replace hz : H0.size ≤ H21.size := by rw [zs]; exact hz
  refine lv_aload_n hx hb dX9_init_9 rfl (lv_at hl 0 rfl) ?_
  refine lv_iconst (v := 1) hx hb dX9_init_10 rfl ?_
  refine q_putZ E hC hS g0 fpz_RX9_15_350 (tv_I (show (1 : Int32).toInt = 1 from by decide) (by decide) (by decide)) rfl rfl dX9_init_11 (fun H22 locs22 zs eo hC hS U22 => ?_)
  replace hOl := hOl.put eo
  replace hW := hW.up (Nat.le_of_eq zs.symm)
  replace hz : H0.size ≤ H22.size := by rw [zs]; exact hz
  refine lv_aload_n hx hb dX9_init_14 rfl (lv_at hl 0 rfl) ?_
  refine lv_iconst (v := 2) hx hb dX9_init_15 rfl ?_
  refine q_newP E hC hS hW (Nat.le_trans hn0 hz) (r := 31) (t := 1) (N := 2) (ty := .int) rfl rfl rfl rfl (fun _ _ h => h) (fun _ => by rfl) w_119 (by decide) (by decide) (by decide) (by decide) (by decide) (by decide) dX9_init_16 (fun q23 H23 Γ23 zq zs ho hcell gq23 hL hK E hC hS hW => ?_)
  replace hx := E.1; replace hb := E.2.1
  replace g0 := hL _ _ (by decide) g0
  replace hLf := hLf.al hL; replace hKN := hKN.al hK (by decide); replace hI := hI.al hL hK (by decide)
  replace hKb := hKb.al hK (by decide)
  replace hOl := hOl.al ho hz
  replace hzq23 : H0.size ≤ q23 := by rw [zq]; exact hz
  replace hz : H0.size ≤ H23.size := by rw [zs]; exact Nat.le_succ_of_le hz
  refine q_putN E hin hC hS hW g0 gq23 fn_RX9_18_350 rfl rfl ⟨by decide, by decide⟩ dX9_init_18 (fun H24 locs24 Γ24 zs eo U24 gz hl5 hk5 hE5 E hC hS hW => ?_)
  replace hx := E.1; replace hb := E.2.1
  replace hI := hI.put hl5 hk5 g0 (by decide)
  replace hKb := hKb.put hE5
  replace gq23 := hl5 _ _ (nek gq23 g0 (by decide)) (by decide) gq23
  replace hOl := hOl.put eo
  replace hLf := hLf.tr hl5; replace hKN := hKN.tr hk5
  replace hz : H0.size ≤ H24.size := by rw [zs]; exact hz
  replace g0 := gz
  refine lv_aload_n hx hb dX9_init_21 rfl (lv_at hl 0 rfl) ?_
  refine lv_iconst (v := 2) hx hb dX9_init_22 rfl ?_
  refine q_newP E hC hS hW (Nat.le_trans hn0 hz) (r := 32) (t := 1) (N := 2) (ty := .int) rfl rfl rfl rfl (fun _ _ h => h) (fun _ => by rfl) w_119 (by decide) (by decide) (by decide) (by decide) (by decide) (by decide) dX9_init_23 (fun q25 H25 Γ25 zq zs ho hcell gq25 hL hK E hC hS hW => ?_)
  replace hx := E.1; replace hb := E.2.1
  replace g0 := hL _ _ (by decide) g0
  replace gq23 := hL _ _ (by decide) gq23
  replace hLf := hLf.al hL; replace hKN := hKN.al hK (by decide); replace hI := hI.al hL hK (by decide)
  replace hKb := hKb.al hK (by decide)
  replace hOl := hOl.al ho hz
  replace hzq25 : H0.size ≤ q25 := by rw [zq]; exact hz
  replace hz : H0.size ≤ H25.size := by rw [zs]; exact Nat.le_succ_of_le hz
  refine q_putN E hin hC hS hW g0 gq25 fn_RX9_22_351 rfl rfl ⟨by decide, by decide⟩ dX9_init_25 (fun H26 locs26 Γ26 zs eo U26 gz hl5 hk5 hE5 E hC hS hW => ?_)
  replace hx := E.1; replace hb := E.2.1
  replace hI := hI.put hl5 hk5 g0 (by decide)
  replace hKb := hKb.put hE5
  replace gq23 := hl5 _ _ (nek gq23 g0 (by decide)) (by decide) gq23
  replace gq25 := hl5 _ _ (nek gq25 g0 (by decide)) (by decide) gq25
  replace hOl := hOl.put eo
  replace hLf := hLf.tr hl5; replace hKN := hKN.tr hk5
  replace hz : H0.size ≤ H26.size := by rw [zs]; exact hz
  replace g0 := gz
  refine lv_aload_n hx hb dX9_init_28 rfl (lv_at hl 0 rfl) ?_
  refine lv_iconst (v := 2) hx hb dX9_init_29 rfl ?_
  refine q_newP E hC hS hW (Nat.le_trans hn0 hz) (r := 33) (t := 1) (N := 2) (ty := .int) rfl rfl rfl rfl (fun _ _ h => h) (fun _ => by rfl) w_119 (by decide) (by decide) (by decide) (by decide) (by decide) (by decide) dX9_init_30 (fun q27 H27 Γ27 zq zs ho hcell gq27 hL hK E hC hS hW => ?_)
  replace hx := E.1; replace hb := E.2.1
  replace g0 := hL _ _ (by decide) g0
  replace gq23 := hL _ _ (by decide) gq23
  replace gq25 := hL _ _ (by decide) gq25
  replace hLf := hLf.al hL; replace hKN := hKN.al hK (by decide); replace hI := hI.al hL hK (by decide)
  replace hKb := hKb.al hK (by decide)
  replace hOl := hOl.al ho hz
  replace hzq27 : H0.size ≤ q27 := by rw [zq]; exact hz
  replace hz : H0.size ≤ H27.size := by rw [zs]; exact Nat.le_succ_of_le hz
  refine q_putN E hin hC hS hW g0 gq27 fn_RX9_25_352 rfl rfl ⟨by decide, by decide⟩ dX9_init_32 (fun H28 locs28 Γ28 zs eo U28 gz hl5 hk5 hE5 E hC hS hW => ?_)
  replace hx := E.1; replace hb := E.2.1
  replace hI := hI.put hl5 hk5 g0 (by decide)
  replace hKb := hKb.put hE5
  replace gq23 := hl5 _ _ (nek gq23 g0 (by decide)) (by decide) gq23
  replace gq25 := hl5 _ _ (nek gq25 g0 (by decide)) (by decide) gq25
  replace gq27 := hl5 _ _ (nek gq27 g0 (by decide)) (by decide) gq27
  replace hOl := hOl.put eo
  replace hLf := hLf.tr hl5; replace hKN := hKN.tr hk5
  replace hz : H0.size ≤ H28.size := by rw [zs]; exact hz
  replace g0 := gz
  refine lv_aload_n hx hb dX9_init_35 rfl (lv_at hl 0 rfl) ?_
  refine lv_iconst (v := 4) hx hb dX9_init_36 rfl ?_
  refine q_newP E hC hS hW (Nat.le_trans hn0 hz) (r := 34) (t := 1) (N := 4) (ty := .int) rfl rfl rfl rfl (fun _ _ h => h) (fun _ => by rfl) w_119 (by decide) (by decide) (by decide) (by decide) (by decide) (by decide) dX9_init_37 (fun q29 H29 Γ29 zq zs ho hcell gq29 hL hK E hC hS hW => ?_)
  replace hx := E.1; replace hb := E.2.1
  replace g0 := hL _ _ (by decide) g0
  replace gq23 := hL _ _ (by decide) gq23
  replace gq25 := hL _ _ (by decide) gq25
  replace gq27 := hL _ _ (by decide) gq27
  replace hLf := hLf.al hL; replace hKN := hKN.al hK (by decide); replace hI := hI.al hL hK (by decide)
  replace hKb := hKb.al hK (by decide)
  replace hOl := hOl.al ho hz
  replace hzq29 : H0.size ≤ q29 := by rw [zq]; exact hz
  replace hz : H0.size ≤ H29.size := by rw [zs]; exact Nat.le_succ_of_le hz
  refine lv_dup hx hb dX9_init_39 rfl ?_
  refine lv_iconst (v := 0) hx hb dX9_init_40 rfl ?_
  refine lv_iconst (v := (-1)) hx hb dX9_init_41 rfl ?_
  refine q_iastZ E hC hS gq29 (by decide) rfl rfl (vp_in_iff.mpr ⟨by decide, by decide⟩) (tv_I (show ((-1) : Int32).toInt = (-1) from by decide) (by decide) (by decide)) dX9_init_42 (fun H30 locs30 zs eo hC hS U30 => ?_)
  replace hOl := hOl.fr eo hzq29
  replace hW := hW.up (Nat.le_of_eq zs.symm)
  replace hz : H0.size ≤ H30.size := by rw [zs]; exact hz
  refine lv_dup hx hb dX9_init_43 rfl ?_
  refine lv_iconst (v := 1) hx hb dX9_init_44 rfl ?_
  refine lv_iconst (v := (-1)) hx hb dX9_init_45 rfl ?_
  refine q_iastZ E hC hS gq29 (by decide) rfl rfl (vp_in_iff.mpr ⟨by decide, by decide⟩) (tv_I (show ((-1) : Int32).toInt = (-1) from by decide) (by decide) (by decide)) dX9_init_46 (fun H31 locs31 zs eo hC hS U31 => ?_)
  replace hOl := hOl.fr eo hzq29
  replace hW := hW.up (Nat.le_of_eq zs.symm)
  replace hz : H0.size ≤ H31.size := by rw [zs]; exact hz
  refine lv_dup hx hb dX9_init_47 rfl ?_
  refine lv_iconst (v := 2) hx hb dX9_init_48 rfl ?_
  refine lv_iconst (v := (-1)) hx hb dX9_init_49 rfl ?_
  refine q_iastZ E hC hS gq29 (by decide) rfl rfl (vp_in_iff.mpr ⟨by decide, by decide⟩) (tv_I (show ((-1) : Int32).toInt = (-1) from by decide) (by decide) (by decide)) dX9_init_50 (fun H32 locs32 zs eo hC hS U32 => ?_)
  replace hOl := hOl.fr eo hzq29
  replace hW := hW.up (Nat.le_of_eq zs.symm)
  replace hz : H0.size ≤ H32.size := by rw [zs]; exact hz
  refine lv_dup hx hb dX9_init_51 rfl ?_
  refine lv_iconst (v := 3) hx hb dX9_init_52 rfl ?_
  refine lv_iconst (v := (-1)) hx hb dX9_init_53 rfl ?_
  refine q_iastZ E hC hS gq29 (by decide) rfl rfl (vp_in_iff.mpr ⟨by decide, by decide⟩) (tv_I (show ((-1) : Int32).toInt = (-1) from by decide) (by decide) (by decide)) dX9_init_54 (fun H33 locs33 zs eo hC hS U33 => ?_)
  replace hOl := hOl.fr eo hzq29
  replace hW := hW.up (Nat.le_of_eq zs.symm)
  replace hz : H0.size ≤ H33.size := by rw [zs]; exact hz
  refine q_putN E hin hC hS hW g0 gq29 fn_RX9_28_353 rfl rfl ⟨by decide, by decide⟩ dX9_init_55 (fun H34 locs34 Γ34 zs eo U34 gz hl5 hk5 hE5 E hC hS hW => ?_)
  replace hx := E.1; replace hb := E.2.1
  replace hI := hI.put hl5 hk5 g0 (by decide)
  replace hKb := hKb.put hE5
  replace gq23 := hl5 _ _ (nek gq23 g0 (by decide)) (by decide) gq23
  replace gq25 := hl5 _ _ (nek gq25 g0 (by decide)) (by decide) gq25
  replace gq27 := hl5 _ _ (nek gq27 g0 (by decide)) (by decide) gq27
  replace gq29 := hl5 _ _ (nek gq29 g0 (by decide)) (by decide) gq29
  replace hOl := hOl.put eo
  replace hLf := hLf.tr hl5; replace hKN := hKN.tr hk5
  replace hz : H0.size ≤ H34.size := by rw [zs]; exact hz
  replace g0 := gz
  refine lv_aload_n hx hb dX9_init_58 rfl (lv_at hl 0 rfl) ?_
  refine lv_iconst (v := 5) hx hb dX9_init_59 rfl ?_
  refine q_newP E hC hS hW (Nat.le_trans hn0 hz) (r := 35) (t := 1) (N := 5) (ty := .int) rfl rfl rfl rfl (fun _ _ h => h) (fun _ => by rfl) w_119 (by decide) (by decide) (by decide) (by decide) (by decide) (by decide) dX9_init_60 (fun q35 H35 Γ35 zq zs ho hcell gq35 hL hK E hC hS hW => ?_)
  replace hx := E.1; replace hb := E.2.1
  replace g0 := hL _ _ (by decide) g0
  replace gq23 := hL _ _ (by decide) gq23
  replace gq25 := hL _ _ (by decide) gq25
  replace gq27 := hL _ _ (by decide) gq27
  replace gq29 := hL _ _ (by decide) gq29
  replace hLf := hLf.al hL; replace hKN := hKN.al hK (by decide); replace hI := hI.al hL hK (by decide)
  replace hKb := hKb.al hK (by decide)
  replace hOl := hOl.al ho hz
  replace hzq35 : H0.size ≤ q35 := by rw [zq]; exact hz
  replace hz : H0.size ≤ H35.size := by rw [zs]; exact Nat.le_succ_of_le hz
  refine q_putN E hin hC hS hW g0 gq35 fn_RX9_31_354 rfl rfl ⟨by decide, by decide⟩ dX9_init_62 (fun H36 locs36 Γ36 zs eo U36 gz hl5 hk5 hE5 E hC hS hW => ?_)
  replace hx := E.1; replace hb := E.2.1
  replace hI := hI.put hl5 hk5 g0 (by decide)
  replace hKb := hKb.put hE5
  replace gq23 := hl5 _ _ (nek gq23 g0 (by decide)) (by decide) gq23
  replace gq25 := hl5 _ _ (nek gq25 g0 (by decide)) (by decide) gq25
  replace gq27 := hl5 _ _ (nek gq27 g0 (by decide)) (by decide) gq27
  replace gq29 := hl5 _ _ (nek gq29 g0 (by decide)) (by decide) gq29
  replace gq35 := hl5 _ _ (nek gq35 g0 (by decide)) (by decide) gq35
  replace hOl := hOl.put eo
  replace hLf := hLf.tr hl5; replace hKN := hKN.tr hk5
  replace hz : H0.size ≤ H36.size := by rw [zs]; exact hz
  replace g0 := gz
  refine lv_aload_n hx hb dX9_init_65 rfl (lv_at hl 0 rfl) ?_
  refine lv_bipush (v := 36) hx hb dX9_init_66 rfl ?_
  refine q_newP E hC hS hW (Nat.le_trans hn0 hz) (r := 36) (t := 1) (N := 36) (ty := .int) rfl rfl rfl rfl (fun _ _ h => h) (fun _ => by rfl) w_119 (by decide) (by decide) (by decide) (by decide) (by decide) (by decide) dX9_init_68 (fun q37 H37 Γ37 zq zs ho hcell gq37 hL hK E hC hS hW => ?_)
  replace hx := E.1; replace hb := E.2.1
  replace g0 := hL _ _ (by decide) g0
  replace gq23 := hL _ _ (by decide) gq23
  replace gq25 := hL _ _ (by decide) gq25
  replace gq27 := hL _ _ (by decide) gq27
  replace gq29 := hL _ _ (by decide) gq29
  replace gq35 := hL _ _ (by decide) gq35
  replace hLf := hLf.al hL; replace hKN := hKN.al hK (by decide); replace hI := hI.al hL hK (by decide)
  replace hKb := hKb.al hK (by decide)
  replace hOl := hOl.al ho hz
  replace hzq37 : H0.size ≤ q37 := by rw [zq]; exact hz
  replace hz : H0.size ≤ H37.size := by rw [zs]; exact Nat.le_succ_of_le hz
  refine q_putN E hin hC hS hW g0 gq37 fn_RX9_34_355 rfl rfl ⟨by decide, by decide⟩ dX9_init_70 (fun H38 locs38 Γ38 zs eo U38 gz hl5 hk5 hE5 E hC hS hW => ?_)
  replace hx := E.1; replace hb := E.2.1
  replace hI := hI.put hl5 hk5 g0 (by decide)
  replace hKb := hKb.put hE5
  replace gq23 := hl5 _ _ (nek gq23 g0 (by decide)) (by decide) gq23
  replace gq25 := hl5 _ _ (nek gq25 g0 (by decide)) (by decide) gq25
  replace gq27 := hl5 _ _ (nek gq27 g0 (by decide)) (by decide) gq27
  replace gq29 := hl5 _ _ (nek gq29 g0 (by decide)) (by decide) gq29
  replace gq35 := hl5 _ _ (nek gq35 g0 (by decide)) (by decide) gq35
  replace gq37 := hl5 _ _ (nek gq37 g0 (by decide)) (by decide) gq37
  replace hOl := hOl.put eo
  replace hLf := hLf.tr hl5; replace hKN := hKN.tr hk5
  replace hz : H0.size ≤ H38.size := by rw [zs]; exact hz
  replace g0 := gz
  refine lv_aload_n hx hb dX9_init_73 rfl (lv_at hl 0 rfl) ?_
  refine lv_bipush (v := 36) hx hb dX9_init_74 rfl ?_
  refine q_newP E hC hS hW (Nat.le_trans hn0 hz) (r := 80) (t := 1) (N := 36) (ty := .int) rfl rfl rfl rfl (fun _ _ h => h) (fun _ => by rfl) w_119 (by decide) (by decide) (by decide) (by decide) (by decide) (by decide) dX9_init_76 (fun q39 H39 Γ39 zq zs ho hcell gq39 hL hK E hC hS hW => ?_)
  replace hx := E.1; replace hb := E.2.1
  replace g0 := hL _ _ (by decide) g0
  replace gq23 := hL _ _ (by decide) gq23
  replace gq25 := hL _ _ (by decide) gq25
  replace gq27 := hL _ _ (by decide) gq27
  replace gq29 := hL _ _ (by decide) gq29
  replace gq35 := hL _ _ (by decide) gq35
  replace gq37 := hL _ _ (by decide) gq37
  replace hLf := hLf.al hL; replace hKN := hKN.al hK (by decide); replace hI := hI.al hL hK (by decide)
  replace hKb := hKb.al hK (by decide)
  replace hOl := hOl.al ho hz
  replace hzq39 : H0.size ≤ q39 := by rw [zq]; exact hz
  replace hz : H0.size ≤ H39.size := by rw [zs]; exact Nat.le_succ_of_le hz
  refine q_putN E hin hC hS hW g0 gq39 fn_RX9_37_356 rfl rfl ⟨by decide, by decide⟩ dX9_init_78 (fun H40 locs40 Γ40 zs eo U40 gz hl5 hk5 hE5 E hC hS hW => ?_)
  replace hx := E.1; replace hb := E.2.1
  replace hI := hI.put hl5 hk5 g0 (by decide)
  replace hKb := hKb.put hE5
  replace gq23 := hl5 _ _ (nek gq23 g0 (by decide)) (by decide) gq23
  replace gq25 := hl5 _ _ (nek gq25 g0 (by decide)) (by decide) gq25
  replace gq27 := hl5 _ _ (nek gq27 g0 (by decide)) (by decide) gq27
  replace gq29 := hl5 _ _ (nek gq29 g0 (by decide)) (by decide) gq29
  replace gq35 := hl5 _ _ (nek gq35 g0 (by decide)) (by decide) gq35
  replace gq37 := hl5 _ _ (nek gq37 g0 (by decide)) (by decide) gq37
  replace gq39 := hl5 _ _ (nek gq39 g0 (by decide)) (by decide) gq39
  replace hOl := hOl.put eo
  replace hLf := hLf.tr hl5; replace hKN := hKN.tr hk5
  replace hz : H0.size ≤ H40.size := by rw [zs]; exact hz
  replace g0 := gz
  refine lv_aload_n hx hb dX9_init_81 rfl (lv_at hl 0 rfl) ?_
  refine lv_bipush (v := 36) hx hb dX9_init_82 rfl ?_
  refine q_newP E hC hS hW (Nat.le_trans hn0 hz) (r := 81) (t := 1) (N := 36) (ty := .int) rfl rfl rfl rfl (fun _ _ h => h) (fun _ => by rfl) w_119 (by decide) (by decide) (by decide) (by decide) (by decide) (by decide) dX9_init_84 (fun q41 H41 Γ41 zq zs ho hcell gq41 hL hK E hC hS hW => ?_)
  replace hx := E.1; replace hb := E.2.1
  replace g0 := hL _ _ (by decide) g0
  replace gq23 := hL _ _ (by decide) gq23
  replace gq25 := hL _ _ (by decide) gq25
  replace gq27 := hL _ _ (by decide) gq27
  replace gq29 := hL _ _ (by decide) gq29
  replace gq35 := hL _ _ (by decide) gq35
  replace gq37 := hL _ _ (by decide) gq37
  replace gq39 := hL _ _ (by decide) gq39
  replace hLf := hLf.al hL; replace hKN := hKN.al hK (by decide); replace hI := hI.al hL hK (by decide)
  replace hKb := hKb.al hK (by decide)
  replace hOl := hOl.al ho hz
  replace hzq41 : H0.size ≤ q41 := by rw [zq]; exact hz
  replace hz : H0.size ≤ H41.size := by rw [zs]; exact Nat.le_succ_of_le hz
  refine q_putN E hin hC hS hW g0 gq41 fn_RX9_40_357 rfl rfl ⟨by decide, by decide⟩ dX9_init_86 (fun H42 locs42 Γ42 zs eo U42 gz hl5 hk5 hE5 E hC hS hW => ?_)
  replace hx := E.1; replace hb := E.2.1
  replace hI := hI.put hl5 hk5 g0 (by decide)
  replace hKb := hKb.put hE5
  replace gq23 := hl5 _ _ (nek gq23 g0 (by decide)) (by decide) gq23
  replace gq25 := hl5 _ _ (nek gq25 g0 (by decide)) (by decide) gq25
  replace gq27 := hl5 _ _ (nek gq27 g0 (by decide)) (by decide) gq27
  replace gq29 := hl5 _ _ (nek gq29 g0 (by decide)) (by decide) gq29
  replace gq35 := hl5 _ _ (nek gq35 g0 (by decide)) (by decide) gq35
  replace gq37 := hl5 _ _ (nek gq37 g0 (by decide)) (by decide) gq37
  replace gq39 := hl5 _ _ (nek gq39 g0 (by decide)) (by decide) gq39
  replace gq41 := hl5 _ _ (nek gq41 g0 (by decide)) (by decide) gq41
  replace hOl := hOl.put eo
  replace hLf := hLf.tr hl5; replace hKN := hKN.tr hk5
  replace hz : H0.size ≤ H42.size := by rw [zs]; exact hz
  replace g0 := gz
  refine lv_aload_n hx hb dX9_init_89 rfl (lv_at hl 0 rfl) ?_
  refine lv_bipush (v := 36) hx hb dX9_init_90 rfl ?_
  refine q_newP E hC hS hW (Nat.le_trans hn0 hz) (r := 82) (t := 1) (N := 36) (ty := .int) rfl rfl rfl rfl (fun _ _ h => h) (fun _ => by rfl) w_119 (by decide) (by decide) (by decide) (by decide) (by decide) (by decide) dX9_init_92 (fun q43 H43 Γ43 zq zs ho hcell gq43 hL hK E hC hS hW => ?_)
  replace hx := E.1; replace hb := E.2.1
  replace g0 := hL _ _ (by decide) g0
  replace gq23 := hL _ _ (by decide) gq23
  replace gq25 := hL _ _ (by decide) gq25
  replace gq27 := hL _ _ (by decide) gq27
  replace gq29 := hL _ _ (by decide) gq29
  replace gq35 := hL _ _ (by decide) gq35
  replace gq37 := hL _ _ (by decide) gq37
  replace gq39 := hL _ _ (by decide) gq39
  replace gq41 := hL _ _ (by decide) gq41
  replace hLf := hLf.al hL; replace hKN := hKN.al hK (by decide); replace hI := hI.al hL hK (by decide)
  replace hKb := hKb.al hK (by decide)
  replace hOl := hOl.al ho hz
  replace hzq43 : H0.size ≤ q43 := by rw [zq]; exact hz
  replace hz : H0.size ≤ H43.size := by rw [zs]; exact Nat.le_succ_of_le hz
  refine q_putN E hin hC hS hW g0 gq43 fn_RX9_43_358 rfl rfl ⟨by decide, by decide⟩ dX9_init_94 (fun H44 locs44 Γ44 zs eo U44 gz hl5 hk5 hE5 E hC hS hW => ?_)
  replace hx := E.1; replace hb := E.2.1
  replace hI := hI.put hl5 hk5 g0 (by decide)
  replace hKb := hKb.put hE5
  replace gq23 := hl5 _ _ (nek gq23 g0 (by decide)) (by decide) gq23
  replace gq25 := hl5 _ _ (nek gq25 g0 (by decide)) (by decide) gq25
  replace gq27 := hl5 _ _ (nek gq27 g0 (by decide)) (by decide) gq27
  replace gq29 := hl5 _ _ (nek gq29 g0 (by decide)) (by decide) gq29
  replace gq35 := hl5 _ _ (nek gq35 g0 (by decide)) (by decide) gq35
  replace gq37 := hl5 _ _ (nek gq37 g0 (by decide)) (by decide) gq37
  replace gq39 := hl5 _ _ (nek gq39 g0 (by decide)) (by decide) gq39
  replace gq41 := hl5 _ _ (nek gq41 g0 (by decide)) (by decide) gq41
  replace gq43 := hl5 _ _ (nek gq43 g0 (by decide)) (by decide) gq43
  replace hOl := hOl.put eo
  replace hLf := hLf.tr hl5; replace hKN := hKN.tr hk5
  replace hz : H0.size ≤ H44.size := by rw [zs]; exact hz
  replace g0 := gz
  refine lv_aload_n hx hb dX9_init_97 rfl (lv_at hl 0 rfl) ?_
  refine lv_bipush (v := 36) hx hb dX9_init_98 rfl ?_
  refine q_newP E hC hS hW (Nat.le_trans hn0 hz) (r := 83) (t := 1) (N := 36) (ty := .int) rfl rfl rfl rfl (fun _ _ h => h) (fun _ => by rfl) w_119 (by decide) (by decide) (by decide) (by decide) (by decide) (by decide) dX9_init_100 (fun q45 H45 Γ45 zq zs ho hcell gq45 hL hK E hC hS hW => ?_)
  replace hx := E.1; replace hb := E.2.1
  replace g0 := hL _ _ (by decide) g0
  replace gq23 := hL _ _ (by decide) gq23
  replace gq25 := hL _ _ (by decide) gq25
  replace gq27 := hL _ _ (by decide) gq27
  replace gq29 := hL _ _ (by decide) gq29
  replace gq35 := hL _ _ (by decide) gq35
  replace gq37 := hL _ _ (by decide) gq37
  replace gq39 := hL _ _ (by decide) gq39
  replace gq41 := hL _ _ (by decide) gq41
  replace gq43 := hL _ _ (by decide) gq43
  replace hLf := hLf.al hL; replace hKN := hKN.al hK (by decide); replace hI := hI.al hL hK (by decide)
  replace hKb := hKb.al hK (by decide)
  replace hOl := hOl.al ho hz
  replace hzq45 : H0.size ≤ q45 := by rw [zq]; exact hz
  replace hz : H0.size ≤ H45.size := by rw [zs]; exact Nat.le_succ_of_le hz
  refine q_putN E hin hC hS hW g0 gq45 fn_RX9_46_359 rfl rfl ⟨by decide, by decide⟩ dX9_init_102 (fun H46 locs46 Γ46 zs eo U46 gz hl5 hk5 hE5 E hC hS hW => ?_)
  replace hx := E.1; replace hb := E.2.1
  replace hI := hI.put hl5 hk5 g0 (by decide)
  replace hKb := hKb.put hE5
  replace gq23 := hl5 _ _ (nek gq23 g0 (by decide)) (by decide) gq23
  replace gq25 := hl5 _ _ (nek gq25 g0 (by decide)) (by decide) gq25
  replace gq27 := hl5 _ _ (nek gq27 g0 (by decide)) (by decide) gq27
  replace gq29 := hl5 _ _ (nek gq29 g0 (by decide)) (by decide) gq29
  replace gq35 := hl5 _ _ (nek gq35 g0 (by decide)) (by decide) gq35
  replace gq37 := hl5 _ _ (nek gq37 g0 (by decide)) (by decide) gq37
  replace gq39 := hl5 _ _ (nek gq39 g0 (by decide)) (by decide) gq39
  replace gq41 := hl5 _ _ (nek gq41 g0 (by decide)) (by decide) gq41
  replace gq43 := hl5 _ _ (nek gq43 g0 (by decide)) (by decide) gq43
  replace gq45 := hl5 _ _ (nek gq45 g0 (by decide)) (by decide) gq45
  replace hOl := hOl.put eo
  replace hLf := hLf.tr hl5; replace hKN := hKN.tr hk5
  replace hz : H0.size ≤ H46.size := by rw [zs]; exact hz
  replace g0 := gz
  refine lv_aload_n hx hb dX9_init_105 rfl (lv_at hl 0 rfl) ?_
  refine lv_bipush (v := 36) hx hb dX9_init_106 rfl ?_
  refine q_newP E hC hS hW (Nat.le_trans hn0 hz) (r := 84) (t := 1) (N := 36) (ty := .int) rfl rfl rfl rfl (fun _ _ h => h) (fun _ => by rfl) w_119 (by decide) (by decide) (by decide) (by decide) (by decide) (by decide) dX9_init_108 (fun q47 H47 Γ47 zq zs ho hcell gq47 hL hK E hC hS hW => ?_)
  replace hx := E.1; replace hb := E.2.1
  replace g0 := hL _ _ (by decide) g0
  replace gq23 := hL _ _ (by decide) gq23
  replace gq25 := hL _ _ (by decide) gq25
  replace gq27 := hL _ _ (by decide) gq27
  replace gq29 := hL _ _ (by decide) gq29
  replace gq35 := hL _ _ (by decide) gq35
  replace gq37 := hL _ _ (by decide) gq37
  replace gq39 := hL _ _ (by decide) gq39
  replace gq41 := hL _ _ (by decide) gq41
  replace gq43 := hL _ _ (by decide) gq43
  replace gq45 := hL _ _ (by decide) gq45
  replace hLf := hLf.al hL; replace hKN := hKN.al hK (by decide); replace hI := hI.al hL hK (by decide)
  replace hKb := hKb.al hK (by decide)
  replace hOl := hOl.al ho hz
  replace hzq47 : H0.size ≤ q47 := by rw [zq]; exact hz
  replace hz : H0.size ≤ H47.size := by rw [zs]; exact Nat.le_succ_of_le hz
  refine q_putN E hin hC hS hW g0 gq47 fn_RX9_49_360 rfl rfl ⟨by decide, by decide⟩ dX9_init_110 (fun H48 locs48 Γ48 zs eo U48 gz hl5 hk5 hE5 E hC hS hW => ?_)
  replace hx := E.1; replace hb := E.2.1
  replace hI := hI.put hl5 hk5 g0 (by decide)
  replace hKb := hKb.put hE5
  replace gq23 := hl5 _ _ (nek gq23 g0 (by decide)) (by decide) gq23
  replace gq25 := hl5 _ _ (nek gq25 g0 (by decide)) (by decide) gq25
  replace gq27 := hl5 _ _ (nek gq27 g0 (by decide)) (by decide) gq27
  replace gq29 := hl5 _ _ (nek gq29 g0 (by decide)) (by decide) gq29
  replace gq35 := hl5 _ _ (nek gq35 g0 (by decide)) (by decide) gq35
  replace gq37 := hl5 _ _ (nek gq37 g0 (by decide)) (by decide) gq37
  replace gq39 := hl5 _ _ (nek gq39 g0 (by decide)) (by decide) gq39
  replace gq41 := hl5 _ _ (nek gq41 g0 (by decide)) (by decide) gq41
  replace gq43 := hl5 _ _ (nek gq43 g0 (by decide)) (by decide) gq43
  replace gq45 := hl5 _ _ (nek gq45 g0 (by decide)) (by decide) gq45
  replace gq47 := hl5 _ _ (nek gq47 g0 (by decide)) (by decide) gq47
  replace hOl := hOl.put eo
  replace hLf := hLf.tr hl5; replace hKN := hKN.tr hk5
  replace hz : H0.size ≤ H48.size := by rw [zs]; exact hz
  replace g0 := gz
  exact ret H48 Γ48 _ _ _ dX9_init_113 g0 hLf hW hI ⟨hKN, hOl, hKb⟩ hC hS
set_option maxRecDepth 100000 in
set_option maxHeartbeats 4000000 in
theorem m_X2_init (l : Launch) (X : xW) (Γ : Nat → Option Nat) (H0 : Heap) (n0 : Nat) (hC0 : Conf X Γ H0) (hW0 : NwG Γ n0 H0) (hn0 : n0 ≤ H0.size) (h0 : Nat) (g0 : Γ h0 = some 380)  : CtrN l X Γ n0 yX2_init cX2_init 1 1 6 360 [.ref h0] H0 h0 6 (fun H1 Γ1 => KN Γ Γ1 ∧ Ol h0 H0 H1 ∧ KNb h0 2 Γ Γ1) := by
  refine q_enterN (own := "SnowForts$Orders") (by decide) rfl rfl (Nat.le_of_ble_eq_true rfl) hW0.2 ?_
  intro p e s m args below meth c ls Qz E hAO hin hl ret hS
  have hx := E.1; have hb := E.2.1; have hC := hC0; have hW := hW0
  have hl : lv_has ls 1 [(0, .ref h0)] := hl
  have hLf : Lf h0 Γ Γ := Lf.rf; have hKN : KN Γ Γ := KN.rf; have hI : I12 Γ Γ := I12.rf
  have hlt0 : h0 < H0.size := nw_lt hW0 g0 (by decide); have hz : H0.size ≤ H0.size := Nat.le_refl _
  have hKb : KNb h0 2 Γ Γ := KNb.rf
  have hOl : Ol h0 H0 H0 := Ol.rf
  refine lv_aload_n hx hb dX2_init_0 rfl (lv_at hl 0 rfl) ?_
  refine W.objInit hx hb E.2.2.2.1 (E.2.2.2.2.1 _ w_243) (E.2.2.2.2.1 _ w_27) (E.2.2.2.2.1 _ w_28) rfl (hl.1.trans E.2.2.1.symm) rfl dX2_init_1 (by decide) (Nat.le_trans (Nat.add_le_add_right (lv_room (Nat.zero_le _)) 12) (by decide)) ?_
  refine lv_aload_n hx hb dX2_init_4 rfl (lv_at hl 0 rfl) ?_
  refine lv_bipush (v := 60) hx hb dX2_init_5 rfl ?_
  refine q_newP E hC hS hW (Nat.le_trans hn0 hz) (r := 43) (t := 1) (N := 60) (ty := .int) rfl rfl rfl rfl (fun _ _ h => h) (fun _ => by rfl) w_119 (by decide) (by decide) (by decide) (by decide) (by decide) (by decide) dX2_init_7 (fun q21 H21 Γ21 zq zs ho hcell gq21 hL hK E hC hS hW => ?_)
  replace hx := E.1; replace hb := E.2.1
  replace g0 := hL _ _ (by decide) g0
  replace hLf := hLf.al hL; replace hKN := hKN.al hK (by decide); replace hI := hI.al hL hK (by decide)
  replace hKb := hKb.al hK (by decide)
  replace hOl := hOl.al ho hz
  replace hzq21 : H0.size ≤ q21 := by rw [zq]; exact hz
  replace hz : H0.size ≤ H21.size := by rw [zs]; exact Nat.le_succ_of_le hz
  refine q_putN E hin hC hS hW g0 gq21 fn_RX2_9_380 rfl rfl ⟨by decide, by decide⟩ dX2_init_9 (fun H22 locs22 Γ22 zs eo U22 gz hl5 hk5 hE5 E hC hS hW => ?_)
  replace hx := E.1; replace hb := E.2.1
  replace hI := hI.put hl5 hk5 g0 (by decide)
  replace hKb := hKb.put hE5
  replace gq21 := hl5 _ _ (nek gq21 g0 (by decide)) (by decide) gq21
  replace hOl := hOl.put eo
  replace hLf := hLf.tr hl5; replace hKN := hKN.tr hk5
  replace hz : H0.size ≤ H22.size := by rw [zs]; exact hz
  replace g0 := gz
  refine lv_aload_n hx hb dX2_init_12 rfl (lv_at hl 0 rfl) ?_
  refine lv_bipush (v := 60) hx hb dX2_init_13 rfl ?_
  refine q_newP E hC hS hW (Nat.le_trans hn0 hz) (r := 43) (t := 1) (N := 60) (ty := .int) rfl rfl rfl rfl (fun _ _ h => h) (fun _ => by rfl) w_119 (by decide) (by decide) (by decide) (by decide) (by decide) (by decide) dX2_init_15 (fun q23 H23 Γ23 zq zs ho hcell gq23 hL hK E hC hS hW => ?_)
  replace hx := E.1; replace hb := E.2.1
  replace g0 := hL _ _ (by decide) g0
  replace gq21 := hL _ _ (by decide) gq21
  replace hLf := hLf.al hL; replace hKN := hKN.al hK (by decide); replace hI := hI.al hL hK (by decide)
  replace hKb := hKb.al hK (by decide)
  replace hOl := hOl.al ho hz
  replace hzq23 : H0.size ≤ q23 := by rw [zq]; exact hz
  replace hz : H0.size ≤ H23.size := by rw [zs]; exact Nat.le_succ_of_le hz
  refine q_putN E hin hC hS hW g0 gq23 fn_RX2_13_381 rfl rfl ⟨by decide, by decide⟩ dX2_init_17 (fun H24 locs24 Γ24 zs eo U24 gz hl5 hk5 hE5 E hC hS hW => ?_)
  replace hx := E.1; replace hb := E.2.1
  replace hI := hI.put hl5 hk5 g0 (by decide)
  replace hKb := hKb.put hE5
  replace gq21 := hl5 _ _ (nek gq21 g0 (by decide)) (by decide) gq21
  replace gq23 := hl5 _ _ (nek gq23 g0 (by decide)) (by decide) gq23
  replace hOl := hOl.put eo
  replace hLf := hLf.tr hl5; replace hKN := hKN.tr hk5
  replace hz : H0.size ≤ H24.size := by rw [zs]; exact hz
  replace g0 := gz
  refine lv_aload_n hx hb dX2_init_20 rfl (lv_at hl 0 rfl) ?_
  refine lv_bipush (v := 60) hx hb dX2_init_21 rfl ?_
  refine q_newP E hC hS hW (Nat.le_trans hn0 hz) (r := 43) (t := 1) (N := 60) (ty := .int) rfl rfl rfl rfl (fun _ _ h => h) (fun _ => by rfl) w_119 (by decide) (by decide) (by decide) (by decide) (by decide) (by decide) dX2_init_23 (fun q25 H25 Γ25 zq zs ho hcell gq25 hL hK E hC hS hW => ?_)
  replace hx := E.1; replace hb := E.2.1
  replace g0 := hL _ _ (by decide) g0
  replace gq21 := hL _ _ (by decide) gq21
  replace gq23 := hL _ _ (by decide) gq23
  replace hLf := hLf.al hL; replace hKN := hKN.al hK (by decide); replace hI := hI.al hL hK (by decide)
  replace hKb := hKb.al hK (by decide)
  replace hOl := hOl.al ho hz
  replace hzq25 : H0.size ≤ q25 := by rw [zq]; exact hz
  replace hz : H0.size ≤ H25.size := by rw [zs]; exact Nat.le_succ_of_le hz
  refine q_putN E hin hC hS hW g0 gq25 fn_RX2_16_382 rfl rfl ⟨by decide, by decide⟩ dX2_init_25 (fun H26 locs26 Γ26 zs eo U26 gz hl5 hk5 hE5 E hC hS hW => ?_)
  replace hx := E.1; replace hb := E.2.1
  replace hI := hI.put hl5 hk5 g0 (by decide)
  replace hKb := hKb.put hE5
  replace gq21 := hl5 _ _ (nek gq21 g0 (by decide)) (by decide) gq21
  replace gq23 := hl5 _ _ (nek gq23 g0 (by decide)) (by decide) gq23
  replace gq25 := hl5 _ _ (nek gq25 g0 (by decide)) (by decide) gq25
  replace hOl := hOl.put eo
  replace hLf := hLf.tr hl5; replace hKN := hKN.tr hk5
  replace hz : H0.size ≤ H26.size := by rw [zs]; exact hz
  replace g0 := gz
  refine lv_aload_n hx hb dX2_init_28 rfl (lv_at hl 0 rfl) ?_
  refine lv_bipush (v := 60) hx hb dX2_init_29 rfl ?_
  refine q_newP E hC hS hW (Nat.le_trans hn0 hz) (r := 43) (t := 1) (N := 60) (ty := .int) rfl rfl rfl rfl (fun _ _ h => h) (fun _ => by rfl) w_119 (by decide) (by decide) (by decide) (by decide) (by decide) (by decide) dX2_init_31 (fun q27 H27 Γ27 zq zs ho hcell gq27 hL hK E hC hS hW => ?_)
  replace hx := E.1; replace hb := E.2.1
  replace g0 := hL _ _ (by decide) g0
  replace gq21 := hL _ _ (by decide) gq21
  replace gq23 := hL _ _ (by decide) gq23
  replace gq25 := hL _ _ (by decide) gq25
  replace hLf := hLf.al hL; replace hKN := hKN.al hK (by decide); replace hI := hI.al hL hK (by decide)
  replace hKb := hKb.al hK (by decide)
  replace hOl := hOl.al ho hz
  replace hzq27 : H0.size ≤ q27 := by rw [zq]; exact hz
  replace hz : H0.size ≤ H27.size := by rw [zs]; exact Nat.le_succ_of_le hz
  refine q_putN E hin hC hS hW g0 gq27 fn_RX2_19_383 rfl rfl ⟨by decide, by decide⟩ dX2_init_33 (fun H28 locs28 Γ28 zs eo U28 gz hl5 hk5 hE5 E hC hS hW => ?_)
  replace hx := E.1; replace hb := E.2.1
  replace hI := hI.put hl5 hk5 g0 (by decide)
  replace hKb := hKb.put hE5
  replace gq21 := hl5 _ _ (nek gq21 g0 (by decide)) (by decide) gq21
  replace gq23 := hl5 _ _ (nek gq23 g0 (by decide)) (by decide) gq23
  replace gq25 := hl5 _ _ (nek gq25 g0 (by decide)) (by decide) gq25
  replace gq27 := hl5 _ _ (nek gq27 g0 (by decide)) (by decide) gq27
  replace hOl := hOl.put eo
  replace hLf := hLf.tr hl5; replace hKN := hKN.tr hk5
  replace hz : H0.size ≤ H28.size := by rw [zs]; exact hz
  replace g0 := gz
  refine lv_aload_n hx hb dX2_init_36 rfl (lv_at hl 0 rfl) ?_
  refine lv_bipush (v := 60) hx hb dX2_init_37 rfl ?_
  refine q_newP E hC hS hW (Nat.le_trans hn0 hz) (r := 43) (t := 1) (N := 60) (ty := .int) rfl rfl rfl rfl (fun _ _ h => h) (fun _ => by rfl) w_119 (by decide) (by decide) (by decide) (by decide) (by decide) (by decide) dX2_init_39 (fun q29 H29 Γ29 zq zs ho hcell gq29 hL hK E hC hS hW => ?_)
  replace hx := E.1; replace hb := E.2.1
  replace g0 := hL _ _ (by decide) g0
  replace gq21 := hL _ _ (by decide) gq21
  replace gq23 := hL _ _ (by decide) gq23
  replace gq25 := hL _ _ (by decide) gq25
  replace gq27 := hL _ _ (by decide) gq27
  replace hLf := hLf.al hL; replace hKN := hKN.al hK (by decide); replace hI := hI.al hL hK (by decide)
  replace hKb := hKb.al hK (by decide)
  replace hOl := hOl.al ho hz
  replace hzq29 : H0.size ≤ q29 := by rw [zq]; exact hz
  replace hz : H0.size ≤ H29.size := by rw [zs]; exact Nat.le_succ_of_le hz
  refine q_putN E hin hC hS hW g0 gq29 fn_RX2_22_384 rfl rfl ⟨by decide, by decide⟩ dX2_init_41 (fun H30 locs30 Γ30 zs eo U30 gz hl5 hk5 hE5 E hC hS hW => ?_)
  replace hx := E.1; replace hb := E.2.1
  replace hI := hI.put hl5 hk5 g0 (by decide)
  replace hKb := hKb.put hE5
  replace gq21 := hl5 _ _ (nek gq21 g0 (by decide)) (by decide) gq21
  replace gq23 := hl5 _ _ (nek gq23 g0 (by decide)) (by decide) gq23
  replace gq25 := hl5 _ _ (nek gq25 g0 (by decide)) (by decide) gq25
  replace gq27 := hl5 _ _ (nek gq27 g0 (by decide)) (by decide) gq27
  replace gq29 := hl5 _ _ (nek gq29 g0 (by decide)) (by decide) gq29
  replace hOl := hOl.put eo
  replace hLf := hLf.tr hl5; replace hKN := hKN.tr hk5
  replace hz : H0.size ≤ H30.size := by rw [zs]; exact hz
  replace g0 := gz
  refine lv_aload_n hx hb dX2_init_44 rfl (lv_at hl 0 rfl) ?_
  refine lv_bipush (v := 60) hx hb dX2_init_45 rfl ?_
  refine q_newP E hC hS hW (Nat.le_trans hn0 hz) (r := 43) (t := 1) (N := 60) (ty := .int) rfl rfl rfl rfl (fun _ _ h => h) (fun _ => by rfl) w_119 (by decide) (by decide) (by decide) (by decide) (by decide) (by decide) dX2_init_47 (fun q31 H31 Γ31 zq zs ho hcell gq31 hL hK E hC hS hW => ?_)
  replace hx := E.1; replace hb := E.2.1
  replace g0 := hL _ _ (by decide) g0
  replace gq21 := hL _ _ (by decide) gq21
  replace gq23 := hL _ _ (by decide) gq23
  replace gq25 := hL _ _ (by decide) gq25
  replace gq27 := hL _ _ (by decide) gq27
  replace gq29 := hL _ _ (by decide) gq29
  replace hLf := hLf.al hL; replace hKN := hKN.al hK (by decide); replace hI := hI.al hL hK (by decide)
  replace hKb := hKb.al hK (by decide)
  replace hOl := hOl.al ho hz
  replace hzq31 : H0.size ≤ q31 := by rw [zq]; exact hz
  replace hz : H0.size ≤ H31.size := by rw [zs]; exact Nat.le_succ_of_le hz
  refine q_putN E hin hC hS hW g0 gq31 fn_RX2_25_385 rfl rfl ⟨by decide, by decide⟩ dX2_init_49 (fun H32 locs32 Γ32 zs eo U32 gz hl5 hk5 hE5 E hC hS hW => ?_)
  replace hx := E.1; replace hb := E.2.1
  replace hI := hI.put hl5 hk5 g0 (by decide)
  replace hKb := hKb.put hE5
  replace gq21 := hl5 _ _ (nek gq21 g0 (by decide)) (by decide) gq21
  replace gq23 := hl5 _ _ (nek gq23 g0 (by decide)) (by decide) gq23
  replace gq25 := hl5 _ _ (nek gq25 g0 (by decide)) (by decide) gq25
  replace gq27 := hl5 _ _ (nek gq27 g0 (by decide)) (by decide) gq27
  replace gq29 := hl5 _ _ (nek gq29 g0 (by decide)) (by decide) gq29
  replace gq31 := hl5 _ _ (nek gq31 g0 (by decide)) (by decide) gq31
  replace hOl := hOl.put eo
  replace hLf := hLf.tr hl5; replace hKN := hKN.tr hk5
  replace hz : H0.size ≤ H32.size := by rw [zs]; exact hz
  replace g0 := gz
  exact ret H32 Γ32 _ _ _ dX2_init_52 g0 hLf hW hI ⟨hKN, hOl, hKb⟩ hC hS
set_option maxRecDepth 100000 in
set_option maxHeartbeats 4000000 in
theorem m_X7_init (l : Launch) (X : xW) (Γ : Nat → Option Nat) (H0 : Heap) (n0 : Nat) (hC0 : Conf X Γ H0) (hW0 : NwG Γ n0 H0) (hn0 : n0 ≤ H0.size) (h0 : Nat) (g0 : Γ h0 = some 410)  (fl : sI H0 h0 (X.1.2 7 4) = 0) : CtrN l X Γ n0 yX7_init cX7_init 1 1 3 108 [.ref h0] H0 h0 7 (fun H1 Γ1 => KN Γ Γ1 ∧ Ol h0 H0 H1 ∧ KNb h0 2 Γ Γ1 ∧ sI H1 h0 (X.1.2 7 4) = 0) := by
  refine q_enterN (own := "SnowForts$Walk") (by decide) rfl rfl (Nat.le_of_ble_eq_true rfl) hW0.2 ?_
  intro p e s m args below meth c ls Qz E hAO hin hl ret hS
  have hx := E.1; have hb := E.2.1; have hC := hC0; have hW := hW0
  have hl : lv_has ls 1 [(0, .ref h0)] := hl
  have hLf : Lf h0 Γ Γ := Lf.rf; have hKN : KN Γ Γ := KN.rf; have hI : I12 Γ Γ := I12.rf
  have hlt0 : h0 < H0.size := nw_lt hW0 g0 (by decide); have hz : H0.size ≤ H0.size := Nat.le_refl _
  have hKb : KNb h0 2 Γ Γ := KNb.rf
  have hOl : Ol h0 H0 H0 := Ol.rf
  refine lv_aload_n hx hb dX7_init_0 rfl (lv_at hl 0 rfl) ?_
  refine W.objInit hx hb E.2.2.2.1 (E.2.2.2.2.1 _ w_289) (E.2.2.2.2.1 _ w_27) (E.2.2.2.2.1 _ w_28) rfl (hl.1.trans E.2.2.1.symm) rfl dX7_init_1 (by decide) (Nat.le_trans (Nat.add_le_add_right (lv_room (Nat.zero_le _)) 12) (by decide)) ?_
  refine lv_aload_n hx hb dX7_init_4 rfl (lv_at hl 0 rfl) ?_
  refine lv_bipush (v := 36) hx hb dX7_init_5 rfl ?_
  refine q_newP E hC hS hW (Nat.le_trans hn0 hz) (r := 50) (t := 1) (N := 36) (ty := .int) rfl rfl rfl rfl (fun _ _ h => h) (fun _ => by rfl) w_119 (by decide) (by decide) (by decide) (by decide) (by decide) (by decide) dX7_init_7 (fun q21 H21 Γ21 zq zs ho hcell gq21 hL hK E hC hS hW => ?_)
  replace hx := E.1; replace hb := E.2.1
  replace g0 := hL _ _ (by decide) g0
  replace hLf := hLf.al hL; replace hKN := hKN.al hK (by decide); replace hI := hI.al hL hK (by decide)
  replace hKb := hKb.al hK (by decide)
  replace fl := (sI_al (j := X.1.2 7 4) ho (Nat.lt_of_lt_of_le hlt0 hz)).trans fl
  replace hOl := hOl.al ho hz
  replace hzq21 : H0.size ≤ q21 := by rw [zq]; exact hz
  replace hz : H0.size ≤ H21.size := by rw [zs]; exact Nat.le_succ_of_le hz
  refine q_putN E hin hC hS hW g0 gq21 fn_RX7_9_410 rfl rfl ⟨by decide, by decide⟩ dX7_init_9 (fun H22 locs22 Γ22 zs eo U22 gz hl5 hk5 hE5 E hC hS hW => ?_)
  replace hx := E.1; replace hb := E.2.1
  replace hI := hI.put hl5 hk5 g0 (by decide)
  replace hKb := hKb.put hE5
  replace fl := (up_nI U22 (ne_f E 7 4 0 rfl (by decide) (by decide) (by decide))).trans fl
  replace gq21 := hl5 _ _ (nek gq21 g0 (by decide)) (by decide) gq21
  replace hOl := hOl.put eo
  replace hLf := hLf.tr hl5; replace hKN := hKN.tr hk5
  replace hz : H0.size ≤ H22.size := by rw [zs]; exact hz
  replace g0 := gz
  refine lv_aload_n hx hb dX7_init_12 rfl (lv_at hl 0 rfl) ?_
  refine lv_bipush (v := 36) hx hb dX7_init_13 rfl ?_
  refine q_newP E hC hS hW (Nat.le_trans hn0 hz) (r := 51) (t := 1) (N := 36) (ty := .int) rfl rfl rfl rfl (fun _ _ h => h) (fun _ => by rfl) w_119 (by decide) (by decide) (by decide) (by decide) (by decide) (by decide) dX7_init_15 (fun q23 H23 Γ23 zq zs ho hcell gq23 hL hK E hC hS hW => ?_)
  replace hx := E.1; replace hb := E.2.1
  replace g0 := hL _ _ (by decide) g0
  replace gq21 := hL _ _ (by decide) gq21
  replace hLf := hLf.al hL; replace hKN := hKN.al hK (by decide); replace hI := hI.al hL hK (by decide)
  replace hKb := hKb.al hK (by decide)
  replace fl := (sI_al (j := X.1.2 7 4) ho (Nat.lt_of_lt_of_le hlt0 hz)).trans fl
  replace hOl := hOl.al ho hz
  replace hzq23 : H0.size ≤ q23 := by rw [zq]; exact hz
  replace hz : H0.size ≤ H23.size := by rw [zs]; exact Nat.le_succ_of_le hz
  refine q_putN E hin hC hS hW g0 gq23 fn_RX7_15_411 rfl rfl ⟨by decide, by decide⟩ dX7_init_17 (fun H24 locs24 Γ24 zs eo U24 gz hl5 hk5 hE5 E hC hS hW => ?_)
  replace hx := E.1; replace hb := E.2.1
  replace hI := hI.put hl5 hk5 g0 (by decide)
  replace hKb := hKb.put hE5
  replace fl := (up_nI U24 (ne_f E 7 4 2 rfl (by decide) (by decide) (by decide))).trans fl
  replace gq21 := hl5 _ _ (nek gq21 g0 (by decide)) (by decide) gq21
  replace gq23 := hl5 _ _ (nek gq23 g0 (by decide)) (by decide) gq23
  replace hOl := hOl.put eo
  replace hLf := hLf.tr hl5; replace hKN := hKN.tr hk5
  replace hz : H0.size ≤ H24.size := by rw [zs]; exact hz
  replace g0 := gz
  refine lv_aload_n hx hb dX7_init_20 rfl (lv_at hl 0 rfl) ?_
  refine lv_bipush (v := 36) hx hb dX7_init_21 rfl ?_
  refine q_newP E hC hS hW (Nat.le_trans hn0 hz) (r := 52) (t := 1) (N := 36) (ty := .int) rfl rfl rfl rfl (fun _ _ h => h) (fun _ => by rfl) w_119 (by decide) (by decide) (by decide) (by decide) (by decide) (by decide) dX7_init_23 (fun q25 H25 Γ25 zq zs ho hcell gq25 hL hK E hC hS hW => ?_)
  replace hx := E.1; replace hb := E.2.1
  replace g0 := hL _ _ (by decide) g0
  replace gq21 := hL _ _ (by decide) gq21
  replace gq23 := hL _ _ (by decide) gq23
  replace hLf := hLf.al hL; replace hKN := hKN.al hK (by decide); replace hI := hI.al hL hK (by decide)
  replace hKb := hKb.al hK (by decide)
  replace fl := (sI_al (j := X.1.2 7 4) ho (Nat.lt_of_lt_of_le hlt0 hz)).trans fl
  replace hOl := hOl.al ho hz
  replace hzq25 : H0.size ≤ q25 := by rw [zq]; exact hz
  replace hz : H0.size ≤ H25.size := by rw [zs]; exact Nat.le_succ_of_le hz
  refine q_putN E hin hC hS hW g0 gq25 fn_RX7_18_412 rfl rfl ⟨by decide, by decide⟩ dX7_init_25 (fun H26 locs26 Γ26 zs eo U26 gz hl5 hk5 hE5 E hC hS hW => ?_)
  replace hx := E.1; replace hb := E.2.1
  replace hI := hI.put hl5 hk5 g0 (by decide)
  replace hKb := hKb.put hE5
  replace fl := (up_nI U26 (ne_f E 7 4 3 rfl (by decide) (by decide) (by decide))).trans fl
  replace gq21 := hl5 _ _ (nek gq21 g0 (by decide)) (by decide) gq21
  replace gq23 := hl5 _ _ (nek gq23 g0 (by decide)) (by decide) gq23
  replace gq25 := hl5 _ _ (nek gq25 g0 (by decide)) (by decide) gq25
  replace hOl := hOl.put eo
  replace hLf := hLf.tr hl5; replace hKN := hKN.tr hk5
  replace hz : H0.size ≤ H26.size := by rw [zs]; exact hz
  replace g0 := gz
  exact ret H26 Γ26 _ _ _ dX7_init_28 g0 hLf hW hI ⟨hKN, hOl, hKb, fl⟩ hC hS
set_option maxRecDepth 100000 in
set_option maxHeartbeats 4000000 in
theorem m_X0_init (l : Launch) (X : xW) (Γ : Nat → Option Nat) (H0 : Heap) (n0 : Nat) (hC0 : Conf X Γ H0) (hW0 : NwG Γ n0 H0) (hn0 : n0 ≤ H0.size) (h0 : Nat) (g0 : Γ h0 = some 8)  : CtrN l X Γ n0 yX0_init cX0_init 1 1 0 0 [.ref h0] H0 h0 8 (fun H1 Γ1 => KN Γ Γ1 ∧ Ol h0 H0 H1 ∧ KNb h0 2 Γ Γ1) := by
  refine q_enterN (own := "SnowForts$Mornings") (by decide) rfl rfl (Nat.le_of_ble_eq_true rfl) hW0.2 ?_
  intro p e s m args below meth c ls Qz E hAO hin hl ret hS
  have hx := E.1; have hb := E.2.1; have hC := hC0; have hW := hW0
  have hl : lv_has ls 1 [(0, .ref h0)] := hl
  have hLf : Lf h0 Γ Γ := Lf.rf; have hKN : KN Γ Γ := KN.rf; have hI : I12 Γ Γ := I12.rf
  have hlt0 : h0 < H0.size := nw_lt hW0 g0 (by decide); have hz : H0.size ≤ H0.size := Nat.le_refl _
  have hKb : KNb h0 2 Γ Γ := KNb.rf
  have hOl : Ol h0 H0 H0 := Ol.rf
  refine lv_aload_n hx hb dX0_init_0 rfl (lv_at hl 0 rfl) ?_
  refine W.objInit hx hb E.2.2.2.1 (E.2.2.2.2.1 _ w_322) (E.2.2.2.2.1 _ w_27) (E.2.2.2.2.1 _ w_28) rfl (hl.1.trans E.2.2.1.symm) rfl dX0_init_1 (by decide) (Nat.le_trans (Nat.add_le_add_right (lv_room (Nat.zero_le _)) 12) (by decide)) ?_
  exact ret H0 Γ _ _ _ dX0_init_4 g0 hLf hW hI ⟨hKN, hOl, hKb⟩ hC hS
set_option maxRecDepth 100000 in
set_option maxHeartbeats 4000000 in
theorem m_X1_init (l : Launch) (X : xW) (Γ : Nat → Option Nat) (H0 : Heap) (n0 : Nat) (hC0 : Conf X Γ H0) (hW0 : NwG Γ n0 H0) (hn0 : n0 ≤ H0.size) (h0 : Nat) (g0 : Γ h0 = some 470)  : CtrN l X Γ n0 yX1_init cX1_init 1 1 1 100 [.ref h0] H0 h0 9 (fun H1 Γ1 => KN Γ Γ1 ∧ Ol h0 H0 H1 ∧ KNb h0 2 Γ Γ1) := by
  refine q_enterN (own := "SnowForts$Odds") (by decide) rfl rfl (Nat.le_of_ble_eq_true rfl) hW0.2 ?_
  intro p e s m args below meth c ls Qz E hAO hin hl ret hS
  have hx := E.1; have hb := E.2.1; have hC := hC0; have hW := hW0
  have hl : lv_has ls 1 [(0, .ref h0)] := hl
  have hLf : Lf h0 Γ Γ := Lf.rf; have hKN : KN Γ Γ := KN.rf; have hI : I12 Γ Γ := I12.rf
  have hlt0 : h0 < H0.size := nw_lt hW0 g0 (by decide); have hz : H0.size ≤ H0.size := Nat.le_refl _
  have hKb : KNb h0 2 Γ Γ := KNb.rf
  have hOl : Ol h0 H0 H0 := Ol.rf
  refine lv_aload_n hx hb dX1_init_0 rfl (lv_at hl 0 rfl) ?_
  refine W.objInit hx hb E.2.2.2.1 (E.2.2.2.2.1 _ w_337) (E.2.2.2.2.1 _ w_27) (E.2.2.2.2.1 _ w_28) rfl (hl.1.trans E.2.2.1.symm) rfl dX1_init_1 (by decide) (Nat.le_trans (Nat.add_le_add_right (lv_room (Nat.zero_le _)) 12) (by decide)) ?_
  refine lv_aload_n hx hb dX1_init_4 rfl (lv_at hl 0 rfl) ?_
  refine lv_lconst (v := 1) hx hb dX1_init_5 rfl ?_
  refine q_putZ E hC hS g0 fpz_RX1_7_470 tv_J rfl rfl dX1_init_6 (fun H21 locs21 zs eo hC hS U21 => ?_)
  replace hOl := hOl.put eo
  replace hW := hW.up (Nat.le_of_eq zs.symm)
  replace hz : H0.size ≤ H21.size := by rw [zs]; exact hz
  refine lv_aload_n hx hb dX1_init_9 rfl (lv_at hl 0 rfl) ?_
  refine lv_bipush (v := 100) hx hb dX1_init_10 rfl ?_
  refine q_newP E hC hS hW (Nat.le_trans hn0 hz) (r := 53) (t := 2) (N := 100) (ty := .long) rfl rfl rfl rfl (fun _ _ h => h) (fun _ => by rfl) w_45 (by decide) (by decide) (by decide) (by decide) (by decide) (by decide) dX1_init_12 (fun q22 H22 Γ22 zq zs ho hcell gq22 hL hK E hC hS hW => ?_)
  replace hx := E.1; replace hb := E.2.1
  replace g0 := hL _ _ (by decide) g0
  replace hLf := hLf.al hL; replace hKN := hKN.al hK (by decide); replace hI := hI.al hL hK (by decide)
  replace hKb := hKb.al hK (by decide)
  replace hOl := hOl.al ho hz
  replace hzq22 : H0.size ≤ q22 := by rw [zq]; exact hz
  replace hz : H0.size ≤ H22.size := by rw [zs]; exact Nat.le_succ_of_le hz
  refine q_putN E hin hC hS hW g0 gq22 fn_RX1_13_470 rfl rfl ⟨by decide, by decide⟩ dX1_init_14 (fun H23 locs23 Γ23 zs eo U23 gz hl5 hk5 hE5 E hC hS hW => ?_)
  replace hx := E.1; replace hb := E.2.1
  replace hI := hI.put hl5 hk5 g0 (by decide)
  replace hKb := hKb.put hE5
  replace gq22 := hl5 _ _ (nek gq22 g0 (by decide)) (by decide) gq22
  replace hOl := hOl.put eo
  replace hLf := hLf.tr hl5; replace hKN := hKN.tr hk5
  replace hz : H0.size ≤ H23.size := by rw [zs]; exact hz
  replace g0 := gz
  exact ret H23 Γ23 _ _ _ dX1_init_17 g0 hLf hW hI ⟨hKN, hOl, hKb⟩ hC hS
set_option maxRecDepth 100000 in
set_option maxHeartbeats 4000000 in
theorem m_X5_init (l : Launch) (X : xW) (Γ : Nat → Option Nat) (H0 : Heap) (n0 : Nat) (hC0 : Conf X Γ H0) (hW0 : NwG Γ n0 H0) (hn0 : n0 ≤ H0.size) (h0 : Nat) (g0 : Γ h0 = some 500)  : CtrN l X Γ n0 yX5_init cX5_init 1 1 1 60 [.ref h0] H0 h0 10 (fun H1 Γ1 => KN Γ Γ1 ∧ Ol h0 H0 H1 ∧ KNb h0 2 Γ Γ1) := by
  refine q_enterN (own := "SnowForts$Runner") (by decide) rfl rfl (Nat.le_of_ble_eq_true rfl) hW0.2 ?_
  intro p e s m args below meth c ls Qz E hAO hin hl ret hS
  have hx := E.1; have hb := E.2.1; have hC := hC0; have hW := hW0
  have hl : lv_has ls 1 [(0, .ref h0)] := hl
  have hLf : Lf h0 Γ Γ := Lf.rf; have hKN : KN Γ Γ := KN.rf; have hI : I12 Γ Γ := I12.rf
  have hlt0 : h0 < H0.size := nw_lt hW0 g0 (by decide); have hz : H0.size ≤ H0.size := Nat.le_refl _
  have hKb : KNb h0 2 Γ Γ := KNb.rf
  have hOl : Ol h0 H0 H0 := Ol.rf
  refine lv_aload_n hx hb dX5_init_0 rfl (lv_at hl 0 rfl) ?_
  refine W.objInit hx hb E.2.2.2.1 (E.2.2.2.2.1 _ w_354) (E.2.2.2.2.1 _ w_27) (E.2.2.2.2.1 _ w_28) rfl (hl.1.trans E.2.2.1.symm) rfl dX5_init_1 (by decide) (Nat.le_trans (Nat.add_le_add_right (lv_room (Nat.zero_le _)) 12) (by decide)) ?_
  refine lv_aload_n hx hb dX5_init_4 rfl (lv_at hl 0 rfl) ?_
  refine lv_iconst (v := (-1)) hx hb dX5_init_5 rfl ?_
  refine q_putZ E hC hS g0 fpz_RX5_9_500 (tv_I (show ((-1) : Int32).toInt = (-1) from by decide) (by decide) (by decide)) rfl rfl dX5_init_6 (fun H21 locs21 zs eo hC hS U21 => ?_)
  replace hOl := hOl.put eo
  replace hW := hW.up (Nat.le_of_eq zs.symm)
  replace hz : H0.size ≤ H21.size := by rw [zs]; exact hz
  refine lv_aload_n hx hb dX5_init_9 rfl (lv_at hl 0 rfl) ?_
  refine lv_bipush (v := 60) hx hb dX5_init_10 rfl ?_
  refine q_newP E hC hS hW (Nat.le_trans hn0 hz) (r := 49) (t := 1) (N := 60) (ty := .int) rfl rfl rfl rfl (fun _ _ h => h) (fun _ => by rfl) w_119 (by decide) (by decide) (by decide) (by decide) (by decide) (by decide) dX5_init_12 (fun q22 H22 Γ22 zq zs ho hcell gq22 hL hK E hC hS hW => ?_)
  replace hx := E.1; replace hb := E.2.1
  replace g0 := hL _ _ (by decide) g0
  replace hLf := hLf.al hL; replace hKN := hKN.al hK (by decide); replace hI := hI.al hL hK (by decide)
  replace hKb := hKb.al hK (by decide)
  replace hOl := hOl.al ho hz
  replace hzq22 : H0.size ≤ q22 := by rw [zq]; exact hz
  replace hz : H0.size ≤ H22.size := by rw [zs]; exact Nat.le_succ_of_le hz
  refine q_putN E hin hC hS hW g0 gq22 fn_RX5_17_500 rfl rfl ⟨by decide, by decide⟩ dX5_init_14 (fun H23 locs23 Γ23 zs eo U23 gz hl5 hk5 hE5 E hC hS hW => ?_)
  replace hx := E.1; replace hb := E.2.1
  replace hI := hI.put hl5 hk5 g0 (by decide)
  replace hKb := hKb.put hE5
  replace gq22 := hl5 _ _ (nek gq22 g0 (by decide)) (by decide) gq22
  replace hOl := hOl.put eo
  replace hLf := hLf.tr hl5; replace hKN := hKN.tr hk5
  replace hz : H0.size ≤ H23.size := by rw [zs]; exact hz
  replace g0 := gz
  exact ret H23 Γ23 _ _ _ dX5_init_17 g0 hLf hW hI ⟨hKN, hOl, hKb⟩ hC hS
