set_option maxRecDepth 100000 in
set_option maxHeartbeats 4000000 in
theorem m_X12_init (l : Launch) (X : xW) (Γ : Nat → Option Nat) (H0 : Heap) (n0 : Nat) (hC0 : Conf X Γ H0) (hW0 : NwG Γ n0 H0) (hn0 : n0 ≤ H0.size) (h0 : Nat) (g0 : Γ h0 = some 530)  (mm : sI H0 h0 (X.1.2 11 24) = 0) (mt : sI H0 h0 (X.1.2 11 8) = 0) (mh : sI H0 h0 (X.1.2 11 30) = 0) (v64 : NoK 64 Γ) (v65 : NoK 65 Γ) (v68 : NoK 68 Γ) (v60 : NoK 60 Γ) (v61 : NoK 61 Γ) (v62 : NoK 62 Γ) : CtrN l X Γ n0 yX12_init cX12_init 2 1 15 4548 [.ref h0] H0 h0 11 (MoP X h0 H0 Γ) := by
  refine q_enterN (own := "SnowFortsModel") (by decide) rfl rfl (Nat.le_of_ble_eq_true rfl) hW0.2 ?_
  intro p e s m args below meth c ls Qz E hAO hin hl ret hS
  have hx := E.1; have hb := E.2.1; have hC := hC0; have hW := hW0
  have hl : lv_has ls 2 [(0, .ref h0)] := hl
  have hLf : Lf h0 Γ Γ := Lf.rf; have hKN : KN Γ Γ := KN.rf; have hI : I12 Γ Γ := I12.rf
  have hlt0 : h0 < H0.size := nw_lt hW0 g0 (by decide); have hz : H0.size ≤ H0.size := Nat.le_refl _
  have hKb : KNb h0 2 Γ Γ := KNb.rf
  have hO0 : ∀ x k, k < 60 → k ≠ 13 → Γ x = some k → H0[x]? = H0[x]? := fun _ _ _ _ _ => rfl; have hG0 : ∀ x k, k < 60 → k ≠ 13 → Γ x = some k → Γ x = some k := fun _ _ _ _ h => h
  have u64 := v64; have u65 := v65; have u68 := v68; have u60 := v60; have u61 := v61; have u62 := v62
  refine lv_aload_n hx hb dX12_init_0 rfl (lv_at hl 0 rfl) ?_
  refine W.objInit hx hb E.2.2.2.1 (E.2.2.2.2.1 _ w_1303) (E.2.2.2.2.1 _ w_24) (E.2.2.2.2.1 _ w_25) rfl (hl.1.trans E.2.2.1.symm) rfl dX12_init_1 (by decide) (Nat.le_trans (Nat.add_le_add_right (lv_room (Nat.zero_le _)) 12) (by decide)) ?_
  refine lv_aload_n hx hb dX12_init_4 rfl (lv_at hl 0 rfl) ?_
  refine lv_lconst (v := 1) hx hb dX12_init_5 rfl ?_
  refine q_putZ E hC hS g0 fpz_RX12_7_530 tv_J rfl rfl dX12_init_6 (fun H21 locs21 zs eo hC hS U21 => ?_)
  replace hO0 := fun x k h1 h2 h => (eo x (nek (hG0 x k h1 h2 h) g0 (by omega))).trans (hO0 x k h1 h2 h)
  replace hW := hW.up (Nat.le_of_eq zs.symm)
  replace hz : H0.size ≤ H21.size := by rw [zs]; exact hz
  replace mm : sI H21 h0 (X.1.2 11 24) = 0 := (up_nI U21 (ne_f E 11 24 3 rfl (by decide) (by decide) (by decide))).trans mm
  replace mt : sI H21 h0 (X.1.2 11 8) = 0 := (up_nI U21 (ne_f E 11 8 3 rfl (by decide) (by decide) (by decide))).trans mt
  replace mh : sI H21 h0 (X.1.2 11 30) = 0 := (up_nI U21 (ne_f E 11 30 3 rfl (by decide) (by decide) (by decide))).trans mh
  refine lv_aload_n hx hb dX12_init_9 rfl (lv_at hl 0 rfl) ?_
  refine lv_iconst (v := 4) hx hb dX12_init_10 rfl ?_
  replace hlt9 : ∀ x k, k < 60 → k ≠ 13 → Γ x = some k → x < H21.size := fun x k h1 h2 h => nw_lt hW (hG0 x k h1 h2 h) h2
  refine q_newP E hC hS hW (Nat.le_trans hn0 hz) (r := 60) (t := 1) (N := 4) (ty := .int) rfl rfl rfl rfl (fun _ _ h => h) (fun _ => by rfl) w_122 (by decide) (by decide) (by decide) (by decide) (by decide) (by decide) dX12_init_11 (fun q22 H22 Γ22 zq zs ho hcell gq22 hL hK E hC hS hW => ?_)
  replace hx := E.1; replace hb := E.2.1
  replace g0 := hL _ _ (by decide) g0
  replace hLf := hLf.al hL; replace hKN : True := trivial; replace hI := hI.al hL hK (by decide)
  replace hKb := hKb.al hK (by decide)
  replace hO0 := fun x k h1 h2 h => (ho x (hlt9 x k h1 h2 h)).trans (hO0 x k h1 h2 h); replace hG0 := fun x k h1 h2 h => hL _ _ h2 (hG0 x k h1 h2 h)
  replace mm : sI H22 h0 (X.1.2 11 24) = 0 := (sI_al ho (Nat.lt_of_lt_of_le hlt0 hz)).trans mm
  replace mt : sI H22 h0 (X.1.2 11 8) = 0 := (sI_al ho (Nat.lt_of_lt_of_le hlt0 hz)).trans mt
  replace mh : sI H22 h0 (X.1.2 11 30) = 0 := (sI_al ho (Nat.lt_of_lt_of_le hlt0 hz)).trans mh
  replace u64 := u64.al hK (by decide)
  replace u65 := u65.al hK (by decide)
  replace u68 := u68.al hK (by decide)
  replace u60 := u60.nw hK gq22
  replace u61 := u61.al hK (by decide)
  replace u62 := u62.al hK (by decide)
  replace hzq22 : H0.size ≤ q22 := by rw [zq]; exact hz
  replace hz : H0.size ≤ H22.size := by rw [zs]; exact Nat.le_succ_of_le hz
  refine q_putN E hin hC hS hW g0 gq22 fn_RX12_13_530 rfl rfl ⟨by decide, by decide⟩ dX12_init_13 (fun H23 locs23 Γ23 zs eo U23 gz hl5 hk5 hE5 E hC hS hW => ?_)
  replace hx := E.1; replace hb := E.2.1
  replace hI := hI.put hl5 hk5 g0 (by decide)
  replace hKb := hKb.put hE5
  replace gq22 := hl5 _ _ (nek gq22 g0 (by decide)) (by decide) gq22
  replace hO0 := fun x k h1 h2 h => (eo x (nek (hG0 x k h1 h2 h) g0 (by omega))).trans (hO0 x k h1 h2 h); replace hG0 := fun x k h1 h2 h => hl5 _ _ (nek (hG0 x k h1 h2 h) g0 (by omega)) h2 (hG0 x k h1 h2 h)
  replace hLf := hLf.tr hl5; replace hKN : True := trivial
  replace hz : H0.size ≤ H23.size := by rw [zs]; exact hz
  replace u64 := u64.kn hk5 hl5 (by decide)
  replace u65 := u65.kn hk5 hl5 (by decide)
  replace u68 := u68.kn hk5 hl5 (by decide)
  replace u60 := u60.kn hk5 hl5 (by decide) g0 (by decide)
  replace u61 := u61.kn hk5 hl5 (by decide)
  replace u62 := u62.kn hk5 hl5 (by decide)
  replace g0 := gz
  replace mm : sI H23 h0 (X.1.2 11 24) = 0 := (up_nI U23 (ne_f E 11 24 4 rfl (by decide) (by decide) (by decide))).trans mm
  replace mt : sI H23 h0 (X.1.2 11 8) = 0 := (up_nI U23 (ne_f E 11 8 4 rfl (by decide) (by decide) (by decide))).trans mt
  replace mh : sI H23 h0 (X.1.2 11 30) = 0 := (up_nI U23 (ne_f E 11 30 4 rfl (by decide) (by decide) (by decide))).trans mh
  refine lv_aload_n hx hb dX12_init_16 rfl (lv_at hl 0 rfl) ?_
  refine lv_iconst (v := 4) hx hb dX12_init_17 rfl ?_
  replace hlt9 : ∀ x k, k < 60 → k ≠ 13 → Γ x = some k → x < H23.size := fun x k h1 h2 h => nw_lt hW (hG0 x k h1 h2 h) h2
  refine q_newP E hC hS hW (Nat.le_trans hn0 hz) (r := 61) (t := 1) (N := 4) (ty := .int) rfl rfl rfl rfl (fun _ _ h => h) (fun _ => by rfl) w_122 (by decide) (by decide) (by decide) (by decide) (by decide) (by decide) dX12_init_18 (fun q24 H24 Γ24 zq zs ho hcell gq24 hL hK E hC hS hW => ?_)
  replace hx := E.1; replace hb := E.2.1
  replace g0 := hL _ _ (by decide) g0
  replace gq22 := hL _ _ (by decide) gq22
  replace hLf := hLf.al hL; replace hKN : True := trivial; replace hI := hI.al hL hK (by decide)
  replace hKb := hKb.al hK (by decide)
  replace hO0 := fun x k h1 h2 h => (ho x (hlt9 x k h1 h2 h)).trans (hO0 x k h1 h2 h); replace hG0 := fun x k h1 h2 h => hL _ _ h2 (hG0 x k h1 h2 h)
  replace mm : sI H24 h0 (X.1.2 11 24) = 0 := (sI_al ho (Nat.lt_of_lt_of_le hlt0 hz)).trans mm
  replace mt : sI H24 h0 (X.1.2 11 8) = 0 := (sI_al ho (Nat.lt_of_lt_of_le hlt0 hz)).trans mt
  replace mh : sI H24 h0 (X.1.2 11 30) = 0 := (sI_al ho (Nat.lt_of_lt_of_le hlt0 hz)).trans mh
  replace u64 := u64.al hK (by decide)
  replace u65 := u65.al hK (by decide)
  replace u68 := u68.al hK (by decide)
  replace u60 := u60.al hL hK (by decide) (by decide)
  replace u61 := u61.nw hK gq24
  replace u62 := u62.al hK (by decide)
  replace hzq24 : H0.size ≤ q24 := by rw [zq]; exact hz
  replace hz : H0.size ≤ H24.size := by rw [zs]; exact Nat.le_succ_of_le hz
  refine q_putN E hin hC hS hW g0 gq24 fn_RX12_17_531 rfl rfl ⟨by decide, by decide⟩ dX12_init_20 (fun H25 locs25 Γ25 zs eo U25 gz hl5 hk5 hE5 E hC hS hW => ?_)
  replace hx := E.1; replace hb := E.2.1
  replace hI := hI.put hl5 hk5 g0 (by decide)
  replace hKb := hKb.put hE5
  replace gq22 := hl5 _ _ (nek gq22 g0 (by decide)) (by decide) gq22
  replace gq24 := hl5 _ _ (nek gq24 g0 (by decide)) (by decide) gq24
  replace hO0 := fun x k h1 h2 h => (eo x (nek (hG0 x k h1 h2 h) g0 (by omega))).trans (hO0 x k h1 h2 h); replace hG0 := fun x k h1 h2 h => hl5 _ _ (nek (hG0 x k h1 h2 h) g0 (by omega)) h2 (hG0 x k h1 h2 h)
  replace hLf := hLf.tr hl5; replace hKN : True := trivial
  replace hz : H0.size ≤ H25.size := by rw [zs]; exact hz
  replace u64 := u64.kn hk5 hl5 (by decide)
  replace u65 := u65.kn hk5 hl5 (by decide)
  replace u68 := u68.kn hk5 hl5 (by decide)
  replace u60 := u60.kn hk5 hl5 (by decide) g0 (by decide)
  replace u61 := u61.kn hk5 hl5 (by decide) g0 (by decide)
  replace u62 := u62.kn hk5 hl5 (by decide)
  replace g0 := gz
  replace mm : sI H25 h0 (X.1.2 11 24) = 0 := (up_nI U25 (ne_f E 11 24 5 rfl (by decide) (by decide) (by decide))).trans mm
  replace mt : sI H25 h0 (X.1.2 11 8) = 0 := (up_nI U25 (ne_f E 11 8 5 rfl (by decide) (by decide) (by decide))).trans mt
  replace mh : sI H25 h0 (X.1.2 11 30) = 0 := (up_nI U25 (ne_f E 11 30 5 rfl (by decide) (by decide) (by decide))).trans mh
  refine lv_aload_n hx hb dX12_init_23 rfl (lv_at hl 0 rfl) ?_
  refine lv_sipush (v := 240) hx hb dX12_init_24 rfl ?_
  replace hlt9 : ∀ x k, k < 60 → k ≠ 13 → Γ x = some k → x < H25.size := fun x k h1 h2 h => nw_lt hW (hG0 x k h1 h2 h) h2
  refine q_newP E hC hS hW (Nat.le_trans hn0 hz) (r := 62) (t := 2) (N := 240) (ty := .long) rfl rfl rfl rfl (fun _ _ h => h) (fun _ => by rfl) w_46 (by decide) (by decide) (by decide) (by decide) (by decide) (by decide) dX12_init_27 (fun q26 H26 Γ26 zq zs ho hcell gq26 hL hK E hC hS hW => ?_)
  replace hx := E.1; replace hb := E.2.1
  replace g0 := hL _ _ (by decide) g0
  replace gq22 := hL _ _ (by decide) gq22
  replace gq24 := hL _ _ (by decide) gq24
  replace hLf := hLf.al hL; replace hKN : True := trivial; replace hI := hI.al hL hK (by decide)
  replace hKb := hKb.al hK (by decide)
  replace hO0 := fun x k h1 h2 h => (ho x (hlt9 x k h1 h2 h)).trans (hO0 x k h1 h2 h); replace hG0 := fun x k h1 h2 h => hL _ _ h2 (hG0 x k h1 h2 h)
  replace mm : sI H26 h0 (X.1.2 11 24) = 0 := (sI_al ho (Nat.lt_of_lt_of_le hlt0 hz)).trans mm
  replace mt : sI H26 h0 (X.1.2 11 8) = 0 := (sI_al ho (Nat.lt_of_lt_of_le hlt0 hz)).trans mt
  replace mh : sI H26 h0 (X.1.2 11 30) = 0 := (sI_al ho (Nat.lt_of_lt_of_le hlt0 hz)).trans mh
  replace u64 := u64.al hK (by decide)
  replace u65 := u65.al hK (by decide)
  replace u68 := u68.al hK (by decide)
  replace u60 := u60.al hL hK (by decide) (by decide)
  replace u61 := u61.al hL hK (by decide) (by decide)
  replace u62 := u62.nw hK gq26
  replace hzq26 : H0.size ≤ q26 := by rw [zq]; exact hz
  replace hz : H0.size ≤ H26.size := by rw [zs]; exact Nat.le_succ_of_le hz
  refine q_putN E hin hC hS hW g0 gq26 fn_RX12_20_532 rfl rfl ⟨by decide, by decide⟩ dX12_init_29 (fun H27 locs27 Γ27 zs eo U27 gz hl5 hk5 hE5 E hC hS hW => ?_)
  replace hx := E.1; replace hb := E.2.1
  replace hI := hI.put hl5 hk5 g0 (by decide)
  replace hKb := hKb.put hE5
  replace gq22 := hl5 _ _ (nek gq22 g0 (by decide)) (by decide) gq22
  replace gq24 := hl5 _ _ (nek gq24 g0 (by decide)) (by decide) gq24
  replace gq26 := hl5 _ _ (nek gq26 g0 (by decide)) (by decide) gq26
  replace hO0 := fun x k h1 h2 h => (eo x (nek (hG0 x k h1 h2 h) g0 (by omega))).trans (hO0 x k h1 h2 h); replace hG0 := fun x k h1 h2 h => hl5 _ _ (nek (hG0 x k h1 h2 h) g0 (by omega)) h2 (hG0 x k h1 h2 h)
  replace hLf := hLf.tr hl5; replace hKN : True := trivial
  replace hz : H0.size ≤ H27.size := by rw [zs]; exact hz
  replace u64 := u64.kn hk5 hl5 (by decide)
  replace u65 := u65.kn hk5 hl5 (by decide)
  replace u68 := u68.kn hk5 hl5 (by decide)
  replace u60 := u60.kn hk5 hl5 (by decide) g0 (by decide)
  replace u61 := u61.kn hk5 hl5 (by decide) g0 (by decide)
  replace u62 := u62.kn hk5 hl5 (by decide) g0 (by decide)
  replace g0 := gz
  replace mm : sI H27 h0 (X.1.2 11 24) = 0 := (up_nI U27 (ne_f E 11 24 6 rfl (by decide) (by decide) (by decide))).trans mm
  replace mt : sI H27 h0 (X.1.2 11 8) = 0 := (up_nI U27 (ne_f E 11 8 6 rfl (by decide) (by decide) (by decide))).trans mt
  replace mh : sI H27 h0 (X.1.2 11 30) = 0 := (up_nI U27 (ne_f E 11 30 6 rfl (by decide) (by decide) (by decide))).trans mh
  refine lv_aload_n hx hb dX12_init_32 rfl (lv_at hl 0 rfl) ?_
  refine lv_sipush (v := 900) hx hb dX12_init_33 rfl ?_
  replace hlt9 : ∀ x k, k < 60 → k ≠ 13 → Γ x = some k → x < H27.size := fun x k h1 h2 h => nw_lt hW (hG0 x k h1 h2 h) h2
  refine q_newP E hC hS hW (Nat.le_trans hn0 hz) (r := 63) (t := 0) (N := 900) (ty := .byte) rfl rfl rfl rfl (fun _ _ h => h) (fun _ => by rfl) w_121 (by decide) (by decide) (by decide) (by decide) (by decide) (by decide) dX12_init_36 (fun q28 H28 Γ28 zq zs ho hcell gq28 hL hK E hC hS hW => ?_)
  replace hx := E.1; replace hb := E.2.1
  replace g0 := hL _ _ (by decide) g0
  replace gq22 := hL _ _ (by decide) gq22
  replace gq24 := hL _ _ (by decide) gq24
  replace gq26 := hL _ _ (by decide) gq26
  replace hLf := hLf.al hL; replace hKN : True := trivial; replace hI := hI.al hL hK (by decide)
  replace hKb := hKb.al hK (by decide)
  replace hO0 := fun x k h1 h2 h => (ho x (hlt9 x k h1 h2 h)).trans (hO0 x k h1 h2 h); replace hG0 := fun x k h1 h2 h => hL _ _ h2 (hG0 x k h1 h2 h)
  replace mm : sI H28 h0 (X.1.2 11 24) = 0 := (sI_al ho (Nat.lt_of_lt_of_le hlt0 hz)).trans mm
  replace mt : sI H28 h0 (X.1.2 11 8) = 0 := (sI_al ho (Nat.lt_of_lt_of_le hlt0 hz)).trans mt
  replace mh : sI H28 h0 (X.1.2 11 30) = 0 := (sI_al ho (Nat.lt_of_lt_of_le hlt0 hz)).trans mh
  replace u64 := u64.al hK (by decide)
  replace u65 := u65.al hK (by decide)
  replace u68 := u68.al hK (by decide)
  replace u60 := u60.al hL hK (by decide) (by decide)
  replace u61 := u61.al hL hK (by decide) (by decide)
  replace u62 := u62.al hL hK (by decide) (by decide)
  replace hzq28 : H0.size ≤ q28 := by rw [zq]; exact hz
  replace hz : H0.size ≤ H28.size := by rw [zs]; exact Nat.le_succ_of_le hz
  refine q_putN E hin hC hS hW g0 gq28 fn_RX12_24_533 rfl rfl ⟨by decide, by decide⟩ dX12_init_38 (fun H29 locs29 Γ29 zs eo U29 gz hl5 hk5 hE5 E hC hS hW => ?_)
  replace hx := E.1; replace hb := E.2.1
  replace hI := hI.put hl5 hk5 g0 (by decide)
  replace hKb := hKb.put hE5
  replace gq22 := hl5 _ _ (nek gq22 g0 (by decide)) (by decide) gq22
  replace gq24 := hl5 _ _ (nek gq24 g0 (by decide)) (by decide) gq24
  replace gq26 := hl5 _ _ (nek gq26 g0 (by decide)) (by decide) gq26
  replace gq28 := hl5 _ _ (nek gq28 g0 (by decide)) (by decide) gq28
  replace hO0 := fun x k h1 h2 h => (eo x (nek (hG0 x k h1 h2 h) g0 (by omega))).trans (hO0 x k h1 h2 h); replace hG0 := fun x k h1 h2 h => hl5 _ _ (nek (hG0 x k h1 h2 h) g0 (by omega)) h2 (hG0 x k h1 h2 h)
  replace hLf := hLf.tr hl5; replace hKN : True := trivial
  replace hz : H0.size ≤ H29.size := by rw [zs]; exact hz
  replace u64 := u64.kn hk5 hl5 (by decide)
  replace u65 := u65.kn hk5 hl5 (by decide)
  replace u68 := u68.kn hk5 hl5 (by decide)
  replace u60 := u60.kn hk5 hl5 (by decide) g0 (by decide)
  replace u61 := u61.kn hk5 hl5 (by decide) g0 (by decide)
  replace u62 := u62.kn hk5 hl5 (by decide) g0 (by decide)
  replace g0 := gz
  replace mm : sI H29 h0 (X.1.2 11 24) = 0 := (up_nI U29 (ne_f E 11 24 7 rfl (by decide) (by decide) (by decide))).trans mm
  replace mt : sI H29 h0 (X.1.2 11 8) = 0 := (up_nI U29 (ne_f E 11 8 7 rfl (by decide) (by decide) (by decide))).trans mt
  replace mh : sI H29 h0 (X.1.2 11 30) = 0 := (up_nI U29 (ne_f E 11 30 7 rfl (by decide) (by decide) (by decide))).trans mh
  refine lv_aload_n hx hb dX12_init_41 rfl (lv_at hl 0 rfl) ?_
  refine lv_iconst (v := (-1)) hx hb dX12_init_42 rfl ?_
  refine q_putZ E hC hS g0 fpz_RX12_28_534 (tv_I (show ((-1) : Int32).toInt = (-1) from by decide) (by decide) (by decide)) rfl rfl dX12_init_43 (fun H30 locs30 zs eo hC hS U30 => ?_)
  replace hO0 := fun x k h1 h2 h => (eo x (nek (hG0 x k h1 h2 h) g0 (by omega))).trans (hO0 x k h1 h2 h)
  replace hW := hW.up (Nat.le_of_eq zs.symm)
  replace hz : H0.size ≤ H30.size := by rw [zs]; exact hz
  replace mm : sI H30 h0 (X.1.2 11 24) = 0 := (up_nI U30 (ne_f E 11 24 10 rfl (by decide) (by decide) (by decide))).trans mm
  replace mt : sI H30 h0 (X.1.2 11 8) = 0 := (up_nI U30 (ne_f E 11 8 10 rfl (by decide) (by decide) (by decide))).trans mt
  replace mh : sI H30 h0 (X.1.2 11 30) = 0 := (up_nI U30 (ne_f E 11 30 10 rfl (by decide) (by decide) (by decide))).trans mh
  refine lv_aload_n hx hb dX12_init_46 rfl (lv_at hl 0 rfl) ?_
  refine lv_iconst (v := (-1)) hx hb dX12_init_47 rfl ?_
  refine q_putZ E hC hS g0 fpz_RX12_32_534 (tv_I (show ((-1) : Int32).toInt = (-1) from by decide) (by decide) (by decide)) rfl rfl dX12_init_48 (fun H31 locs31 zs eo hC hS U31 => ?_)
  replace hO0 := fun x k h1 h2 h => (eo x (nek (hG0 x k h1 h2 h) g0 (by omega))).trans (hO0 x k h1 h2 h)
  replace hW := hW.up (Nat.le_of_eq zs.symm)
  replace hz : H0.size ≤ H31.size := by rw [zs]; exact hz
  replace mm : sI H31 h0 (X.1.2 11 24) = 0 := (up_nI U31 (ne_f E 11 24 11 rfl (by decide) (by decide) (by decide))).trans mm
  replace mt : sI H31 h0 (X.1.2 11 8) = 0 := (up_nI U31 (ne_f E 11 8 11 rfl (by decide) (by decide) (by decide))).trans mt
  replace mh : sI H31 h0 (X.1.2 11 30) = 0 := (up_nI U31 (ne_f E 11 30 11 rfl (by decide) (by decide) (by decide))).trans mh
  refine lv_aload_n hx hb dX12_init_51 rfl (lv_at hl 0 rfl) ?_
  refine lv_sipush (v := 2600) hx hb dX12_init_52 rfl ?_
  replace hlt9 : ∀ x k, k < 60 → k ≠ 13 → Γ x = some k → x < H31.size := fun x k h1 h2 h => nw_lt hW (hG0 x k h1 h2 h) h2
  refine q_newP E hC hS hW (Nat.le_trans hn0 hz) (r := 64) (t := 1) (N := 2600) (ty := .int) rfl rfl rfl rfl (fun _ _ h => h) (fun _ => cT_z) w_122 (by decide) (by decide) (by decide) (by decide) (by decide) (by decide) dX12_init_55 (fun q32 H32 Γ32 zq zs ho hcell gq32 hL hK E hC hS hW => ?_)
  replace hx := E.1; replace hb := E.2.1
  replace g0 := hL _ _ (by decide) g0
  replace gq22 := hL _ _ (by decide) gq22
  replace gq24 := hL _ _ (by decide) gq24
  replace gq26 := hL _ _ (by decide) gq26
  replace gq28 := hL _ _ (by decide) gq28
  replace hLf := hLf.al hL; replace hKN : True := trivial; replace hI := hI.al hL hK (by decide)
  replace hKb := hKb.al hK (by decide)
  replace hO0 := fun x k h1 h2 h => (ho x (hlt9 x k h1 h2 h)).trans (hO0 x k h1 h2 h); replace hG0 := fun x k h1 h2 h => hL _ _ h2 (hG0 x k h1 h2 h)
  replace mm : sI H32 h0 (X.1.2 11 24) = 0 := (sI_al ho (Nat.lt_of_lt_of_le hlt0 hz)).trans mm
  replace mt : sI H32 h0 (X.1.2 11 8) = 0 := (sI_al ho (Nat.lt_of_lt_of_le hlt0 hz)).trans mt
  replace mh : sI H32 h0 (X.1.2 11 30) = 0 := (sI_al ho (Nat.lt_of_lt_of_le hlt0 hz)).trans mh
  replace u64 := u64.nw hK gq32
  replace u65 := u65.al hK (by decide)
  replace u68 := u68.al hK (by decide)
  replace u60 := u60.al hL hK (by decide) (by decide)
  replace u61 := u61.al hL hK (by decide) (by decide)
  replace u62 := u62.al hL hK (by decide) (by decide)
  replace zz : ZZ H32 q32 := ZZ.mk hcell
  replace hzq32 : H0.size ≤ q32 := by rw [zq]; exact hz
  replace hz : H0.size ≤ H32.size := by rw [zs]; exact Nat.le_succ_of_le hz
  replace hzc : q32 < H32.size := nw_lt hW gq32 (by decide)
  refine q_putN E hin hC hS hW g0 gq32 fn_RX12_35_534 rfl rfl ⟨by decide, by decide⟩ dX12_init_57 (fun H33 locs33 Γ33 zs eo U33 gz hl5 hk5 hE5 E hC hS hW => ?_)
  replace hx := E.1; replace hb := E.2.1
  replace hI := hI.put hl5 hk5 g0 (by decide)
  replace hKb := hKb.put hE5
  replace gq22 := hl5 _ _ (nek gq22 g0 (by decide)) (by decide) gq22
  replace gq24 := hl5 _ _ (nek gq24 g0 (by decide)) (by decide) gq24
  replace gq26 := hl5 _ _ (nek gq26 g0 (by decide)) (by decide) gq26
  replace gq28 := hl5 _ _ (nek gq28 g0 (by decide)) (by decide) gq28
  replace gq32 := hl5 _ _ (nek gq32 g0 (by decide)) (by decide) gq32
  replace hO0 := fun x k h1 h2 h => (eo x (nek (hG0 x k h1 h2 h) g0 (by omega))).trans (hO0 x k h1 h2 h); replace hG0 := fun x k h1 h2 h => hl5 _ _ (nek (hG0 x k h1 h2 h) g0 (by omega)) h2 (hG0 x k h1 h2 h)
  replace hLf := hLf.tr hl5; replace hKN : True := trivial
  replace hz : H0.size ≤ H33.size := by rw [zs]; exact hz
  replace hzc : q32 < H33.size := by rw [zs]; exact hzc
  replace u64 := u64.kn hk5 hl5 (by decide) g0 (by decide)
  replace u65 := u65.kn hk5 hl5 (by decide)
  replace u68 := u68.kn hk5 hl5 (by decide)
  replace u60 := u60.kn hk5 hl5 (by decide) g0 (by decide)
  replace u61 := u61.kn hk5 hl5 (by decide) g0 (by decide)
  replace u62 := u62.kn hk5 hl5 (by decide) g0 (by decide)
  replace g0 := gz
  replace mm : sI H33 h0 (X.1.2 11 24) = 0 := (up_nI U33 (ne_f E 11 24 20 rfl (by decide) (by decide) (by decide))).trans mm
  replace mt : sI H33 h0 (X.1.2 11 8) = 0 := (up_nI U33 (ne_f E 11 8 20 rfl (by decide) (by decide) (by decide))).trans mt
  replace mh : sI H33 h0 (X.1.2 11 30) = 0 := (up_nI U33 (ne_f E 11 30 20 rfl (by decide) (by decide) (by decide))).trans mh
  replace zz : ZZ H33 q32 := zz.ne U33 (nek g0 gq32 (by decide))
  refine lv_aload_n hx hb dX12_init_60 rfl (lv_at hl 0 rfl) ?_
  refine lv_sipush (v := 242) hx hb dX12_init_61 rfl ?_
  replace hlt9 : ∀ x k, k < 60 → k ≠ 13 → Γ x = some k → x < H33.size := fun x k h1 h2 h => nw_lt hW (hG0 x k h1 h2 h) h2
  refine q_newP E hC hS hW (Nat.le_trans hn0 hz) (r := 65) (t := 1) (N := 242) (ty := .int) rfl rfl rfl rfl (fun _ _ h => h) (fun _ => cB_z) w_122 (by decide) (by decide) (by decide) (by decide) (by decide) (by decide) dX12_init_64 (fun q34 H34 Γ34 zq zs ho hcell gq34 hL hK E hC hS hW => ?_)
  replace hx := E.1; replace hb := E.2.1
  replace g0 := hL _ _ (by decide) g0
  replace gq22 := hL _ _ (by decide) gq22
  replace gq24 := hL _ _ (by decide) gq24
  replace gq26 := hL _ _ (by decide) gq26
  replace gq28 := hL _ _ (by decide) gq28
  replace gq32 := hL _ _ (by decide) gq32
  replace hLf := hLf.al hL; replace hKN : True := trivial; replace hI := hI.al hL hK (by decide)
  replace hKb := hKb.al hK (by decide)
  replace hO0 := fun x k h1 h2 h => (ho x (hlt9 x k h1 h2 h)).trans (hO0 x k h1 h2 h); replace hG0 := fun x k h1 h2 h => hL _ _ h2 (hG0 x k h1 h2 h)
  replace mm : sI H34 h0 (X.1.2 11 24) = 0 := (sI_al ho (Nat.lt_of_lt_of_le hlt0 hz)).trans mm
  replace mt : sI H34 h0 (X.1.2 11 8) = 0 := (sI_al ho (Nat.lt_of_lt_of_le hlt0 hz)).trans mt
  replace mh : sI H34 h0 (X.1.2 11 30) = 0 := (sI_al ho (Nat.lt_of_lt_of_le hlt0 hz)).trans mh
  replace zz : ZZ H34 q32 := zz.al ho hzc
  replace u64 := u64.al hL hK (by decide) (by decide)
  replace u65 := u65.nw hK gq34
  replace u68 := u68.al hK (by decide)
  replace u60 := u60.al hL hK (by decide) (by decide)
  replace u61 := u61.al hL hK (by decide) (by decide)
  replace u62 := u62.al hL hK (by decide) (by decide)
  replace hzq34 : H0.size ≤ q34 := by rw [zq]; exact hz
  replace hz : H0.size ≤ H34.size := by rw [zs]; exact Nat.le_succ_of_le hz
  replace hzc : q32 < H34.size := nw_lt hW gq32 (by decide)
  refine q_putN E hin hC hS hW g0 gq34 fn_RX12_38_535 rfl rfl ⟨by decide, by decide⟩ dX12_init_66 (fun H35 locs35 Γ35 zs eo U35 gz hl5 hk5 hE5 E hC hS hW => ?_)
  replace hx := E.1; replace hb := E.2.1
  replace hI := hI.put hl5 hk5 g0 (by decide)
  replace hKb := hKb.put hE5
  replace gq22 := hl5 _ _ (nek gq22 g0 (by decide)) (by decide) gq22
  replace gq24 := hl5 _ _ (nek gq24 g0 (by decide)) (by decide) gq24
  replace gq26 := hl5 _ _ (nek gq26 g0 (by decide)) (by decide) gq26
  replace gq28 := hl5 _ _ (nek gq28 g0 (by decide)) (by decide) gq28
  replace gq32 := hl5 _ _ (nek gq32 g0 (by decide)) (by decide) gq32
  replace gq34 := hl5 _ _ (nek gq34 g0 (by decide)) (by decide) gq34
  replace hO0 := fun x k h1 h2 h => (eo x (nek (hG0 x k h1 h2 h) g0 (by omega))).trans (hO0 x k h1 h2 h); replace hG0 := fun x k h1 h2 h => hl5 _ _ (nek (hG0 x k h1 h2 h) g0 (by omega)) h2 (hG0 x k h1 h2 h)
  replace hLf := hLf.tr hl5; replace hKN : True := trivial
  replace hz : H0.size ≤ H35.size := by rw [zs]; exact hz
  replace hzc : q32 < H35.size := by rw [zs]; exact hzc
  replace u64 := u64.kn hk5 hl5 (by decide) g0 (by decide)
  replace u65 := u65.kn hk5 hl5 (by decide) g0 (by decide)
  replace u68 := u68.kn hk5 hl5 (by decide)
  replace u60 := u60.kn hk5 hl5 (by decide) g0 (by decide)
  replace u61 := u61.kn hk5 hl5 (by decide) g0 (by decide)
  replace u62 := u62.kn hk5 hl5 (by decide) g0 (by decide)
  replace g0 := gz
  replace mm : sI H35 h0 (X.1.2 11 24) = 0 := (up_nI U35 (ne_f E 11 24 21 rfl (by decide) (by decide) (by decide))).trans mm
  replace mt : sI H35 h0 (X.1.2 11 8) = 0 := (up_nI U35 (ne_f E 11 8 21 rfl (by decide) (by decide) (by decide))).trans mt
  replace mh : sI H35 h0 (X.1.2 11 30) = 0 := (up_nI U35 (ne_f E 11 30 21 rfl (by decide) (by decide) (by decide))).trans mh
  replace zz : ZZ H35 q32 := zz.ne U35 (nek g0 gq32 (by decide))
  refine lv_aload_n hx hb dX12_init_69 rfl (lv_at hl 0 rfl) ?_
  refine lv_bipush (v := 108) hx hb dX12_init_70 rfl ?_
  replace hlt9 : ∀ x k, k < 60 → k ≠ 13 → Γ x = some k → x < H35.size := fun x k h1 h2 h => nw_lt hW (hG0 x k h1 h2 h) h2
  refine q_newP E hC hS hW (Nat.le_trans hn0 hz) (r := 66) (t := 1) (N := 108) (ty := .int) rfl rfl rfl rfl (fun _ _ h => h) (fun _ => by rfl) w_122 (by decide) (by decide) (by decide) (by decide) (by decide) (by decide) dX12_init_72 (fun q36 H36 Γ36 zq zs ho hcell gq36 hL hK E hC hS hW => ?_)
  replace hx := E.1; replace hb := E.2.1
  replace g0 := hL _ _ (by decide) g0
  replace gq22 := hL _ _ (by decide) gq22
  replace gq24 := hL _ _ (by decide) gq24
  replace gq26 := hL _ _ (by decide) gq26
  replace gq28 := hL _ _ (by decide) gq28
  replace gq32 := hL _ _ (by decide) gq32
  replace gq34 := hL _ _ (by decide) gq34
  replace hLf := hLf.al hL; replace hKN : True := trivial; replace hI := hI.al hL hK (by decide)
  replace hKb := hKb.al hK (by decide)
  replace hO0 := fun x k h1 h2 h => (ho x (hlt9 x k h1 h2 h)).trans (hO0 x k h1 h2 h); replace hG0 := fun x k h1 h2 h => hL _ _ h2 (hG0 x k h1 h2 h)
  replace mm : sI H36 h0 (X.1.2 11 24) = 0 := (sI_al ho (Nat.lt_of_lt_of_le hlt0 hz)).trans mm
  replace mt : sI H36 h0 (X.1.2 11 8) = 0 := (sI_al ho (Nat.lt_of_lt_of_le hlt0 hz)).trans mt
  replace mh : sI H36 h0 (X.1.2 11 30) = 0 := (sI_al ho (Nat.lt_of_lt_of_le hlt0 hz)).trans mh
  replace zz : ZZ H36 q32 := zz.al ho hzc
  replace u64 := u64.al hL hK (by decide) (by decide)
  replace u65 := u65.al hL hK (by decide) (by decide)
  replace u68 := u68.al hK (by decide)
  replace u60 := u60.al hL hK (by decide) (by decide)
  replace u61 := u61.al hL hK (by decide) (by decide)
  replace u62 := u62.al hL hK (by decide) (by decide)
  replace hzq36 : H0.size ≤ q36 := by rw [zq]; exact hz
  replace hz : H0.size ≤ H36.size := by rw [zs]; exact Nat.le_succ_of_le hz
  replace hzc : q32 < H36.size := nw_lt hW gq32 (by decide)
  refine q_putN E hin hC hS hW g0 gq36 fn_RX12_41_536 rfl rfl ⟨by decide, by decide⟩ dX12_init_74 (fun H37 locs37 Γ37 zs eo U37 gz hl5 hk5 hE5 E hC hS hW => ?_)
  replace hx := E.1; replace hb := E.2.1
  replace hI := hI.put hl5 hk5 g0 (by decide)
  replace hKb := hKb.put hE5
  replace gq22 := hl5 _ _ (nek gq22 g0 (by decide)) (by decide) gq22
  replace gq24 := hl5 _ _ (nek gq24 g0 (by decide)) (by decide) gq24
  replace gq26 := hl5 _ _ (nek gq26 g0 (by decide)) (by decide) gq26
  replace gq28 := hl5 _ _ (nek gq28 g0 (by decide)) (by decide) gq28
  replace gq32 := hl5 _ _ (nek gq32 g0 (by decide)) (by decide) gq32
  replace gq34 := hl5 _ _ (nek gq34 g0 (by decide)) (by decide) gq34
  replace gq36 := hl5 _ _ (nek gq36 g0 (by decide)) (by decide) gq36
  replace hO0 := fun x k h1 h2 h => (eo x (nek (hG0 x k h1 h2 h) g0 (by omega))).trans (hO0 x k h1 h2 h); replace hG0 := fun x k h1 h2 h => hl5 _ _ (nek (hG0 x k h1 h2 h) g0 (by omega)) h2 (hG0 x k h1 h2 h)
  replace hLf := hLf.tr hl5; replace hKN : True := trivial
  replace hz : H0.size ≤ H37.size := by rw [zs]; exact hz
  replace hzc : q32 < H37.size := by rw [zs]; exact hzc
  replace u64 := u64.kn hk5 hl5 (by decide) g0 (by decide)
  replace u65 := u65.kn hk5 hl5 (by decide) g0 (by decide)
  replace u68 := u68.kn hk5 hl5 (by decide)
  replace u60 := u60.kn hk5 hl5 (by decide) g0 (by decide)
  replace u61 := u61.kn hk5 hl5 (by decide) g0 (by decide)
  replace u62 := u62.kn hk5 hl5 (by decide) g0 (by decide)
  replace g0 := gz
  replace mm : sI H37 h0 (X.1.2 11 24) = 0 := (up_nI U37 (ne_f E 11 24 22 rfl (by decide) (by decide) (by decide))).trans mm
  replace mt : sI H37 h0 (X.1.2 11 8) = 0 := (up_nI U37 (ne_f E 11 8 22 rfl (by decide) (by decide) (by decide))).trans mt
  replace mh : sI H37 h0 (X.1.2 11 30) = 0 := (up_nI U37 (ne_f E 11 30 22 rfl (by decide) (by decide) (by decide))).trans mh
  replace zz : ZZ H37 q32 := zz.ne U37 (nek g0 gq32 (by decide))
  refine lv_aload_n hx hb dX12_init_77 rfl (lv_at hl 0 rfl) ?_
  refine lv_iconst (v := 2) hx hb dX12_init_78 rfl ?_
  replace hlt9 : ∀ x k, k < 60 → k ≠ 13 → Γ x = some k → x < H37.size := fun x k h1 h2 h => nw_lt hW (hG0 x k h1 h2 h) h2
  refine q_newP E hC hS hW (Nat.le_trans hn0 hz) (r := 67) (t := 2) (N := 2) (ty := .long) rfl rfl rfl rfl (fun _ _ h => h) (fun _ => by rfl) w_46 (by decide) (by decide) (by decide) (by decide) (by decide) (by decide) dX12_init_79 (fun q38 H38 Γ38 zq zs ho hcell gq38 hL hK E hC hS hW => ?_)
  replace hx := E.1; replace hb := E.2.1
  replace g0 := hL _ _ (by decide) g0
  replace gq22 := hL _ _ (by decide) gq22
  replace gq24 := hL _ _ (by decide) gq24
  replace gq26 := hL _ _ (by decide) gq26
  replace gq28 := hL _ _ (by decide) gq28
  replace gq32 := hL _ _ (by decide) gq32
  replace gq34 := hL _ _ (by decide) gq34
  replace gq36 := hL _ _ (by decide) gq36
  replace hLf := hLf.al hL; replace hKN : True := trivial; replace hI := hI.al hL hK (by decide)
  replace hKb := hKb.al hK (by decide)
  replace hO0 := fun x k h1 h2 h => (ho x (hlt9 x k h1 h2 h)).trans (hO0 x k h1 h2 h); replace hG0 := fun x k h1 h2 h => hL _ _ h2 (hG0 x k h1 h2 h)
  replace mm : sI H38 h0 (X.1.2 11 24) = 0 := (sI_al ho (Nat.lt_of_lt_of_le hlt0 hz)).trans mm
  replace mt : sI H38 h0 (X.1.2 11 8) = 0 := (sI_al ho (Nat.lt_of_lt_of_le hlt0 hz)).trans mt
  replace mh : sI H38 h0 (X.1.2 11 30) = 0 := (sI_al ho (Nat.lt_of_lt_of_le hlt0 hz)).trans mh
  replace zz : ZZ H38 q32 := zz.al ho hzc
  replace u64 := u64.al hL hK (by decide) (by decide)
  replace u65 := u65.al hL hK (by decide) (by decide)
  replace u68 := u68.al hK (by decide)
  replace u60 := u60.al hL hK (by decide) (by decide)
  replace u61 := u61.al hL hK (by decide) (by decide)
  replace u62 := u62.al hL hK (by decide) (by decide)
  replace hzq38 : H0.size ≤ q38 := by rw [zq]; exact hz
  replace hz : H0.size ≤ H38.size := by rw [zs]; exact Nat.le_succ_of_le hz
  replace hzc : q32 < H38.size := nw_lt hW gq32 (by decide)
  refine q_putN E hin hC hS hW g0 gq38 fn_RX12_44_537 rfl rfl ⟨by decide, by decide⟩ dX12_init_81 (fun H39 locs39 Γ39 zs eo U39 gz hl5 hk5 hE5 E hC hS hW => ?_)
  replace hx := E.1; replace hb := E.2.1
  replace hI := hI.put hl5 hk5 g0 (by decide)
  replace hKb := hKb.put hE5
  replace gq22 := hl5 _ _ (nek gq22 g0 (by decide)) (by decide) gq22
  replace gq24 := hl5 _ _ (nek gq24 g0 (by decide)) (by decide) gq24
  replace gq26 := hl5 _ _ (nek gq26 g0 (by decide)) (by decide) gq26
  replace gq28 := hl5 _ _ (nek gq28 g0 (by decide)) (by decide) gq28
  replace gq32 := hl5 _ _ (nek gq32 g0 (by decide)) (by decide) gq32
  replace gq34 := hl5 _ _ (nek gq34 g0 (by decide)) (by decide) gq34
  replace gq36 := hl5 _ _ (nek gq36 g0 (by decide)) (by decide) gq36
  replace gq38 := hl5 _ _ (nek gq38 g0 (by decide)) (by decide) gq38
  replace hO0 := fun x k h1 h2 h => (eo x (nek (hG0 x k h1 h2 h) g0 (by omega))).trans (hO0 x k h1 h2 h); replace hG0 := fun x k h1 h2 h => hl5 _ _ (nek (hG0 x k h1 h2 h) g0 (by omega)) h2 (hG0 x k h1 h2 h)
  replace hLf := hLf.tr hl5; replace hKN : True := trivial
  replace hz : H0.size ≤ H39.size := by rw [zs]; exact hz
  replace hzc : q32 < H39.size := by rw [zs]; exact hzc
  replace u64 := u64.kn hk5 hl5 (by decide) g0 (by decide)
  replace u65 := u65.kn hk5 hl5 (by decide) g0 (by decide)
  replace u68 := u68.kn hk5 hl5 (by decide)
  replace u60 := u60.kn hk5 hl5 (by decide) g0 (by decide)
  replace u61 := u61.kn hk5 hl5 (by decide) g0 (by decide)
  replace u62 := u62.kn hk5 hl5 (by decide) g0 (by decide)
  replace g0 := gz
  replace mm : sI H39 h0 (X.1.2 11 24) = 0 := (up_nI U39 (ne_f E 11 24 23 rfl (by decide) (by decide) (by decide))).trans mm
  replace mt : sI H39 h0 (X.1.2 11 8) = 0 := (up_nI U39 (ne_f E 11 8 23 rfl (by decide) (by decide) (by decide))).trans mt
  replace mh : sI H39 h0 (X.1.2 11 30) = 0 := (up_nI U39 (ne_f E 11 30 23 rfl (by decide) (by decide) (by decide))).trans mh
  replace zz : ZZ H39 q32 := zz.ne U39 (nek g0 gq32 (by decide))
  refine lv_aload_n hx hb dX12_init_84 rfl (lv_at hl 0 rfl) ?_
  refine lv_bipush (v := 36) hx hb dX12_init_85 rfl ?_
  replace hlt9 : ∀ x k, k < 60 → k ≠ 13 → Γ x = some k → x < H39.size := fun x k h1 h2 h => nw_lt hW (hG0 x k h1 h2 h) h2
  refine q_newP E hC hS hW (Nat.le_trans hn0 hz) (r := 68) (t := 1) (N := 36) (ty := .int) rfl rfl rfl rfl (fun _ _ h => h) (fun _ => by rfl) w_122 (by decide) (by decide) (by decide) (by decide) (by decide) (by decide) dX12_init_87 (fun q40 H40 Γ40 zq zs ho hcell gq40 hL hK E hC hS hW => ?_)
  replace hx := E.1; replace hb := E.2.1
  replace g0 := hL _ _ (by decide) g0
  replace gq22 := hL _ _ (by decide) gq22
  replace gq24 := hL _ _ (by decide) gq24
  replace gq26 := hL _ _ (by decide) gq26
  replace gq28 := hL _ _ (by decide) gq28
  replace gq32 := hL _ _ (by decide) gq32
  replace gq34 := hL _ _ (by decide) gq34
  replace gq36 := hL _ _ (by decide) gq36
  replace gq38 := hL _ _ (by decide) gq38
  replace hLf := hLf.al hL; replace hKN : True := trivial; replace hI := hI.al hL hK (by decide)
  replace hKb := hKb.al hK (by decide)
  replace hO0 := fun x k h1 h2 h => (ho x (hlt9 x k h1 h2 h)).trans (hO0 x k h1 h2 h); replace hG0 := fun x k h1 h2 h => hL _ _ h2 (hG0 x k h1 h2 h)
  replace mm : sI H40 h0 (X.1.2 11 24) = 0 := (sI_al ho (Nat.lt_of_lt_of_le hlt0 hz)).trans mm
  replace mt : sI H40 h0 (X.1.2 11 8) = 0 := (sI_al ho (Nat.lt_of_lt_of_le hlt0 hz)).trans mt
  replace mh : sI H40 h0 (X.1.2 11 30) = 0 := (sI_al ho (Nat.lt_of_lt_of_le hlt0 hz)).trans mh
  replace zz : ZZ H40 q32 := zz.al ho hzc
  replace u64 := u64.al hL hK (by decide) (by decide)
  replace u65 := u65.al hL hK (by decide) (by decide)
  replace u68 := u68.nw hK gq40
  replace u60 := u60.al hL hK (by decide) (by decide)
  replace u61 := u61.al hL hK (by decide) (by decide)
  replace u62 := u62.al hL hK (by decide) (by decide)
  replace hzq40 : H0.size ≤ q40 := by rw [zq]; exact hz
  replace hz : H0.size ≤ H40.size := by rw [zs]; exact Nat.le_succ_of_le hz
  replace hzc : q32 < H40.size := nw_lt hW gq32 (by decide)
  refine q_putN E hin hC hS hW g0 gq40 fn_RX12_47_538 rfl rfl ⟨by decide, by decide⟩ dX12_init_89 (fun H41 locs41 Γ41 zs eo U41 gz hl5 hk5 hE5 E hC hS hW => ?_)
  replace hx := E.1; replace hb := E.2.1
  replace hI := hI.put hl5 hk5 g0 (by decide)
  replace hKb := hKb.put hE5
  replace gq22 := hl5 _ _ (nek gq22 g0 (by decide)) (by decide) gq22
  replace gq24 := hl5 _ _ (nek gq24 g0 (by decide)) (by decide) gq24
  replace gq26 := hl5 _ _ (nek gq26 g0 (by decide)) (by decide) gq26
  replace gq28 := hl5 _ _ (nek gq28 g0 (by decide)) (by decide) gq28
  replace gq32 := hl5 _ _ (nek gq32 g0 (by decide)) (by decide) gq32
  replace gq34 := hl5 _ _ (nek gq34 g0 (by decide)) (by decide) gq34
  replace gq36 := hl5 _ _ (nek gq36 g0 (by decide)) (by decide) gq36
  replace gq38 := hl5 _ _ (nek gq38 g0 (by decide)) (by decide) gq38
  replace gq40 := hl5 _ _ (nek gq40 g0 (by decide)) (by decide) gq40
  replace hO0 := fun x k h1 h2 h => (eo x (nek (hG0 x k h1 h2 h) g0 (by omega))).trans (hO0 x k h1 h2 h); replace hG0 := fun x k h1 h2 h => hl5 _ _ (nek (hG0 x k h1 h2 h) g0 (by omega)) h2 (hG0 x k h1 h2 h)
  replace hLf := hLf.tr hl5; replace hKN : True := trivial
  replace hz : H0.size ≤ H41.size := by rw [zs]; exact hz
  replace hzc : q32 < H41.size := by rw [zs]; exact hzc
  replace u64 := u64.kn hk5 hl5 (by decide) g0 (by decide)
  replace u65 := u65.kn hk5 hl5 (by decide) g0 (by decide)
  replace u68 := u68.kn hk5 hl5 (by decide) g0 (by decide)
  replace u60 := u60.kn hk5 hl5 (by decide) g0 (by decide)
  replace u61 := u61.kn hk5 hl5 (by decide) g0 (by decide)
  replace u62 := u62.kn hk5 hl5 (by decide) g0 (by decide)
  replace g0 := gz
  replace mm : sI H41 h0 (X.1.2 11 24) = 0 := (up_nI U41 (ne_f E 11 24 26 rfl (by decide) (by decide) (by decide))).trans mm
  replace mt : sI H41 h0 (X.1.2 11 8) = 0 := (up_nI U41 (ne_f E 11 8 26 rfl (by decide) (by decide) (by decide))).trans mt
  replace mh : sI H41 h0 (X.1.2 11 30) = 0 := (up_nI U41 (ne_f E 11 30 26 rfl (by decide) (by decide) (by decide))).trans mh
  replace zz : ZZ H41 q32 := zz.ne U41 (nek g0 gq32 (by decide))
  refine lv_aload_n hx hb dX12_init_92 rfl (lv_at hl 0 rfl) ?_
  refine lv_bipush (v := 36) hx hb dX12_init_93 rfl ?_
  replace hlt9 : ∀ x k, k < 60 → k ≠ 13 → Γ x = some k → x < H41.size := fun x k h1 h2 h => nw_lt hW (hG0 x k h1 h2 h) h2
  refine q_newP E hC hS hW (Nat.le_trans hn0 hz) (r := 69) (t := 1) (N := 36) (ty := .int) rfl rfl rfl rfl (fun _ _ h => h) (fun _ => by rfl) w_122 (by decide) (by decide) (by decide) (by decide) (by decide) (by decide) dX12_init_95 (fun q42 H42 Γ42 zq zs ho hcell gq42 hL hK E hC hS hW => ?_)
  replace hx := E.1; replace hb := E.2.1
  replace g0 := hL _ _ (by decide) g0
  replace gq22 := hL _ _ (by decide) gq22
  replace gq24 := hL _ _ (by decide) gq24
  replace gq26 := hL _ _ (by decide) gq26
  replace gq28 := hL _ _ (by decide) gq28
  replace gq32 := hL _ _ (by decide) gq32
  replace gq34 := hL _ _ (by decide) gq34
  replace gq36 := hL _ _ (by decide) gq36
  replace gq38 := hL _ _ (by decide) gq38
  replace gq40 := hL _ _ (by decide) gq40
  replace hLf := hLf.al hL; replace hKN : True := trivial; replace hI := hI.al hL hK (by decide)
  replace hKb := hKb.al hK (by decide)
  replace hO0 := fun x k h1 h2 h => (ho x (hlt9 x k h1 h2 h)).trans (hO0 x k h1 h2 h); replace hG0 := fun x k h1 h2 h => hL _ _ h2 (hG0 x k h1 h2 h)
  replace mm : sI H42 h0 (X.1.2 11 24) = 0 := (sI_al ho (Nat.lt_of_lt_of_le hlt0 hz)).trans mm
  replace mt : sI H42 h0 (X.1.2 11 8) = 0 := (sI_al ho (Nat.lt_of_lt_of_le hlt0 hz)).trans mt
  replace mh : sI H42 h0 (X.1.2 11 30) = 0 := (sI_al ho (Nat.lt_of_lt_of_le hlt0 hz)).trans mh
  replace zz : ZZ H42 q32 := zz.al ho hzc
  replace u64 := u64.al hL hK (by decide) (by decide)
  replace u65 := u65.al hL hK (by decide) (by decide)
  replace u68 := u68.al hL hK (by decide) (by decide)
  replace u60 := u60.al hL hK (by decide) (by decide)
  replace u61 := u61.al hL hK (by decide) (by decide)
  replace u62 := u62.al hL hK (by decide) (by decide)
  replace hzq42 : H0.size ≤ q42 := by rw [zq]; exact hz
  replace hz : H0.size ≤ H42.size := by rw [zs]; exact Nat.le_succ_of_le hz
  replace hzc : q32 < H42.size := nw_lt hW gq32 (by decide)
  refine q_putN E hin hC hS hW g0 gq42 fn_RX12_50_539 rfl rfl ⟨by decide, by decide⟩ dX12_init_97 (fun H43 locs43 Γ43 zs eo U43 gz hl5 hk5 hE5 E hC hS hW => ?_)
  replace hx := E.1; replace hb := E.2.1
  replace hI := hI.put hl5 hk5 g0 (by decide)
  replace hKb := hKb.put hE5
  replace gq22 := hl5 _ _ (nek gq22 g0 (by decide)) (by decide) gq22
  replace gq24 := hl5 _ _ (nek gq24 g0 (by decide)) (by decide) gq24
  replace gq26 := hl5 _ _ (nek gq26 g0 (by decide)) (by decide) gq26
  replace gq28 := hl5 _ _ (nek gq28 g0 (by decide)) (by decide) gq28
  replace gq32 := hl5 _ _ (nek gq32 g0 (by decide)) (by decide) gq32
  replace gq34 := hl5 _ _ (nek gq34 g0 (by decide)) (by decide) gq34
  replace gq36 := hl5 _ _ (nek gq36 g0 (by decide)) (by decide) gq36
  replace gq38 := hl5 _ _ (nek gq38 g0 (by decide)) (by decide) gq38
  replace gq40 := hl5 _ _ (nek gq40 g0 (by decide)) (by decide) gq40
  replace gq42 := hl5 _ _ (nek gq42 g0 (by decide)) (by decide) gq42
  replace hO0 := fun x k h1 h2 h => (eo x (nek (hG0 x k h1 h2 h) g0 (by omega))).trans (hO0 x k h1 h2 h); replace hG0 := fun x k h1 h2 h => hl5 _ _ (nek (hG0 x k h1 h2 h) g0 (by omega)) h2 (hG0 x k h1 h2 h)
  replace hLf := hLf.tr hl5; replace hKN : True := trivial
  replace hz : H0.size ≤ H43.size := by rw [zs]; exact hz
  replace hzc : q32 < H43.size := by rw [zs]; exact hzc
  replace u64 := u64.kn hk5 hl5 (by decide) g0 (by decide)
  replace u65 := u65.kn hk5 hl5 (by decide) g0 (by decide)
  replace u68 := u68.kn hk5 hl5 (by decide) g0 (by decide)
  replace u60 := u60.kn hk5 hl5 (by decide) g0 (by decide)
  replace u61 := u61.kn hk5 hl5 (by decide) g0 (by decide)
  replace u62 := u62.kn hk5 hl5 (by decide) g0 (by decide)
  replace g0 := gz
  replace mm : sI H43 h0 (X.1.2 11 24) = 0 := (up_nI U43 (ne_f E 11 24 27 rfl (by decide) (by decide) (by decide))).trans mm
  replace mt : sI H43 h0 (X.1.2 11 8) = 0 := (up_nI U43 (ne_f E 11 8 27 rfl (by decide) (by decide) (by decide))).trans mt
  replace mh : sI H43 h0 (X.1.2 11 30) = 0 := (up_nI U43 (ne_f E 11 30 27 rfl (by decide) (by decide) (by decide))).trans mh
  replace zz : ZZ H43 q32 := zz.ne U43 (nek g0 gq32 (by decide))
  refine lv_aload_n hx hb dX12_init_100 rfl (lv_at hl 0 rfl) ?_
  refine lv_iconst (v := 3) hx hb dX12_init_101 rfl ?_
  replace hlt9 : ∀ x k, k < 60 → k ≠ 13 → Γ x = some k → x < H43.size := fun x k h1 h2 h => nw_lt hW (hG0 x k h1 h2 h) h2
  refine q_newP E hC hS hW (Nat.le_trans hn0 hz) (r := 70) (t := 1) (N := 3) (ty := .int) rfl rfl rfl rfl (fun _ _ h => h) (fun _ => by rfl) w_122 (by decide) (by decide) (by decide) (by decide) (by decide) (by decide) dX12_init_102 (fun q44 H44 Γ44 zq zs ho hcell gq44 hL hK E hC hS hW => ?_)
  replace hx := E.1; replace hb := E.2.1
  replace g0 := hL _ _ (by decide) g0
  replace gq22 := hL _ _ (by decide) gq22
  replace gq24 := hL _ _ (by decide) gq24
  replace gq26 := hL _ _ (by decide) gq26
  replace gq28 := hL _ _ (by decide) gq28
  replace gq32 := hL _ _ (by decide) gq32
  replace gq34 := hL _ _ (by decide) gq34
  replace gq36 := hL _ _ (by decide) gq36
  replace gq38 := hL _ _ (by decide) gq38
  replace gq40 := hL _ _ (by decide) gq40
  replace gq42 := hL _ _ (by decide) gq42
  replace hLf := hLf.al hL; replace hKN : True := trivial; replace hI := hI.al hL hK (by decide)
  replace hKb := hKb.al hK (by decide)
  replace hO0 := fun x k h1 h2 h => (ho x (hlt9 x k h1 h2 h)).trans (hO0 x k h1 h2 h); replace hG0 := fun x k h1 h2 h => hL _ _ h2 (hG0 x k h1 h2 h)
  replace mm : sI H44 h0 (X.1.2 11 24) = 0 := (sI_al ho (Nat.lt_of_lt_of_le hlt0 hz)).trans mm
  replace mt : sI H44 h0 (X.1.2 11 8) = 0 := (sI_al ho (Nat.lt_of_lt_of_le hlt0 hz)).trans mt
  replace mh : sI H44 h0 (X.1.2 11 30) = 0 := (sI_al ho (Nat.lt_of_lt_of_le hlt0 hz)).trans mh
  replace zz : ZZ H44 q32 := zz.al ho hzc
  replace u64 := u64.al hL hK (by decide) (by decide)
  replace u65 := u65.al hL hK (by decide) (by decide)
  replace u68 := u68.al hL hK (by decide) (by decide)
  replace u60 := u60.al hL hK (by decide) (by decide)
  replace u61 := u61.al hL hK (by decide) (by decide)
  replace u62 := u62.al hL hK (by decide) (by decide)
  replace hzq44 : H0.size ≤ q44 := by rw [zq]; exact hz
  replace hz : H0.size ≤ H44.size := by rw [zs]; exact Nat.le_succ_of_le hz
  replace hzc : q32 < H44.size := nw_lt hW gq32 (by decide)
  refine q_putN E hin hC hS hW g0 gq44 fn_RX12_53_540 rfl rfl ⟨by decide, by decide⟩ dX12_init_104 (fun H45 locs45 Γ45 zs eo U45 gz hl5 hk5 hE5 E hC hS hW => ?_)
  replace hx := E.1; replace hb := E.2.1
  replace hI := hI.put hl5 hk5 g0 (by decide)
  replace hKb := hKb.put hE5
  replace gq22 := hl5 _ _ (nek gq22 g0 (by decide)) (by decide) gq22
  replace gq24 := hl5 _ _ (nek gq24 g0 (by decide)) (by decide) gq24
  replace gq26 := hl5 _ _ (nek gq26 g0 (by decide)) (by decide) gq26
  replace gq28 := hl5 _ _ (nek gq28 g0 (by decide)) (by decide) gq28
  replace gq32 := hl5 _ _ (nek gq32 g0 (by decide)) (by decide) gq32
  replace gq34 := hl5 _ _ (nek gq34 g0 (by decide)) (by decide) gq34
  replace gq36 := hl5 _ _ (nek gq36 g0 (by decide)) (by decide) gq36
  replace gq38 := hl5 _ _ (nek gq38 g0 (by decide)) (by decide) gq38
  replace gq40 := hl5 _ _ (nek gq40 g0 (by decide)) (by decide) gq40
  replace gq42 := hl5 _ _ (nek gq42 g0 (by decide)) (by decide) gq42
  replace gq44 := hl5 _ _ (nek gq44 g0 (by decide)) (by decide) gq44
  replace hO0 := fun x k h1 h2 h => (eo x (nek (hG0 x k h1 h2 h) g0 (by omega))).trans (hO0 x k h1 h2 h); replace hG0 := fun x k h1 h2 h => hl5 _ _ (nek (hG0 x k h1 h2 h) g0 (by omega)) h2 (hG0 x k h1 h2 h)
  replace hLf := hLf.tr hl5; replace hKN : True := trivial
  replace hz : H0.size ≤ H45.size := by rw [zs]; exact hz
  replace hzc : q32 < H45.size := by rw [zs]; exact hzc
  replace u64 := u64.kn hk5 hl5 (by decide) g0 (by decide)
  replace u65 := u65.kn hk5 hl5 (by decide) g0 (by decide)
  replace u68 := u68.kn hk5 hl5 (by decide) g0 (by decide)
  replace u60 := u60.kn hk5 hl5 (by decide) g0 (by decide)
  replace u61 := u61.kn hk5 hl5 (by decide) g0 (by decide)
  replace u62 := u62.kn hk5 hl5 (by decide) g0 (by decide)
  replace g0 := gz
  replace mm : sI H45 h0 (X.1.2 11 24) = 0 := (up_nI U45 (ne_f E 11 24 29 rfl (by decide) (by decide) (by decide))).trans mm
  replace mt : sI H45 h0 (X.1.2 11 8) = 0 := (up_nI U45 (ne_f E 11 8 29 rfl (by decide) (by decide) (by decide))).trans mt
  replace mh : sI H45 h0 (X.1.2 11 30) = 0 := (up_nI U45 (ne_f E 11 30 29 rfl (by decide) (by decide) (by decide))).trans mh
  replace zz : ZZ H45 q32 := zz.ne U45 (nek g0 gq32 (by decide))
  refine lv_aload_n hx hb dX12_init_107 rfl (lv_at hl 0 rfl) ?_
  refine lv_sipush (v := 169) hx hb dX12_init_108 rfl ?_
  replace hlt9 : ∀ x k, k < 60 → k ≠ 13 → Γ x = some k → x < H45.size := fun x k h1 h2 h => nw_lt hW (hG0 x k h1 h2 h) h2
  refine q_newP E hC hS hW (Nat.le_trans hn0 hz) (r := 71) (t := 3) (N := 169) (ty := .boolean) rfl rfl rfl rfl (fun _ _ h => h) (fun _ => by rfl) w_404 (by decide) (by decide) (by decide) (by decide) (by decide) (by decide) dX12_init_111 (fun q46 H46 Γ46 zq zs ho hcell gq46 hL hK E hC hS hW => ?_)
  replace hx := E.1; replace hb := E.2.1
  replace g0 := hL _ _ (by decide) g0
  replace gq22 := hL _ _ (by decide) gq22
  replace gq24 := hL _ _ (by decide) gq24
  replace gq26 := hL _ _ (by decide) gq26
  replace gq28 := hL _ _ (by decide) gq28
  replace gq32 := hL _ _ (by decide) gq32
  replace gq34 := hL _ _ (by decide) gq34
  replace gq36 := hL _ _ (by decide) gq36
  replace gq38 := hL _ _ (by decide) gq38
  replace gq40 := hL _ _ (by decide) gq40
  replace gq42 := hL _ _ (by decide) gq42
  replace gq44 := hL _ _ (by decide) gq44
  replace hLf := hLf.al hL; replace hKN : True := trivial; replace hI := hI.al hL hK (by decide)
  replace hKb := hKb.al hK (by decide)
  replace hO0 := fun x k h1 h2 h => (ho x (hlt9 x k h1 h2 h)).trans (hO0 x k h1 h2 h); replace hG0 := fun x k h1 h2 h => hL _ _ h2 (hG0 x k h1 h2 h)
  replace mm : sI H46 h0 (X.1.2 11 24) = 0 := (sI_al ho (Nat.lt_of_lt_of_le hlt0 hz)).trans mm
  replace mt : sI H46 h0 (X.1.2 11 8) = 0 := (sI_al ho (Nat.lt_of_lt_of_le hlt0 hz)).trans mt
  replace mh : sI H46 h0 (X.1.2 11 30) = 0 := (sI_al ho (Nat.lt_of_lt_of_le hlt0 hz)).trans mh
  replace zz : ZZ H46 q32 := zz.al ho hzc
  replace u64 := u64.al hL hK (by decide) (by decide)
  replace u65 := u65.al hL hK (by decide) (by decide)
  replace u68 := u68.al hL hK (by decide) (by decide)
  replace u60 := u60.al hL hK (by decide) (by decide)
  replace u61 := u61.al hL hK (by decide) (by decide)
  replace u62 := u62.al hL hK (by decide) (by decide)
  replace hzq46 : H0.size ≤ q46 := by rw [zq]; exact hz
  replace hz : H0.size ≤ H46.size := by rw [zs]; exact Nat.le_succ_of_le hz
  replace hzc : q32 < H46.size := nw_lt hW gq32 (by decide)
  refine q_putN E hin hC hS hW g0 gq46 fn_RX12_56_541 rfl rfl ⟨by decide, by decide⟩ dX12_init_113 (fun H47 locs47 Γ47 zs eo U47 gz hl5 hk5 hE5 E hC hS hW => ?_)
  replace hx := E.1; replace hb := E.2.1
  replace hI := hI.put hl5 hk5 g0 (by decide)
  replace hKb := hKb.put hE5
  replace gq22 := hl5 _ _ (nek gq22 g0 (by decide)) (by decide) gq22
  replace gq24 := hl5 _ _ (nek gq24 g0 (by decide)) (by decide) gq24
  replace gq26 := hl5 _ _ (nek gq26 g0 (by decide)) (by decide) gq26
  replace gq28 := hl5 _ _ (nek gq28 g0 (by decide)) (by decide) gq28
  replace gq32 := hl5 _ _ (nek gq32 g0 (by decide)) (by decide) gq32
  replace gq34 := hl5 _ _ (nek gq34 g0 (by decide)) (by decide) gq34
  replace gq36 := hl5 _ _ (nek gq36 g0 (by decide)) (by decide) gq36
  replace gq38 := hl5 _ _ (nek gq38 g0 (by decide)) (by decide) gq38
  replace gq40 := hl5 _ _ (nek gq40 g0 (by decide)) (by decide) gq40
  replace gq42 := hl5 _ _ (nek gq42 g0 (by decide)) (by decide) gq42
  replace gq44 := hl5 _ _ (nek gq44 g0 (by decide)) (by decide) gq44
  replace gq46 := hl5 _ _ (nek gq46 g0 (by decide)) (by decide) gq46
  replace hO0 := fun x k h1 h2 h => (eo x (nek (hG0 x k h1 h2 h) g0 (by omega))).trans (hO0 x k h1 h2 h); replace hG0 := fun x k h1 h2 h => hl5 _ _ (nek (hG0 x k h1 h2 h) g0 (by omega)) h2 (hG0 x k h1 h2 h)
  replace hLf := hLf.tr hl5; replace hKN : True := trivial
  replace hz : H0.size ≤ H47.size := by rw [zs]; exact hz
  replace hzc : q32 < H47.size := by rw [zs]; exact hzc
  replace u64 := u64.kn hk5 hl5 (by decide) g0 (by decide)
  replace u65 := u65.kn hk5 hl5 (by decide) g0 (by decide)
  replace u68 := u68.kn hk5 hl5 (by decide) g0 (by decide)
  replace u60 := u60.kn hk5 hl5 (by decide) g0 (by decide)
  replace u61 := u61.kn hk5 hl5 (by decide) g0 (by decide)
  replace u62 := u62.kn hk5 hl5 (by decide) g0 (by decide)
  replace g0 := gz
  replace mm : sI H47 h0 (X.1.2 11 24) = 0 := (up_nI U47 (ne_f E 11 24 31 rfl (by decide) (by decide) (by decide))).trans mm
  replace mt : sI H47 h0 (X.1.2 11 8) = 0 := (up_nI U47 (ne_f E 11 8 31 rfl (by decide) (by decide) (by decide))).trans mt
  replace mh : sI H47 h0 (X.1.2 11 30) = 0 := (up_nI U47 (ne_f E 11 30 31 rfl (by decide) (by decide) (by decide))).trans mh
  replace zz : ZZ H47 q32 := zz.ne U47 (nek g0 gq32 (by decide))
  refine lv_aload_n hx hb dX12_init_116 rfl (lv_at hl 0 rfl) ?_
  refine lv_bipush (v := 100) hx hb dX12_init_117 rfl ?_
  replace hlt9 : ∀ x k, k < 60 → k ≠ 13 → Γ x = some k → x < H47.size := fun x k h1 h2 h => nw_lt hW (hG0 x k h1 h2 h) h2
  refine q_newP E hC hS hW (Nat.le_trans hn0 hz) (r := 72) (t := 2) (N := 100) (ty := .long) rfl rfl rfl rfl (fun _ _ h => h) (fun _ => by rfl) w_46 (by decide) (by decide) (by decide) (by decide) (by decide) (by decide) dX12_init_119 (fun q48 H48 Γ48 zq zs ho hcell gq48 hL hK E hC hS hW => ?_)
  replace hx := E.1; replace hb := E.2.1
  replace g0 := hL _ _ (by decide) g0
  replace gq22 := hL _ _ (by decide) gq22
  replace gq24 := hL _ _ (by decide) gq24
  replace gq26 := hL _ _ (by decide) gq26
  replace gq28 := hL _ _ (by decide) gq28
  replace gq32 := hL _ _ (by decide) gq32
  replace gq34 := hL _ _ (by decide) gq34
  replace gq36 := hL _ _ (by decide) gq36
  replace gq38 := hL _ _ (by decide) gq38
  replace gq40 := hL _ _ (by decide) gq40
  replace gq42 := hL _ _ (by decide) gq42
  replace gq44 := hL _ _ (by decide) gq44
  replace gq46 := hL _ _ (by decide) gq46
  replace hLf := hLf.al hL; replace hKN : True := trivial; replace hI := hI.al hL hK (by decide)
  replace hKb := hKb.al hK (by decide)
  replace hO0 := fun x k h1 h2 h => (ho x (hlt9 x k h1 h2 h)).trans (hO0 x k h1 h2 h); replace hG0 := fun x k h1 h2 h => hL _ _ h2 (hG0 x k h1 h2 h)
  replace mm : sI H48 h0 (X.1.2 11 24) = 0 := (sI_al ho (Nat.lt_of_lt_of_le hlt0 hz)).trans mm
  replace mt : sI H48 h0 (X.1.2 11 8) = 0 := (sI_al ho (Nat.lt_of_lt_of_le hlt0 hz)).trans mt
  replace mh : sI H48 h0 (X.1.2 11 30) = 0 := (sI_al ho (Nat.lt_of_lt_of_le hlt0 hz)).trans mh
  replace zz : ZZ H48 q32 := zz.al ho hzc
  replace u64 := u64.al hL hK (by decide) (by decide)
  replace u65 := u65.al hL hK (by decide) (by decide)
  replace u68 := u68.al hL hK (by decide) (by decide)
  replace u60 := u60.al hL hK (by decide) (by decide)
  replace u61 := u61.al hL hK (by decide) (by decide)
  replace u62 := u62.al hL hK (by decide) (by decide)
  replace hzq48 : H0.size ≤ q48 := by rw [zq]; exact hz
  replace hz : H0.size ≤ H48.size := by rw [zs]; exact Nat.le_succ_of_le hz
  replace hzc : q32 < H48.size := nw_lt hW gq32 (by decide)
  refine q_putN E hin hC hS hW g0 gq48 fn_RX12_60_542 rfl rfl ⟨by decide, by decide⟩ dX12_init_121 (fun H49 locs49 Γ49 zs eo U49 gz hl5 hk5 hE5 E hC hS hW => ?_)
  replace hx := E.1; replace hb := E.2.1
  replace hI := hI.put hl5 hk5 g0 (by decide)
  replace hKb := hKb.put hE5
  replace gq22 := hl5 _ _ (nek gq22 g0 (by decide)) (by decide) gq22
  replace gq24 := hl5 _ _ (nek gq24 g0 (by decide)) (by decide) gq24
  replace gq26 := hl5 _ _ (nek gq26 g0 (by decide)) (by decide) gq26
  replace gq28 := hl5 _ _ (nek gq28 g0 (by decide)) (by decide) gq28
  replace gq32 := hl5 _ _ (nek gq32 g0 (by decide)) (by decide) gq32
  replace gq34 := hl5 _ _ (nek gq34 g0 (by decide)) (by decide) gq34
  replace gq36 := hl5 _ _ (nek gq36 g0 (by decide)) (by decide) gq36
  replace gq38 := hl5 _ _ (nek gq38 g0 (by decide)) (by decide) gq38
  replace gq40 := hl5 _ _ (nek gq40 g0 (by decide)) (by decide) gq40
  replace gq42 := hl5 _ _ (nek gq42 g0 (by decide)) (by decide) gq42
  replace gq44 := hl5 _ _ (nek gq44 g0 (by decide)) (by decide) gq44
  replace gq46 := hl5 _ _ (nek gq46 g0 (by decide)) (by decide) gq46
  replace gq48 := hl5 _ _ (nek gq48 g0 (by decide)) (by decide) gq48
  replace hO0 := fun x k h1 h2 h => (eo x (nek (hG0 x k h1 h2 h) g0 (by omega))).trans (hO0 x k h1 h2 h); replace hG0 := fun x k h1 h2 h => hl5 _ _ (nek (hG0 x k h1 h2 h) g0 (by omega)) h2 (hG0 x k h1 h2 h)
  replace hLf := hLf.tr hl5; replace hKN : True := trivial
  replace hz : H0.size ≤ H49.size := by rw [zs]; exact hz
  replace hzc : q32 < H49.size := by rw [zs]; exact hzc
  replace u64 := u64.kn hk5 hl5 (by decide) g0 (by decide)
  replace u65 := u65.kn hk5 hl5 (by decide) g0 (by decide)
  replace u68 := u68.kn hk5 hl5 (by decide) g0 (by decide)
  replace u60 := u60.kn hk5 hl5 (by decide) g0 (by decide)
  replace u61 := u61.kn hk5 hl5 (by decide) g0 (by decide)
  replace u62 := u62.kn hk5 hl5 (by decide) g0 (by decide)
  replace g0 := gz
  replace mm : sI H49 h0 (X.1.2 11 24) = 0 := (up_nI U49 (ne_f E 11 24 32 rfl (by decide) (by decide) (by decide))).trans mm
  replace mt : sI H49 h0 (X.1.2 11 8) = 0 := (up_nI U49 (ne_f E 11 8 32 rfl (by decide) (by decide) (by decide))).trans mt
  replace mh : sI H49 h0 (X.1.2 11 30) = 0 := (up_nI U49 (ne_f E 11 30 32 rfl (by decide) (by decide) (by decide))).trans mh
  replace zz : ZZ H49 q32 := zz.ne U49 (nek g0 gq32 (by decide))
  refine lv_aload_n hx hb dX12_init_124 rfl (lv_at hl 0 rfl) ?_
  refine lv_bipush (v := 100) hx hb dX12_init_125 rfl ?_
  replace hlt9 : ∀ x k, k < 60 → k ≠ 13 → Γ x = some k → x < H49.size := fun x k h1 h2 h => nw_lt hW (hG0 x k h1 h2 h) h2
  refine q_newP E hC hS hW (Nat.le_trans hn0 hz) (r := 73) (t := 2) (N := 100) (ty := .long) rfl rfl rfl rfl (fun _ _ h => h) (fun _ => by rfl) w_46 (by decide) (by decide) (by decide) (by decide) (by decide) (by decide) dX12_init_127 (fun q50 H50 Γ50 zq zs ho hcell gq50 hL hK E hC hS hW => ?_)
  replace hx := E.1; replace hb := E.2.1
  replace g0 := hL _ _ (by decide) g0
  replace gq22 := hL _ _ (by decide) gq22
  replace gq24 := hL _ _ (by decide) gq24
  replace gq26 := hL _ _ (by decide) gq26
  replace gq28 := hL _ _ (by decide) gq28
  replace gq32 := hL _ _ (by decide) gq32
  replace gq34 := hL _ _ (by decide) gq34
  replace gq36 := hL _ _ (by decide) gq36
  replace gq38 := hL _ _ (by decide) gq38
  replace gq40 := hL _ _ (by decide) gq40
  replace gq42 := hL _ _ (by decide) gq42
  replace gq44 := hL _ _ (by decide) gq44
  replace gq46 := hL _ _ (by decide) gq46
  replace gq48 := hL _ _ (by decide) gq48
  replace hLf := hLf.al hL; replace hKN : True := trivial; replace hI := hI.al hL hK (by decide)
  replace hKb := hKb.al hK (by decide)
  replace hO0 := fun x k h1 h2 h => (ho x (hlt9 x k h1 h2 h)).trans (hO0 x k h1 h2 h); replace hG0 := fun x k h1 h2 h => hL _ _ h2 (hG0 x k h1 h2 h)
  replace mm : sI H50 h0 (X.1.2 11 24) = 0 := (sI_al ho (Nat.lt_of_lt_of_le hlt0 hz)).trans mm
  replace mt : sI H50 h0 (X.1.2 11 8) = 0 := (sI_al ho (Nat.lt_of_lt_of_le hlt0 hz)).trans mt
  replace mh : sI H50 h0 (X.1.2 11 30) = 0 := (sI_al ho (Nat.lt_of_lt_of_le hlt0 hz)).trans mh
  replace zz : ZZ H50 q32 := zz.al ho hzc
  replace u64 := u64.al hL hK (by decide) (by decide)
  replace u65 := u65.al hL hK (by decide) (by decide)
  replace u68 := u68.al hL hK (by decide) (by decide)
  replace u60 := u60.al hL hK (by decide) (by decide)
  replace u61 := u61.al hL hK (by decide) (by decide)
  replace u62 := u62.al hL hK (by decide) (by decide)
  replace hzq50 : H0.size ≤ q50 := by rw [zq]; exact hz
  replace hz : H0.size ≤ H50.size := by rw [zs]; exact Nat.le_succ_of_le hz
  replace hzc : q32 < H50.size := nw_lt hW gq32 (by decide)
  refine q_putN E hin hC hS hW g0 gq50 fn_RX12_63_543 rfl rfl ⟨by decide, by decide⟩ dX12_init_129 (fun H51 locs51 Γ51 zs eo U51 gz hl5 hk5 hE5 E hC hS hW => ?_)
  replace hx := E.1; replace hb := E.2.1
  replace hI := hI.put hl5 hk5 g0 (by decide)
  replace hKb := hKb.put hE5
  replace gq22 := hl5 _ _ (nek gq22 g0 (by decide)) (by decide) gq22
  replace gq24 := hl5 _ _ (nek gq24 g0 (by decide)) (by decide) gq24
  replace gq26 := hl5 _ _ (nek gq26 g0 (by decide)) (by decide) gq26
  replace gq28 := hl5 _ _ (nek gq28 g0 (by decide)) (by decide) gq28
  replace gq32 := hl5 _ _ (nek gq32 g0 (by decide)) (by decide) gq32
  replace gq34 := hl5 _ _ (nek gq34 g0 (by decide)) (by decide) gq34
  replace gq36 := hl5 _ _ (nek gq36 g0 (by decide)) (by decide) gq36
  replace gq38 := hl5 _ _ (nek gq38 g0 (by decide)) (by decide) gq38
  replace gq40 := hl5 _ _ (nek gq40 g0 (by decide)) (by decide) gq40
  replace gq42 := hl5 _ _ (nek gq42 g0 (by decide)) (by decide) gq42
  replace gq44 := hl5 _ _ (nek gq44 g0 (by decide)) (by decide) gq44
  replace gq46 := hl5 _ _ (nek gq46 g0 (by decide)) (by decide) gq46
  replace gq48 := hl5 _ _ (nek gq48 g0 (by decide)) (by decide) gq48
  replace gq50 := hl5 _ _ (nek gq50 g0 (by decide)) (by decide) gq50
  replace hO0 := fun x k h1 h2 h => (eo x (nek (hG0 x k h1 h2 h) g0 (by omega))).trans (hO0 x k h1 h2 h); replace hG0 := fun x k h1 h2 h => hl5 _ _ (nek (hG0 x k h1 h2 h) g0 (by omega)) h2 (hG0 x k h1 h2 h)
  replace hLf := hLf.tr hl5; replace hKN : True := trivial
  replace hz : H0.size ≤ H51.size := by rw [zs]; exact hz
  replace hzc : q32 < H51.size := by rw [zs]; exact hzc
  replace u64 := u64.kn hk5 hl5 (by decide) g0 (by decide)
  replace u65 := u65.kn hk5 hl5 (by decide) g0 (by decide)
  replace u68 := u68.kn hk5 hl5 (by decide) g0 (by decide)
  replace u60 := u60.kn hk5 hl5 (by decide) g0 (by decide)
  replace u61 := u61.kn hk5 hl5 (by decide) g0 (by decide)
  replace u62 := u62.kn hk5 hl5 (by decide) g0 (by decide)
  replace g0 := gz
  replace mm : sI H51 h0 (X.1.2 11 24) = 0 := (up_nI U51 (ne_f E 11 24 33 rfl (by decide) (by decide) (by decide))).trans mm
  replace mt : sI H51 h0 (X.1.2 11 8) = 0 := (up_nI U51 (ne_f E 11 8 33 rfl (by decide) (by decide) (by decide))).trans mt
  replace mh : sI H51 h0 (X.1.2 11 30) = 0 := (up_nI U51 (ne_f E 11 30 33 rfl (by decide) (by decide) (by decide))).trans mh
  replace zz : ZZ H51 q32 := zz.ne U51 (nek g0 gq32 (by decide))
  refine lv_aload_n hx hb dX12_init_132 rfl (lv_at hl 0 rfl) ?_
  refine lv_iconst (v := 4) hx hb dX12_init_133 rfl ?_
  replace hlt9 : ∀ x k, k < 60 → k ≠ 13 → Γ x = some k → x < H51.size := fun x k h1 h2 h => nw_lt hW (hG0 x k h1 h2 h) h2
  refine q_newP E hC hS hW (Nat.le_trans hn0 hz) (r := 74) (t := 1) (N := 4) (ty := .int) rfl rfl rfl rfl (fun _ _ h => h) (fun _ => by rfl) w_122 (by decide) (by decide) (by decide) (by decide) (by decide) (by decide) dX12_init_134 (fun q52 H52 Γ52 zq zs ho hcell gq52 hL hK E hC hS hW => ?_)
  replace hx := E.1; replace hb := E.2.1
  replace g0 := hL _ _ (by decide) g0
  replace gq22 := hL _ _ (by decide) gq22
  replace gq24 := hL _ _ (by decide) gq24
  replace gq26 := hL _ _ (by decide) gq26
  replace gq28 := hL _ _ (by decide) gq28
  replace gq32 := hL _ _ (by decide) gq32
  replace gq34 := hL _ _ (by decide) gq34
  replace gq36 := hL _ _ (by decide) gq36
  replace gq38 := hL _ _ (by decide) gq38
  replace gq40 := hL _ _ (by decide) gq40
  replace gq42 := hL _ _ (by decide) gq42
  replace gq44 := hL _ _ (by decide) gq44
  replace gq46 := hL _ _ (by decide) gq46
  replace gq48 := hL _ _ (by decide) gq48
  replace gq50 := hL _ _ (by decide) gq50
  replace hLf := hLf.al hL; replace hKN : True := trivial; replace hI := hI.al hL hK (by decide)
  replace hKb := hKb.al hK (by decide)
  replace hO0 := fun x k h1 h2 h => (ho x (hlt9 x k h1 h2 h)).trans (hO0 x k h1 h2 h); replace hG0 := fun x k h1 h2 h => hL _ _ h2 (hG0 x k h1 h2 h)
  replace mm : sI H52 h0 (X.1.2 11 24) = 0 := (sI_al ho (Nat.lt_of_lt_of_le hlt0 hz)).trans mm
  replace mt : sI H52 h0 (X.1.2 11 8) = 0 := (sI_al ho (Nat.lt_of_lt_of_le hlt0 hz)).trans mt
  replace mh : sI H52 h0 (X.1.2 11 30) = 0 := (sI_al ho (Nat.lt_of_lt_of_le hlt0 hz)).trans mh
  replace zz : ZZ H52 q32 := zz.al ho hzc
  replace u64 := u64.al hL hK (by decide) (by decide)
  replace u65 := u65.al hL hK (by decide) (by decide)
  replace u68 := u68.al hL hK (by decide) (by decide)
  replace u60 := u60.al hL hK (by decide) (by decide)
  replace u61 := u61.al hL hK (by decide) (by decide)
  replace u62 := u62.al hL hK (by decide) (by decide)
  replace hzq52 : H0.size ≤ q52 := by rw [zq]; exact hz
  replace hz : H0.size ≤ H52.size := by rw [zs]; exact Nat.le_succ_of_le hz
  replace hzc : q32 < H52.size := nw_lt hW gq32 (by decide)
  refine q_putN E hin hC hS hW g0 gq52 fn_RX12_66_544 rfl rfl ⟨by decide, by decide⟩ dX12_init_136 (fun H53 locs53 Γ53 zs eo U53 gz hl5 hk5 hE5 E hC hS hW => ?_)
  replace hx := E.1; replace hb := E.2.1
  replace hI := hI.put hl5 hk5 g0 (by decide)
  replace hKb := hKb.put hE5
  replace gq22 := hl5 _ _ (nek gq22 g0 (by decide)) (by decide) gq22
  replace gq24 := hl5 _ _ (nek gq24 g0 (by decide)) (by decide) gq24
  replace gq26 := hl5 _ _ (nek gq26 g0 (by decide)) (by decide) gq26
  replace gq28 := hl5 _ _ (nek gq28 g0 (by decide)) (by decide) gq28
  replace gq32 := hl5 _ _ (nek gq32 g0 (by decide)) (by decide) gq32
  replace gq34 := hl5 _ _ (nek gq34 g0 (by decide)) (by decide) gq34
  replace gq36 := hl5 _ _ (nek gq36 g0 (by decide)) (by decide) gq36
  replace gq38 := hl5 _ _ (nek gq38 g0 (by decide)) (by decide) gq38
  replace gq40 := hl5 _ _ (nek gq40 g0 (by decide)) (by decide) gq40
  replace gq42 := hl5 _ _ (nek gq42 g0 (by decide)) (by decide) gq42
  replace gq44 := hl5 _ _ (nek gq44 g0 (by decide)) (by decide) gq44
  replace gq46 := hl5 _ _ (nek gq46 g0 (by decide)) (by decide) gq46
  replace gq48 := hl5 _ _ (nek gq48 g0 (by decide)) (by decide) gq48
  replace gq50 := hl5 _ _ (nek gq50 g0 (by decide)) (by decide) gq50
  replace gq52 := hl5 _ _ (nek gq52 g0 (by decide)) (by decide) gq52
  replace hO0 := fun x k h1 h2 h => (eo x (nek (hG0 x k h1 h2 h) g0 (by omega))).trans (hO0 x k h1 h2 h); replace hG0 := fun x k h1 h2 h => hl5 _ _ (nek (hG0 x k h1 h2 h) g0 (by omega)) h2 (hG0 x k h1 h2 h)
  replace hLf := hLf.tr hl5; replace hKN : True := trivial
  replace hz : H0.size ≤ H53.size := by rw [zs]; exact hz
  replace hzc : q32 < H53.size := by rw [zs]; exact hzc
  replace u64 := u64.kn hk5 hl5 (by decide) g0 (by decide)
  replace u65 := u65.kn hk5 hl5 (by decide) g0 (by decide)
  replace u68 := u68.kn hk5 hl5 (by decide) g0 (by decide)
  replace u60 := u60.kn hk5 hl5 (by decide) g0 (by decide)
  replace u61 := u61.kn hk5 hl5 (by decide) g0 (by decide)
  replace u62 := u62.kn hk5 hl5 (by decide) g0 (by decide)
  replace g0 := gz
  replace mm : sI H53 h0 (X.1.2 11 24) = 0 := (up_nI U53 (ne_f E 11 24 34 rfl (by decide) (by decide) (by decide))).trans mm
  replace mt : sI H53 h0 (X.1.2 11 8) = 0 := (up_nI U53 (ne_f E 11 8 34 rfl (by decide) (by decide) (by decide))).trans mt
  replace mh : sI H53 h0 (X.1.2 11 30) = 0 := (up_nI U53 (ne_f E 11 30 34 rfl (by decide) (by decide) (by decide))).trans mh
  replace zz : ZZ H53 q32 := zz.ne U53 (nek g0 gq32 (by decide))
  refine lv_iconst (v := 0) hx hb dX12_init_139 rfl ?_
  refine lv_istore_n hx hb dX12_init_140 rfl hl (by decide) rfl (fun ls hl => ?_)
  replace hl : lv_has ls 2 [(1, .int 0), (0, .ref h0)] := hl
  replace L141 : ∀ (n5 : Nat) (H : Heap) (locs : List Loc) (v : Int32) (z : Int) (ls : Array Slot), (4 - z).toNat < n5 → v.toInt = z → 0 ≤ z → z ≤ 4 → Conf X Γ53 H → va_S (AΓ Γ53) H0 H locs → NwG Γ53 n0 H → H53.size ≤ H.size → sI H h0 (X.1.2 11 24) = 0 → sI H h0 (X.1.2 11 8) = 0 → sI H h0 (X.1.2 11 30) = 0 → ZZ H q32 → (∀ x k, k < 60 → k ≠ 13 → Γ x = some k → H[x]? = H0[x]?) → (∀ u : Nat, (u : Int) < z → sI H q24 u = -1) → lv_has ls 2 [(1, .int v), (0, .ref h0)] → W p l e { frames := 1, cells := 15, slots := 4548, locals := 64 * 1 } s m args below meth c H locs 15 4548 Qz (F0 m 141 ls []) := by
    intro n5
    induction n5 with
    | zero => intro H locs v z ls hm; exact absurd hm (Nat.not_lt_zero _)
    | succ n5 ih =>
      intro H locs v z ls hm ez h0z h4z hC hS hW hz5 mm mt mh zz hO0 htm hl
      refine lv_iload_n hx hb dX12_init_141 rfl (lv_at hl 0 rfl) ?_
      refine lv_iconst (v := 4) hx hb dX12_init_142 rfl ?_
      refine q_icmp_ge hx hb (a := z) (b := 4) ez (by decide) (tgt := 159) dX12_init_143 rfl (fun c1 => ?_) (fun c1 => ?_)
      · replace tmv : ∀ u : Nat, u < 4 → sI H q24 u = -1 := fun u hu => htm u (by omega)
        refine lv_aload_n hx hb dX12_init_159 rfl (lv_at hl 1 rfl) ?_
        refine q_getUz E hC g0 faz_RX12_35_11 u64.2 dX12_init_160 ?_
        refine lv_iconst (v := 0) hx hb dX12_init_163 rfl ?_
        refine lv_iconst (v := 2) hx hb dX12_init_164 rfl ?_
        refine q_iastZ E hC hS gq32 (by decide) rfl rfl (vp_in_iff.mpr ⟨by decide, by decide⟩) (show tv _ (cTy (Int32.toNatClampNeg 0)) _ from ⟨2, rfl, by decide, by decide⟩) dX12_init_165 (fun H60 locs60 zs eo hC hS U60 => ?_)
        replace hO0 := fun x k h1 h2 h => (eo x (nek (hG0 x k h1 h2 h) gq32 (by omega))).trans (hO0 x k h1 h2 h)
        replace hW := hW.up (Nat.le_of_eq zs.symm)
        replace tmv : ∀ u : Nat, u < 4 → sI H60 q24 u = -1 := fun u hu => (up_nI U60 (fun hh => absurd hh.1 (nek gq24 gq32 (by decide)))).trans (tmv u hu)
        replace mm : sI H60 h0 (X.1.2 11 24) = 0 := (up_nI U60 (fun hh => absurd hh.1 (nek g0 gq32 (by decide)))).trans mm
        replace mt : sI H60 h0 (X.1.2 11 8) = 0 := (up_nI U60 (fun hh => absurd hh.1 (nek g0 gq32 (by decide)))).trans mt
        replace mh : sI H60 h0 (X.1.2 11 30) = 0 := (up_nI U60 (fun hh => absurd hh.1 (nek g0 gq32 (by decide)))).trans mh
        replace zz : ZZ H60 q32 := zz.up (a := 0) U60 (by decide)
        replace c0 := up_I U60
        refine lv_aload_n hx hb dX12_init_166 rfl (lv_at hl 1 rfl) ?_
        refine q_getUz E hC g0 faz_RX12_35_11 u64.2 dX12_init_167 ?_
        refine lv_iconst (v := 1) hx hb dX12_init_170 rfl ?_
        refine lv_iconst (v := 1) hx hb dX12_init_171 rfl ?_
        refine q_iastZ E hC hS gq32 (by decide) rfl rfl (vp_in_iff.mpr ⟨by decide, by decide⟩) (show tv _ (cTy (Int32.toNatClampNeg 1)) _ from ⟨1, rfl, by decide, by decide⟩) dX12_init_172 (fun H62 locs62 zs eo hC hS U62 => ?_)
        replace hO0 := fun x k h1 h2 h => (eo x (nek (hG0 x k h1 h2 h) gq32 (by omega))).trans (hO0 x k h1 h2 h)
        replace hW := hW.up (Nat.le_of_eq zs.symm)
        replace tmv : ∀ u : Nat, u < 4 → sI H62 q24 u = -1 := fun u hu => (up_nI U62 (fun hh => absurd hh.1 (nek gq24 gq32 (by decide)))).trans (tmv u hu)
        replace mm : sI H62 h0 (X.1.2 11 24) = 0 := (up_nI U62 (fun hh => absurd hh.1 (nek g0 gq32 (by decide)))).trans mm
        replace mt : sI H62 h0 (X.1.2 11 8) = 0 := (up_nI U62 (fun hh => absurd hh.1 (nek g0 gq32 (by decide)))).trans mt
        replace mh : sI H62 h0 (X.1.2 11 30) = 0 := (up_nI U62 (fun hh => absurd hh.1 (nek g0 gq32 (by decide)))).trans mh
        replace zz : ZZ H62 q32 := zz.up (a := 1) U62 (by decide)
        replace c0 := (up_nI (a' := q32) (j' := (0 : Int32).toNatClampNeg) U62 (fun hh => absurd hh.2 (by decide))).trans c0; replace c1 := up_I U62
        exact ret H62 Γ53 _ _ _ dX12_init_173 g0 hLf hW hI ⟨q32, _, _, _, _, _, u64, u65, u68, ⟨u61, u60, u62, tmv⟩, mm, mt, mh, zz, c0, c1, hO0, hKb⟩ hC hS
      · refine lv_aload_n hx hb dX12_init_146 rfl (lv_at hl 1 rfl) ?_
        refine q_getUz E hC g0 faz_RX12_17_11 u61.2 dX12_init_147 ?_
        refine lv_iload_n hx hb dX12_init_150 rfl (lv_at hl 0 rfl) ?_
        refine lv_iconst (v := (-1)) hx hb dX12_init_151 rfl ?_
        refine q_iastZ E hC hS gq24 (by decide) rfl rfl (i_in ez (by omega) (by omega)) (tv_I (show ((-1) : Int32).toInt = -1 from by decide) (by decide) (by decide)) dX12_init_152 (fun H1 locs1 zs eo hC hS U => ?_)
        replace U2 : Up H H1 q24 z.toNat (.int (-1)) := i_ix ez ▸ U
        obtain ⟨w, ew⟩ : ∃ w, w = v + Int32.ofInt 1 := ⟨_, rfl⟩
        replace ewi : w.toInt = (z + 1) := i_add ew ez (by decide) (by omega) (by omega)
        refine lv_iinc hx hb dX12_init_153 hl (k := 0) rfl ew.symm (by decide) rfl (fun ls hl => ?_)
        refine lv_goto (tgt := 141) hx hb dX12_init_156 rfl ?_
        replace htm2 : ∀ u : Nat, (u : Int) < z + 1 → sI H1 q24 u = -1 := fun u hu => by
          by_cases h : u = z.toNat
          · subst h; exact up_I U2
          · rw [up_nI U2 (fun q => h q.2)]; exact htm u (by omega)
        exact ih H1 locs1 w (z + 1) ls (by omega) ewi (by omega) (by omega) hC hS (hW.up (Nat.le_of_eq zs.symm)) (by omega) ((up_nI U (fun hh => absurd hh.1 (nek g0 gq24 (by decide)))).trans mm) ((up_nI U (fun hh => absurd hh.1 (nek g0 gq24 (by decide)))).trans mt) ((up_nI U (fun hh => absurd hh.1 (nek g0 gq24 (by decide)))).trans mh) (zz.ne U (nek gq24 gq32 (by decide))) (fun x k h1 h2 h => (eo x (nek (hG0 x k h1 h2 h) gq24 (by omega))).trans (hO0 x k h1 h2 h)) (fun u hu => htm2 u hu) (lv_sub hl [0, 1] rfl)
  exact L141 5 H53 _ 0 0 ls (by decide) (by decide) (by decide) (by decide) hC hS hW (Nat.le_refl _) mm mt mh zz hO0 (fun u hu => by omega) hl
