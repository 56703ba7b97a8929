set_option maxRecDepth 100000 in
set_option maxHeartbeats 4000000 in
theorem m_X12_acrossOf (l : Launch) (X : xW) (Γ : Nat → Option Nat) (H0 : Heap) (hC0 : Conf X Γ H0) (h0 : Nat) (g0 : Γ h0 = some 11) (p1 : Int32) {a1 : Int} (e1 : p1.toInt = a1) (ca : Nat) (gca : Γ ca = some 64) (uc : ∀ a, Γ a = some 64 → a = ca) (r0 : 0 ≤ a1) (r1 : a1 ≤ 35) : Ctr l X Γ yX12_acrossOf cX12_acrossOf 2 (some .int) 0 [.ref h0, .int p1] H0 (QI X Γ (fun v H1 => H1 = H0 ∧ ((-6 ≤ v.toInt) ∧ (v.toInt ≤ 41) ∧ (v.toInt = 6 * (a1 / 6) + (sI H0 ca (0 : Int).toNat).toInt - 1 - a1 % 6)))) := by
  refine q_enterI (own := "SnowFortsModel") (by decide) rfl (Nat.le_of_ble_eq_true rfl) ?_
  intro p e s m args below meth c ls Qz E hl ret hS0
  have hx := E.1; have hb := E.2.1
  have hl : lv_has ls 2 [(0, .ref h0), (1, .int p1)] := hl
  refine lv_bipush (v := 6) hx hb dX12_acrossOf_0 rfl ?_
  refine lv_iload_n hx hb dX12_acrossOf_2 rfl (lv_at hl 1 rfl) ?_
  refine lv_bipush (v := 6) hx hb dX12_acrossOf_3 rfl ?_
  refine lv_idiv hx hb dX12_acrossOf_5 (by decide) (lv_topi (fun v21 ev21 => ?_))
  have ev21i : v21.toInt = (a1 / 6) := i_div ev21 e1 (by decide) (by omega) (by decide)
  refine lv_imul hx hb dX12_acrossOf_6 (lv_topi (fun v22 ev22 => ?_))
  have ev22i : v22.toInt = (6 * (a1 / 6)) := i_mul ev22 (by decide) ev21i (by omega) (by omega)
  refine lv_aload_n hx hb dX12_acrossOf_7 rfl (lv_at hl 0 rfl) ?_
  refine q_getC E hC0 g0 fa_RX12_35 uc dX12_acrossOf_8 ?_
  refine lv_iconst (v := 0) hx hb dX12_acrossOf_11 rfl ?_
  refine q_cald E hC0 (lo := 0) (hi := 6) gca (a := 0) (show (0 : Int32).toInt = 0 from by decide) (by omega) (by omega) (cr_c0 (by omega) (by omega)) dX12_acrossOf_12 (fun v23 ev23 lv23 uv23 => ?_)
  have m24 : (sI H0 ca (0 : Int).toNat).toInt = v23.toInt := congrArg Int32.toInt ev23
  refine lv_iadd hx hb dX12_acrossOf_13 (lv_topi (fun v25 ev25 => ?_))
  have ev25i : v25.toInt = ((6 * (a1 / 6)) + v23.toInt) := i_add ev25 ev22i rfl (by omega) (by omega)
  refine lv_iconst (v := 1) hx hb dX12_acrossOf_14 rfl ?_
  refine lv_isub hx hb dX12_acrossOf_15 (lv_topi (fun v26 ev26 => ?_))
  have ev26i : v26.toInt = (((6 * (a1 / 6)) + v23.toInt) - 1) := i_sub ev26 ev25i (by decide) (by omega) (by omega)
  refine lv_iload_n hx hb dX12_acrossOf_16 rfl (lv_at hl 1 rfl) ?_
  refine lv_bipush (v := 6) hx hb dX12_acrossOf_17 rfl ?_
  refine lv_irem hx hb dX12_acrossOf_19 (by decide) (lv_topi (fun v27 ev27 => ?_))
  have ev27i : v27.toInt = (a1 % 6) := i_rem ev27 e1 (by decide) (by omega) (by decide)
  refine lv_isub hx hb dX12_acrossOf_20 (lv_topi (fun v28 ev28 => ?_))
  have ev28i : v28.toInt = ((((6 * (a1 / 6)) + v23.toInt) - 1) - (a1 % 6)) := i_sub ev28 ev26i ev27i (by omega) (by omega)
  have c29 : v28.toInt = ((((6 * (a1 / 6)) + v23.toInt) - 1) - (a1 % 6)) := ev28i
  exact ret v28 H0 [] _ _ dX12_acrossOf_21 ⟨rfl, ⟨by omega, by omega, by omega⟩⟩ hC0 hS0
set_option maxRecDepth 100000 in
set_option maxHeartbeats 4000000 in
theorem m_X12_breaks (l : Launch) (X : xW) (Γ : Nat → Option Nat) (H0 : Heap) (hC0 : Conf X Γ H0) (h0 : Nat) (g0 : Γ h0 = some 11) (p1 : Int32) {a1 : Int} (e1 : p1.toInt = a1) (p2 : Int32) {a2 : Int} (e2 : p2.toInt = a2) (p3 : Int32) {a3 : Int} (e3 : p3.toInt = a3) (ca : Nat) (gca : Γ ca = some 64) (uc : ∀ a, Γ a = some 64 → a = ca) (r0 : 0 ≤ a1) (r1 : a1 ≤ 1) : Ctr l X Γ yX12_breaks cX12_breaks 4 none 0 [.ref h0, .int p1, .int p2, .int p3] H0 (QV X Γ (fun H1 => Kp X Γ [1, 6, 7, 8, 9, 10, 11, 12, 14, 16, 17, 19, 22, 24] H0 H1)) := by
  refine q_enterV (own := "SnowFortsModel") (by decide) rfl (Nat.le_of_ble_eq_true rfl) ?_
  intro p e s m args below meth c ls Qz E hl ret hS0
  have hx := E.1; have hb := E.2.1
  have hKp0 : Kp X Γ [1, 6, 7, 8, 9, 10, 11, 12, 14, 16, 17, 19, 22, 24] H0 H0 := Kp.rf
  have hl : lv_has ls 4 [(0, .ref h0), (1, .int p1), (2, .int p2), (3, .int p3)] := hl
  refine lv_aload_n hx hb dX12_breaks_0 rfl (lv_at hl 0 rfl) ?_
  refine q_getC E hC0 g0 fa_RX12_35 uc dX12_breaks_1 ?_
  refine lv_iconst (v := 4) hx hb dX12_breaks_4 rfl ?_
  refine q_cald E hC0 (lo := -2147483648) (hi := 2147483647) gca (a := 4) (show (4 : Int32).toInt = 4 from by decide) (by omega) (by omega) (cr_c3 (by omega) (by omega)) dX12_breaks_5 (fun v21 ev21 _ _ => ?_)
  refine q_if_ne hx hb (a := v21.toInt) rfl (tgt := 46) dX12_breaks_6 rfl (fun c22 => ?_) (fun c22 => ?_)
  · refine lv_aload_n hx hb dX12_breaks_46 rfl (lv_at hl 0 rfl) ?_
    refine q_getC E hC0 g0 fa_RX12_35 uc dX12_breaks_47 ?_
    refine lv_iconst (v := 4) hx hb dX12_breaks_50 rfl ?_
    refine lv_dup2_11 hx hb dX12_breaks_51 rfl rfl ?_
    refine q_cald E hC0 (lo := -2147483648) (hi := 2147483647) gca (a := 4) (show (4 : Int32).toInt = 4 from by decide) (by omega) (by omega) (cr_c3 (by omega) (by omega)) dX12_breaks_52 (fun v23 ev23 _ _ => ?_)
    have qv23 := ev21.symm.trans ev23; subst qv23
    refine lv_iconst (v := 1) hx hb dX12_breaks_53 rfl ?_
    refine lv_iadd hx hb dX12_breaks_54 (lv_topi (fun v24 ev24 => ?_))
    refine q_cast E hC0 hS0 gca (a := 4) (show (4 : Int32).toInt = 4 from by decide) (by omega) (by omega) (cs_c3 (a := 4) (by omega) (by omega)) dX12_breaks_55 (fun H25 locs25 hC25 hS25 U25 => ?_)
    have hKp25 := Kp.upD gca rfl rfl (fun _ => ⟨fun _ => nd1 (by omega) (by omega), fun _ => by unfold dpu; omega, fun _ => by unfold dpn; omega⟩) U25 hKp0
    have e26 := up_I U25
    refine lv_aload_n hx hb dX12_breaks_56 rfl (lv_at hl 0 rfl) ?_
    refine q_getC E hC25 g0 fa_RX12_35 uc dX12_breaks_57 ?_
    refine lv_bipush (v := 16) hx hb dX12_breaks_60 rfl ?_
    refine lv_iload_n hx hb dX12_breaks_62 rfl (lv_at hl 1 rfl) ?_
    refine lv_iadd hx hb dX12_breaks_63 (lv_topi (fun v27 ev27 => ?_))
    have ev27i : v27.toInt = (16 + a1) := i_add ev27 (by decide) e1 (by omega) (by omega)
    refine lv_dup2_11 hx hb dX12_breaks_64 rfl rfl ?_
    refine q_cald E hC25 (lo := -2147483648) (hi := 2147483647) gca (a := (16 + a1)) ev27i (by omega) (by omega) (cr_c16 (by omega) (by omega)) dX12_breaks_65 (fun v28 ev28 _ _ => ?_)
    refine lv_iconst (v := 1) hx hb dX12_breaks_66 rfl ?_
    refine lv_iadd hx hb dX12_breaks_67 (lv_topi (fun v29 ev29 => ?_))
    refine q_cast E hC25 hS25 gca (a := (16 + a1)) ev27i (by omega) (by omega) (cs_c16 (a := (16 + a1)) (by omega) (by omega)) dX12_breaks_68 (fun H30 locs30 hC30 hS30 U30 => ?_)
    have hKp30 := Kp.upD gca rfl rfl (fun _ => ⟨fun _ => nd2 (by omega) (by omega), fun _ => by unfold dpu; omega, fun _ => by unfold dpn; omega⟩) U30 hKp25
    have e31 := up_I U30
    exact ret H30 locs30 _ _ dX12_breaks_69 hKp30 hC30 hS30
  · refine lv_aload_n hx hb dX12_breaks_9 rfl (lv_at hl 0 rfl) ?_
    refine q_getC E hC0 g0 fa_RX12_35 uc dX12_breaks_10 ?_
    refine lv_bipush (v := 8) hx hb dX12_breaks_13 rfl ?_
    refine lv_iload_n hx hb dX12_breaks_15 rfl (lv_at hl 1 rfl) ?_
    refine q_cast E hC0 hS0 gca (a := 8) (show (8 : Int32).toInt = 8 from by decide) (by omega) (by omega) (cs_c3 (a := 8) (by omega) (by omega)) dX12_breaks_16 (fun H32 locs32 hC32 hS32 U32 => ?_)
    have hKp32 := Kp.upD gca rfl rfl (fun _ => ⟨fun _ => nd1 (by omega) (by omega), fun _ => by unfold dpu; omega, fun _ => by unfold dpn; omega⟩) U32 hKp0
    have e33 := up_I U32
    refine lv_aload_n hx hb dX12_breaks_17 rfl (lv_at hl 0 rfl) ?_
    refine q_getC E hC32 g0 fa_RX12_35 uc dX12_breaks_18 ?_
    refine lv_bipush (v := 9) hx hb dX12_breaks_21 rfl ?_
    refine lv_iload_n hx hb dX12_breaks_23 rfl (lv_at hl 2 rfl) ?_
    refine q_cast E hC32 hS32 gca (a := 9) (show (9 : Int32).toInt = 9 from by decide) (by omega) (by omega) (cs_c3 (a := 9) (by omega) (by omega)) dX12_breaks_24 (fun H34 locs34 hC34 hS34 U34 => ?_)
    have hKp34 := Kp.upD gca rfl rfl (fun _ => ⟨fun _ => nd1 (by omega) (by omega), fun _ => by unfold dpu; omega, fun _ => by unfold dpn; omega⟩) U34 hKp32
    have e35 := up_I U34
    refine lv_aload_n hx hb dX12_breaks_25 rfl (lv_at hl 0 rfl) ?_
    refine q_getC E hC34 g0 fa_RX12_35 uc dX12_breaks_26 ?_
    refine lv_bipush (v := 10) hx hb dX12_breaks_29 rfl ?_
    refine lv_aload_n hx hb dX12_breaks_31 rfl (lv_at hl 0 rfl) ?_
    refine q_getC E hC34 g0 fa_RX12_35 uc dX12_breaks_32 ?_
    refine lv_iconst (v := 3) hx hb dX12_breaks_35 rfl ?_
    refine q_cald E hC34 (lo := -2147483648) (hi := 2147483647) gca (a := 3) (show (3 : Int32).toInt = 3 from by decide) (by omega) (by omega) (cr_c3 (by omega) (by omega)) dX12_breaks_36 (fun v36 ev36 _ _ => ?_)
    refine q_cast E hC34 hS34 gca (a := 10) (show (10 : Int32).toInt = 10 from by decide) (by omega) (by omega) (cs_c3 (a := 10) (by omega) (by omega)) dX12_breaks_37 (fun H37 locs37 hC37 hS37 U37 => ?_)
    have hKp37 := Kp.upD gca rfl rfl (fun _ => ⟨fun _ => nd1 (by omega) (by omega), fun _ => by unfold dpu; omega, fun _ => by unfold dpn; omega⟩) U37 hKp34
    have e38 := up_I U37
    refine lv_aload_n hx hb dX12_breaks_38 rfl (lv_at hl 0 rfl) ?_
    refine q_getC E hC37 g0 fa_RX12_35 uc dX12_breaks_39 ?_
    refine lv_bipush (v := 11) hx hb dX12_breaks_42 rfl ?_
    refine lv_iload_n hx hb dX12_breaks_44 rfl (lv_at hl 3 rfl) ?_
    refine q_cast E hC37 hS37 gca (a := 11) (show (11 : Int32).toInt = 11 from by decide) (by omega) (by omega) (cs_c3 (a := 11) (by omega) (by omega)) dX12_breaks_45 (fun H39 locs39 hC39 hS39 U39 => ?_)
    have hKp39 := Kp.upD gca rfl rfl (fun _ => ⟨fun _ => nd1 (by omega) (by omega), fun _ => by unfold dpu; omega, fun _ => by unfold dpn; omega⟩) U39 hKp37
    have e40 := up_I U39
    refine lv_aload_n hx hb dX12_breaks_46 rfl (lv_at hl 0 rfl) ?_
    refine q_getC E hC39 g0 fa_RX12_35 uc dX12_breaks_47 ?_
    refine lv_iconst (v := 4) hx hb dX12_breaks_50 rfl ?_
    refine lv_dup2_11 hx hb dX12_breaks_51 rfl rfl ?_
    have e42 := (up_nI (a' := ca) (j' := (4 : Int).toNat) U32 (fun h => by have h2 := h.2; omega)).trans ev21
    have e43 := (up_nI (a' := ca) (j' := (4 : Int).toNat) U34 (fun h => by have h2 := h.2; omega)).trans e42
    have e44 := (up_nI (a' := ca) (j' := (4 : Int).toNat) U37 (fun h => by have h2 := h.2; omega)).trans e43
    have e45 := (up_nI (a' := ca) (j' := (4 : Int).toNat) U39 (fun h => by have h2 := h.2; omega)).trans e44
    refine q_cald E hC39 (lo := -2147483648) (hi := 2147483647) gca (a := 4) (show (4 : Int32).toInt = 4 from by decide) (by omega) (by omega) (cr_c3 (by omega) (by omega)) dX12_breaks_52 (fun v41 ev41 _ _ => ?_)
    have qv41 := e45.symm.trans ev41; subst qv41
    refine lv_iconst (v := 1) hx hb dX12_breaks_53 rfl ?_
    refine lv_iadd hx hb dX12_breaks_54 (lv_topi (fun v46 ev46 => ?_))
    have ev46i : v46.toInt = (v21.toInt + 1) := i_add ev46 rfl (by decide) (by omega) (by omega)
    refine q_cast E hC39 hS39 gca (a := 4) (show (4 : Int32).toInt = 4 from by decide) (by omega) (by omega) (cs_c3 (a := 4) (by omega) (by omega)) dX12_breaks_55 (fun H47 locs47 hC47 hS47 U47 => ?_)
    have hKp47 := Kp.upD gca rfl rfl (fun _ => ⟨fun _ => nd1 (by omega) (by omega), fun _ => by unfold dpu; omega, fun _ => by unfold dpn; omega⟩) U47 hKp39
    have e48 := up_I U47
    refine lv_aload_n hx hb dX12_breaks_56 rfl (lv_at hl 0 rfl) ?_
    refine q_getC E hC47 g0 fa_RX12_35 uc dX12_breaks_57 ?_
    refine lv_bipush (v := 16) hx hb dX12_breaks_60 rfl ?_
    refine lv_iload_n hx hb dX12_breaks_62 rfl (lv_at hl 1 rfl) ?_
    refine lv_iadd hx hb dX12_breaks_63 (lv_topi (fun v49 ev49 => ?_))
    have ev49i : v49.toInt = (16 + a1) := i_add ev49 (by decide) e1 (by omega) (by omega)
    refine lv_dup2_11 hx hb dX12_breaks_64 rfl rfl ?_
    refine q_cald E hC47 (lo := -2147483648) (hi := 2147483647) gca (a := (16 + a1)) ev49i (by omega) (by omega) (cr_c16 (by omega) (by omega)) dX12_breaks_65 (fun v50 ev50 _ _ => ?_)
    refine lv_iconst (v := 1) hx hb dX12_breaks_66 rfl ?_
    refine lv_iadd hx hb dX12_breaks_67 (lv_topi (fun v51 ev51 => ?_))
    refine q_cast E hC47 hS47 gca (a := (16 + a1)) ev49i (by omega) (by omega) (cs_c16 (a := (16 + a1)) (by omega) (by omega)) dX12_breaks_68 (fun H52 locs52 hC52 hS52 U52 => ?_)
    have hKp52 := Kp.upD gca rfl rfl (fun _ => ⟨fun _ => nd2 (by omega) (by omega), fun _ => by unfold dpu; omega, fun _ => by unfold dpn; omega⟩) U52 hKp47
    have e53 := up_I U52
    exact ret H52 locs52 _ _ dX12_breaks_69 hKp52 hC52 hS52
set_option maxRecDepth 100000 in
set_option maxHeartbeats 4000000 in
theorem m_X12_builds (l : Launch) (X : xW) (Γ : Nat → Option Nat) (H0 : Heap) (hC0 : Conf X Γ H0) (h0 : Nat) (g0 : Γ h0 = some 11) (p1 : Int32) {a1 : Int} (e1 : p1.toInt = a1) (p2 : Int32) {a2 : Int} (e2 : p2.toInt = a2) (ca : Nat) (gca : Γ ca = some 64) (uc : ∀ a, Γ a = some 64 → a = ca) (hu0 : UH H0 ca) (r0 : 0 ≤ a1) (r1 : a1 ≤ 35) : Ctr l X Γ yX12_builds cX12_builds 6 (some .int) 1 [.ref h0, .int p1, .int p2] H0 (QI X Γ (fun v H1 => (Kp X Γ [1, 6, 7, 8, 9, 10, 11, 12, 14, 17, 19, 22, 24] H0 H1 ∧ UH H1 ca) ∧ (True))) := by
  refine q_enterI (own := "SnowFortsModel") (by decide) rfl (Nat.le_of_ble_eq_true rfl) ?_
  intro p e s m args below meth c ls Qz E hl ret hS0
  have hx := E.1; have hb := E.2.1
  have hKp0 : Kp X Γ [1, 6, 7, 8, 9, 10, 11, 12, 14, 17, 19, 22, 24] H0 H0 := Kp.rf
  have hl : lv_has ls 6 [(0, .ref h0), (1, .int p1), (2, .int p2)] := hl
  refine lv_aload_n hx hb dX12_builds_0 rfl (lv_at hl 0 rfl) ?_
  refine lv_iload_n hx hb dX12_builds_1 rfl (lv_at hl 1 rfl) ?_
  refine lv_bipush (v := 6) hx hb dX12_builds_2 rfl ?_
  refine lv_irem hx hb dX12_builds_4 (by decide) (lv_topi (fun v21 ev21 => ?_))
  have ev21i : v21.toInt = (a1 % 6) := i_rem ev21 e1 (by decide) (by omega) (by decide)
  refine q_goIp (q_runV (As := [.int v21]) (rest := []) E hC0 hS0 (m_X12_halfOf l X Γ H0 hC0 h0 g0 v21 (a1 := (a1 % 6)) ev21i ca gca uc) cw_X12_halfOf cl_RX12_270 g0 ⟨rfl, rfl⟩ rfl hl.1 rfl (Nat.zero_le _) (by decide) dX12_builds_5) hS0 (fun v22 locs22 hr22 hS22 => ?_)
  obtain ⟨f22_0, f22_1⟩ := hr22
  refine lv_istore_n hx hb dX12_builds_8 rfl hl (by decide) rfl (fun ls hl => ?_)
  have hl : lv_has ls 6 [(3, .int v22), (0, .ref h0), (1, .int p1), (2, .int p2)] := hl
  refine lv_iconst (v := 0) hx hb dX12_builds_9 rfl ?_
  refine lv_istore hx hb dX12_builds_10 hl (by decide) rfl (fun ls hl => ?_)
  have hl : lv_has ls 6 [(4, .int 0), (3, .int v22), (0, .ref h0), (1, .int p1), (2, .int p2)] := hl
  have L12 : ∀ (n24 : Nat) (H24 : Heap) (locs24 : List Loc) (v23 : Int32) (z23 : Int) (ls : Array Slot), (a2 - z23).toNat < n24 → v23.toInt = z23 → 0 ≤ z23 → Conf X Γ H24 → va_S (AΓ Γ) H0 H24 locs24 → UH H24 ca → Kp X Γ [1, 6, 7, 8, 9, 10, 11, 12, 14, 17, 19, 22, 24] H0 H24 → lv_has ls 6 [(4, .int v23), (3, .int v22), (0, .ref h0), (1, .int p1), (2, .int p2)] → W p l e (rmL 1) s m args below meth c H24 locs24 0 0 Qz (F0 m 12 ls []) := by
    intro n24
    induction n24 with
    | zero => intro H24 locs24 v23 z23 ls hm24 ev23 iv24_0 hC24 hS24 hU24 hKp24 hl; exact absurd hm24 (Nat.not_lt_zero _)
    | succ n24 ih24 =>
      intro H24 locs24 v23 z23 ls hm24 ev23 iv24_0 hC24 hS24 hU24 hKp24 hl
      refine lv_iload hx hb dX12_builds_12 (lv_at hl 0 rfl) ?_
      refine lv_iload_n hx hb dX12_builds_14 rfl (lv_at hl 4 rfl) ?_
      have c25 := i_rng p2; rw [show p2.toInt = a2 from e2] at c25
      refine q_icmp_ge hx hb (a := z23) (b := a2) ev23 e2 (tgt := 199) dX12_builds_15 rfl (fun c26 => ?_) (fun c26 => ?_)
      · refine lv_iload hx hb dX12_builds_199 (lv_at hl 0 rfl) ?_
        refine q_if_le hx hb (a := z23) ev23 (tgt := 215) dX12_builds_201 rfl (fun c27 => ?_) (fun c27 => ?_)
        · refine lv_iload hx hb dX12_builds_215 (lv_at hl 0 rfl) ?_
          exact ret v23 H24 locs24 _ _ dX12_builds_217 ⟨⟨hKp24, hU24⟩, trivial⟩ hC24 hS24
        · refine lv_aload_n hx hb dX12_builds_204 rfl (lv_at hl 2 rfl) ?_
          refine q_getC E hC24 g0 fa_RX12_35 uc dX12_builds_205 ?_
          refine lv_sipush (v := 206) hx hb dX12_builds_208 rfl ?_
          refine lv_iload_n hx hb dX12_builds_211 rfl (lv_at hl 3 rfl) ?_
          refine lv_iadd hx hb dX12_builds_212 (lv_topi (fun v28 ev28 => ?_))
          have ev28i : v28.toInt = (206 + a1) := i_add ev28 (by decide) e1 (by omega) (by omega)
          refine lv_iconst (v := 0) hx hb dX12_builds_213 rfl ?_
          refine q_cast E hC24 hS24 gca (a := (206 + a1)) ev28i (by omega) (by omega) (cs_c134 (a := (206 + a1)) (by omega) (by omega)) dX12_builds_214 (fun H29 locs29 hC29 hS29 U29 => ?_)
          have hKp29 := Kp.upD gca rfl rfl (fun _ => ⟨fun _ => nd2 (by omega) (by omega), fun h => absurd h (by decide), fun _ => by unfold dpn; omega⟩) U29 hKp24
          have hU29 := UH.ne hU24 U29 (Or.inr (by omega))
          have e30 := up_I U29
          refine lv_iload hx hb dX12_builds_215 (lv_at hl 0 rfl) ?_
          exact ret v23 H29 locs29 _ _ dX12_builds_217 ⟨⟨hKp29, hU29⟩, trivial⟩ hC29 hS29
      · refine lv_aload_n hx hb dX12_builds_18 rfl (lv_at hl 2 rfl) ?_
        refine lv_iload_n hx hb dX12_builds_19 rfl (lv_at hl 1 rfl) ?_
        refine lv_iconst (v := 1) hx hb dX12_builds_20 rfl ?_
        refine q_goIp (q_runV (As := [.int v22, .int 1]) (rest := []) E hC24 hS24 (m_X12_isHand l X Γ H24 hC24 h0 g0 v22 (a1 := v22.toInt) rfl 1 (a2 := 1) (by decide) ca gca uc (by omega) (by omega)) cw_X12_isHand cl_RX12_326 g0 ⟨rfl, rfl⟩ rfl hl.1 rfl (Nat.zero_le _) (by decide) dX12_builds_21) hS24 (fun v31 locs31 hr31 hS31 => ?_)
        rcases hr31 with ⟨rfl, f31a0, f31a1⟩ | ⟨rfl, -⟩
        · refine q_if_eq hx hb (a := 1) (by decide) (tgt := 199) dX12_builds_24 rfl (fun c32 => absurd c32 (by omega)) (fun c32 => ?_)
          obtain ⟨v33, ev33⟩ : ∃ z, sI H24 ca ((12 + v22.toInt) : Int).toNat = z := ⟨_, rfl⟩
          have m34 : (sI H24 ca ((12 + v22.toInt) : Int).toNat).toInt = v33.toInt := congrArg Int32.toInt ev33
          obtain ⟨v35, ev35⟩ : ∃ z, sI H24 ca ((14 + v22.toInt) : Int).toNat = z := ⟨_, rfl⟩
          have m36 : (sI H24 ca ((14 + v22.toInt) : Int).toNat).toInt = v35.toInt := congrArg Int32.toInt ev35
          refine lv_aload_n hx hb dX12_builds_27 rfl (lv_at hl 2 rfl) ?_
          refine q_getC E hC24 g0 fa_RX12_35 uc dX12_builds_28 ?_
          refine lv_bipush (v := 26) hx hb dX12_builds_31 rfl ?_
          refine lv_iload_n hx hb dX12_builds_33 rfl (lv_at hl 3 rfl) ?_
          refine lv_iadd hx hb dX12_builds_34 (lv_topi (fun v37 ev37 => ?_))
          have ev37i : v37.toInt = (26 + a1) := i_add ev37 (by decide) e1 (by omega) (by omega)
          refine q_cald E hC24 (lo := 0) (hi := 99) gca (a := (26 + a1)) ev37i (by omega) (by omega) (cr_c26 (by omega) (by omega)) dX12_builds_35 (fun v38 ev38 lv38 uv38 => ?_)
          refine q_if_le hx hb (a := v38.toInt) rfl (tgt := 199) dX12_builds_36 rfl (fun c39 => ?_) (fun c39 => ?_)
          · refine lv_iload hx hb dX12_builds_199 (lv_at hl 0 rfl) ?_
            refine q_if_le hx hb (a := z23) ev23 (tgt := 215) dX12_builds_201 rfl (fun c40 => ?_) (fun c40 => ?_)
            · refine lv_iload hx hb dX12_builds_215 (lv_at hl 0 rfl) ?_
              exact ret v23 H24 locs31 _ _ dX12_builds_217 ⟨⟨hKp24, hU24⟩, trivial⟩ hC24 hS31
            · refine lv_aload_n hx hb dX12_builds_204 rfl (lv_at hl 2 rfl) ?_
              refine q_getC E hC24 g0 fa_RX12_35 uc dX12_builds_205 ?_
              refine lv_sipush (v := 206) hx hb dX12_builds_208 rfl ?_
              refine lv_iload_n hx hb dX12_builds_211 rfl (lv_at hl 3 rfl) ?_
              refine lv_iadd hx hb dX12_builds_212 (lv_topi (fun v41 ev41 => ?_))
              have ev41i : v41.toInt = (206 + a1) := i_add ev41 (by decide) e1 (by omega) (by omega)
              refine lv_iconst (v := 0) hx hb dX12_builds_213 rfl ?_
              refine q_cast E hC24 hS31 gca (a := (206 + a1)) ev41i (by omega) (by omega) (cs_c134 (a := (206 + a1)) (by omega) (by omega)) dX12_builds_214 (fun H42 locs42 hC42 hS42 U42 => ?_)
              have hKp42 := Kp.upD gca rfl rfl (fun _ => ⟨fun _ => nd2 (by omega) (by omega), fun h => absurd h (by decide), fun _ => by unfold dpn; omega⟩) U42 hKp24
              have hU42 := UH.ne hU24 U42 (Or.inr (by omega))
              have e43 := up_I U42
              refine lv_iload hx hb dX12_builds_215 (lv_at hl 0 rfl) ?_
              exact ret v23 H42 locs42 _ _ dX12_builds_217 ⟨⟨hKp42, hU42⟩, trivial⟩ hC42 hS42
          · refine lv_aload_n hx hb dX12_builds_39 rfl (lv_at hl 2 rfl) ?_
            refine q_getC E hC24 g0 fa_RX12_35 uc dX12_builds_40 ?_
            refine lv_bipush (v := 62) hx hb dX12_builds_43 rfl ?_
            refine lv_iload_n hx hb dX12_builds_45 rfl (lv_at hl 3 rfl) ?_
            refine lv_iadd hx hb dX12_builds_46 (lv_topi (fun v44 ev44 => ?_))
            have ev44i : v44.toInt = (62 + a1) := i_add ev44 (by decide) e1 (by omega) (by omega)
            refine q_cald E hC24 (lo := 0) (hi := 99) gca (a := (62 + a1)) ev44i (by omega) (by omega) (cr_c26 (by omega) (by omega)) dX12_builds_47 (fun v45 ev45 lv45 uv45 => ?_)
            refine lv_bipush (v := 99) hx hb dX12_builds_48 rfl ?_
            refine q_icmp_ge hx hb (a := v45.toInt) (b := 99) rfl (by decide) (tgt := 199) dX12_builds_50 rfl (fun c46 => ?_) (fun c46 => ?_)
            · refine lv_iload hx hb dX12_builds_199 (lv_at hl 0 rfl) ?_
              refine q_if_le hx hb (a := z23) ev23 (tgt := 215) dX12_builds_201 rfl (fun c47 => ?_) (fun c47 => ?_)
              · refine lv_iload hx hb dX12_builds_215 (lv_at hl 0 rfl) ?_
                exact ret v23 H24 locs31 _ _ dX12_builds_217 ⟨⟨hKp24, hU24⟩, trivial⟩ hC24 hS31
              · refine lv_aload_n hx hb dX12_builds_204 rfl (lv_at hl 2 rfl) ?_
                refine q_getC E hC24 g0 fa_RX12_35 uc dX12_builds_205 ?_
                refine lv_sipush (v := 206) hx hb dX12_builds_208 rfl ?_
                refine lv_iload_n hx hb dX12_builds_211 rfl (lv_at hl 3 rfl) ?_
                refine lv_iadd hx hb dX12_builds_212 (lv_topi (fun v48 ev48 => ?_))
                have ev48i : v48.toInt = (206 + a1) := i_add ev48 (by decide) e1 (by omega) (by omega)
                refine lv_iconst (v := 0) hx hb dX12_builds_213 rfl ?_
                refine q_cast E hC24 hS31 gca (a := (206 + a1)) ev48i (by omega) (by omega) (cs_c134 (a := (206 + a1)) (by omega) (by omega)) dX12_builds_214 (fun H49 locs49 hC49 hS49 U49 => ?_)
                have hKp49 := Kp.upD gca rfl rfl (fun _ => ⟨fun _ => nd2 (by omega) (by omega), fun h => absurd h (by decide), fun _ => by unfold dpn; omega⟩) U49 hKp24
                have hU49 := UH.ne hU24 U49 (Or.inr (by omega))
                have e50 := up_I U49
                refine lv_iload hx hb dX12_builds_215 (lv_at hl 0 rfl) ?_
                exact ret v23 H49 locs49 _ _ dX12_builds_217 ⟨⟨hKp49, hU49⟩, trivial⟩ hC49 hS49
            · refine lv_aload_n hx hb dX12_builds_53 rfl (lv_at hl 2 rfl) ?_
              refine q_getC E hC24 g0 fa_RX12_35 uc dX12_builds_54 ?_
              refine lv_bipush (v := 19) hx hb dX12_builds_57 rfl ?_
              refine q_cald E hC24 (lo := -2147483648) (hi := 2147483647) gca (a := 19) (show (19 : Int32).toInt = 19 from by decide) (by omega) (by omega) (cr_c16 (by omega) (by omega)) dX12_builds_59 (fun v51 ev51 _ _ => ?_)
              refine lv_iconst (v := 1) hx hb dX12_builds_60 rfl ?_
              refine q_icmp_ne hx hb (a := v51.toInt) (b := 1) rfl (by decide) (tgt := 87) dX12_builds_61 rfl (fun c52 => ?_) (fun c52 => ?_)
              · refine lv_iconst (v := 0) hx hb dX12_builds_87 rfl ?_
                refine lv_istore hx hb dX12_builds_88 hl (by decide) rfl (fun ls hl => ?_)
                have hl : lv_has ls 6 [(5, .int 0), (4, .int v23), (3, .int v22), (0, .ref h0), (1, .int p1), (2, .int p2)] := hl
                refine lv_aload_n hx hb dX12_builds_90 rfl (lv_at hl 3 rfl) ?_
                refine q_getC E hC24 g0 fa_RX12_35 uc dX12_builds_91 ?_
                refine lv_bipush (v := 26) hx hb dX12_builds_94 rfl ?_
                refine lv_iload_n hx hb dX12_builds_96 rfl (lv_at hl 4 rfl) ?_
                refine lv_iadd hx hb dX12_builds_97 (lv_topi (fun v53 ev53 => ?_))
                have ev53i : v53.toInt = (26 + a1) := i_add ev53 (by decide) e1 (by omega) (by omega)
                refine lv_dup2_11 hx hb dX12_builds_98 rfl rfl ?_
                refine q_cald E hC24 (lo := 0) (hi := 99) gca (a := (26 + a1)) ev53i (by omega) (by omega) (cr_c26 (by omega) (by omega)) dX12_builds_99 (fun v54 ev54 lv54 uv54 => ?_)
                have qv54 := ev38.symm.trans ev54; subst qv54
                refine lv_iconst (v := 1) hx hb dX12_builds_100 rfl ?_
                refine lv_isub hx hb dX12_builds_101 (lv_topi (fun v55 ev55 => ?_))
                have ev55i : v55.toInt = (v38.toInt - 1) := i_sub ev55 rfl (by decide) (by omega) (by omega)
                refine q_cast E hC24 hS31 gca (a := (26 + a1)) ev53i (by omega) (by omega) (cs_c26 (a := (26 + a1)) (b := (v38.toInt - 1)) (by omega) (by omega) ev55i (by omega) (by omega)) dX12_builds_102 (fun H56 locs56 hC56 hS56 U56 => ?_)
                have hKp56 := Kp.upD gca rfl rfl (fun _ => ⟨fun _ => nd2 (by omega) (by omega), fun h => absurd h (by decide), fun _ => by unfold dpn; omega⟩) U56 hKp24
                have hU56 := UH.ne hU24 U56 (Or.inr (by omega))
                have e57 := up_I U56
                refine lv_aload_n hx hb dX12_builds_103 rfl (lv_at hl 3 rfl) ?_
                refine q_getC E hC56 g0 fa_RX12_35 uc dX12_builds_104 ?_
                refine lv_bipush (v := 62) hx hb dX12_builds_107 rfl ?_
                refine lv_iload_n hx hb dX12_builds_109 rfl (lv_at hl 4 rfl) ?_
                refine lv_iadd hx hb dX12_builds_110 (lv_topi (fun v58 ev58 => ?_))
                have ev58i : v58.toInt = (62 + a1) := i_add ev58 (by decide) e1 (by omega) (by omega)
                refine lv_dup2_11 hx hb dX12_builds_111 rfl rfl ?_
                have e60 := (up_nI (a' := ca) (j' := ((62 + a1) : Int).toNat) U56 (fun h => by have h2 := h.2; omega)).trans ev45
                refine q_cald E hC56 (lo := 0) (hi := 99) gca (a := (62 + a1)) ev58i (by omega) (by omega) (cr_c26 (by omega) (by omega)) dX12_builds_112 (fun v59 ev59 lv59 uv59 => ?_)
                have qv59 := e60.symm.trans ev59; subst qv59
                refine lv_iconst (v := 1) hx hb dX12_builds_113 rfl ?_
                refine lv_iadd hx hb dX12_builds_114 (lv_topi (fun v61 ev61 => ?_))
                have ev61i : v61.toInt = (v45.toInt + 1) := i_add ev61 rfl (by decide) (by omega) (by omega)
                refine q_cast E hC56 hS56 gca (a := (62 + a1)) ev58i (by omega) (by omega) (cs_c26 (a := (62 + a1)) (b := (v45.toInt + 1)) (by omega) (by omega) ev61i (by omega) (by omega)) dX12_builds_115 (fun H62 locs62 hC62 hS62 U62 => ?_)
                have hKp62 := Kp.upD gca rfl rfl (fun _ => ⟨fun _ => nd2 (by omega) (by omega), fun h => absurd h (by decide), fun _ => by unfold dpn; omega⟩) U62 hKp56
                have hU62 := UH.ne hU56 U62 (Or.inr (by omega))
                have e63 := up_I U62
                refine lv_aload_n hx hb dX12_builds_116 rfl (lv_at hl 3 rfl) ?_
                refine q_getC E hC62 g0 fa_RX12_35 uc dX12_builds_117 ?_
                refine lv_bipush (v := 14) hx hb dX12_builds_120 rfl ?_
                refine lv_iload_n hx hb dX12_builds_122 rfl (lv_at hl 2 rfl) ?_
                refine lv_iadd hx hb dX12_builds_123 (lv_topi (fun v64 ev64 => ?_))
                have ev64i : v64.toInt = (14 + v22.toInt) := i_add ev64 (by decide) rfl (by omega) (by omega)
                refine lv_dup2_11 hx hb dX12_builds_124 rfl rfl ?_
                have e66 := (up_nI (a' := ca) (j' := ((14 + v22.toInt) : Int).toNat) U56 (fun h => by have h2 := h.2; omega)).trans ev35
                have e67 := (up_nI (a' := ca) (j' := ((14 + v22.toInt) : Int).toNat) U62 (fun h => by have h2 := h.2; omega)).trans e66
                refine q_cald E hC62 (lo := 0) (hi := 40) gca (a := (14 + v22.toInt)) ev64i (by omega) (by omega) (cr_c12 (by omega) (by omega)) dX12_builds_125 (fun v65 ev65 lv65 uv65 => ?_)
                have qv65 := e67.symm.trans ev65; subst qv65
                refine lv_iconst (v := 1) hx hb dX12_builds_126 rfl ?_
                refine lv_iadd hx hb dX12_builds_127 (lv_topi (fun v68 ev68 => ?_))
                have ev68i : v68.toInt = (v35.toInt + 1) := i_add ev68 rfl (by decide) (by omega) (by omega)
                refine q_cast E hC62 hS62 gca (a := (14 + v22.toInt)) ev64i (by omega) (by omega) (cs_c12 (a := (14 + v22.toInt)) (b := (v35.toInt + 1)) (by omega) (by omega) ev68i (by omega) (by omega)) dX12_builds_128 (fun H69 locs69 hC69 hS69 U69 => ?_)
                have hKp69 := Kp.upD gca rfl rfl (fun _ => ⟨fun _ => nd3 (by omega) (by omega), fun h => absurd h (by decide), fun _ => by unfold dpn; omega⟩) U69 hKp62
                have e70 := (up_nI (a' := ca) (j' := ((12 + v22.toInt) : Int).toNat) U56 (fun h => by have h2 := h.2; omega)).trans ev33
                have e71 := (up_nI (a' := ca) (j' := ((12 + v22.toInt) : Int).toNat) U62 (fun h => by have h2 := h.2; omega)).trans e70
                have m72 : (sI H62 ca ((12 + v22.toInt)).toNat).toInt = v33.toInt := congrArg Int32.toInt e71
                have hU69 := UH.at hU62 (t := v22.toInt) (by omega) (by omega) (by omega) U69 (b := (v35.toInt + 1)) ev68i (by omega)
                have e73 := up_I U69
                obtain ⟨v74, ev74⟩ : ∃ z, z = v23 + Int32.ofInt 1 := ⟨_, rfl⟩
                have ev74i : v74.toInt = (z23 + 1) := i_add ev74 ev23 (by decide) (by omega) (by omega)
                refine lv_iinc hx hb dX12_builds_129 hl (k := 1) rfl ev74.symm (by decide) rfl (fun ls hl => ?_)
                have hl : lv_has ls 6 [(4, .int v74), (5, .int 0), (3, .int v22), (0, .ref h0), (1, .int p1), (2, .int p2)] := hl
                refine lv_aload_n hx hb dX12_builds_132 rfl (lv_at hl 3 rfl) ?_
                refine q_getC E hC69 g0 fa_RX12_35 uc dX12_builds_133 ?_
                refine lv_bipush (v := 18) hx hb dX12_builds_136 rfl ?_
                refine q_cald E hC69 (lo := -2147483648) (hi := 2147483647) gca (a := 18) (show (18 : Int32).toInt = 18 from by decide) (by omega) (by omega) (cr_c16 (by omega) (by omega)) dX12_builds_138 (fun v75 ev75 _ _ => ?_)
                refine lv_iconst (v := 1) hx hb dX12_builds_139 rfl ?_
                refine q_icmp_ne hx hb (a := v75.toInt) (b := 1) rfl (by decide) (tgt := 184) dX12_builds_140 rfl (fun c76 => ?_) (fun c76 => ?_)
                · refine lv_iload hx hb dX12_builds_184 (lv_at hl 1 rfl) ?_
                  refine q_if_eq hx hb (a := 0) (by decide) (tgt := 196) dX12_builds_186 rfl (fun c77 => ?_) (fun c77 => absurd c77 (by omega))
                  refine lv_goto (tgt := 12) hx hb dX12_builds_196 rfl ?_
                  exact ih24 H69 locs69 v74 ((z23 + 1)) ls (by omega) ev74i (by omega) hC69 hS69 hU69 hKp69 (lv_sub hl [0, 2, 3, 4, 5] rfl)
                · refine lv_aload_n hx hb dX12_builds_143 rfl (lv_at hl 3 rfl) ?_
                  refine q_getC E hC69 g0 fa_RX12_35 uc dX12_builds_144 ?_
                  refine lv_bipush (v := 62) hx hb dX12_builds_147 rfl ?_
                  refine lv_iload_n hx hb dX12_builds_149 rfl (lv_at hl 4 rfl) ?_
                  refine lv_iadd hx hb dX12_builds_150 (lv_topi (fun v78 ev78 => ?_))
                  have ev78i : v78.toInt = (62 + a1) := i_add ev78 (by decide) e1 (by omega) (by omega)
                  have e80 := (up_nI (a' := ca) (j' := ((62 + a1) : Int).toNat) U69 (fun h => by have h2 := h.2; omega)).trans e63
                  refine q_cald E hC69 (lo := 0) (hi := 99) gca (a := (62 + a1)) ev78i (by omega) (by omega) (cr_c26 (by omega) (by omega)) dX12_builds_151 (fun v79 ev79 lv79 uv79 => ?_)
                  have qv79 := e80.symm.trans ev79; subst qv79
                  refine lv_aload_n hx hb dX12_builds_152 rfl (lv_at hl 3 rfl) ?_
                  refine q_getC E hC69 g0 fa_RX12_35 uc dX12_builds_153 ?_
                  refine lv_sipush (v := 134) hx hb dX12_builds_156 rfl ?_
                  refine lv_aload_n hx hb dX12_builds_159 rfl (lv_at hl 3 rfl) ?_
                  refine lv_iload_n hx hb dX12_builds_160 rfl (lv_at hl 4 rfl) ?_
                  refine q_goIp (q_runV (As := [.int p1]) (rest := [.int 134, .ref ca, .int v61]) E hC69 hS69 (m_X12_acrossOf l X Γ H69 hC69 h0 g0 p1 (a1 := a1) e1 ca gca uc (by omega) (by omega)) cw_X12_acrossOf cl_RX12_329 g0 ⟨rfl, rfl⟩ rfl hl.1 rfl (show _ ≤ _ from by simp [Value.category]) (by decide) dX12_builds_161) hS69 (fun v81 locs81 hr81 hS81 => ?_)
                  obtain ⟨f81_0, f81_1, f81_2⟩ := hr81
                  refine lv_iadd hx hb dX12_builds_164 (lv_topi (fun v82 ev82 => ?_))
                  have ev82i : v82.toInt = (134 + v81.toInt) := i_add ev82 (by decide) rfl (by omega) (by omega)
                  refine q_cald E hC69 (lo := -2147483648) (hi := 2147483647) gca (a := (134 + v81.toInt)) ev82i (by omega) (by omega) (fun _ h => cT_any h) dX12_builds_165 (fun v83 ev83 _ _ => ?_)
                  refine lv_aload_n hx hb dX12_builds_166 rfl (lv_at hl 3 rfl) ?_
                  refine q_getC E hC69 g0 fa_RX12_35 uc dX12_builds_167 ?_
                  refine lv_bipush (v := 22) hx hb dX12_builds_170 rfl ?_
                  refine q_cald E hC69 (lo := -2147483648) (hi := 2147483647) gca (a := 22) (show (22 : Int32).toInt = 22 from by decide) (by omega) (by omega) (cr_c16 (by omega) (by omega)) dX12_builds_172 (fun v84 ev84 _ _ => ?_)
                  refine lv_iadd hx hb dX12_builds_173 (lv_topi (fun v85 ev85 => ?_))
                  have c86 := i_rng v85; rw [show v85.toInt = v85.toInt from rfl] at c86
                  refine q_icmp_le hx hb (a := (v45.toInt + 1)) (b := v85.toInt) ev61i rfl (tgt := 184) dX12_builds_174 rfl (fun c87 => ?_) (fun c87 => ?_)
                  · refine lv_iload hx hb dX12_builds_184 (lv_at hl 1 rfl) ?_
                    refine q_if_eq hx hb (a := 0) (by decide) (tgt := 196) dX12_builds_186 rfl (fun c88 => ?_) (fun c88 => absurd c88 (by omega))
                    refine lv_goto (tgt := 12) hx hb dX12_builds_196 rfl ?_
                    exact ih24 H69 locs81 v74 ((z23 + 1)) ls (by omega) ev74i (by omega) hC69 hS81 hU69 hKp69 (lv_sub hl [0, 2, 3, 4, 5] rfl)
                  · refine lv_aload_n hx hb dX12_builds_177 rfl (lv_at hl 3 rfl) ?_
                    refine lv_iload_n hx hb dX12_builds_178 rfl (lv_at hl 2 rfl) ?_
                    refine lv_iconst (v := 0) hx hb dX12_builds_179 rfl ?_
                    refine lv_iload_n hx hb dX12_builds_180 rfl (lv_at hl 4 rfl) ?_
                    refine q_goV (q_runV (As := [.int v22, .int 0, .int p1]) (rest := []) E hC69 hS81 (m_X12_breaks l X Γ H69 hC69 h0 g0 v22 (a1 := v22.toInt) rfl 0 (a2 := 0) (by decide) p1 (a3 := a1) e1 ca gca uc (by omega) (by omega)) cw_X12_breaks cl_RX12_332 g0 ⟨rfl, rfl⟩ rfl hl.1 rfl (Nat.zero_le _) (by decide) dX12_builds_181) hS81 (fun H89 locs89 hr89 hC89 hS89 => ?_)
                    have hU89 := UH.kp hU69 hr89 gca rfl rfl
                    have hKp89 := hKp69.tr (hr89.mono rfl)
                    refine lv_iload hx hb dX12_builds_184 (lv_at hl 1 rfl) ?_
                    refine q_if_eq hx hb (a := 0) (by decide) (tgt := 196) dX12_builds_186 rfl (fun c90 => ?_) (fun c90 => absurd c90 (by omega))
                    refine lv_goto (tgt := 12) hx hb dX12_builds_196 rfl ?_
                    exact ih24 H89 locs89 v74 ((z23 + 1)) ls (by omega) ev74i (by omega) hC89 hS89 hU89 hKp89 (lv_sub hl [0, 2, 3, 4, 5] rfl)
              · refine lv_aload_n hx hb dX12_builds_64 rfl (lv_at hl 2 rfl) ?_
                refine q_getC E hC24 g0 fa_RX12_35 uc dX12_builds_65 ?_
                refine lv_bipush (v := 14) hx hb dX12_builds_68 rfl ?_
                refine lv_iload_n hx hb dX12_builds_70 rfl (lv_at hl 1 rfl) ?_
                refine lv_iadd hx hb dX12_builds_71 (lv_topi (fun v91 ev91 => ?_))
                have ev91i : v91.toInt = (14 + v22.toInt) := i_add ev91 (by decide) rfl (by omega) (by omega)
                refine q_cald E hC24 (lo := 0) (hi := 40) gca (a := (14 + v22.toInt)) ev91i (by omega) (by omega) (cr_c12 (by omega) (by omega)) dX12_builds_72 (fun v92 ev92 lv92 uv92 => ?_)
                have qv92 := ev35.symm.trans ev92; subst qv92
                refine lv_aload_n hx hb dX12_builds_73 rfl (lv_at hl 2 rfl) ?_
                refine q_getC E hC24 g0 fa_RX12_35 uc dX12_builds_74 ?_
                refine lv_bipush (v := 23) hx hb dX12_builds_77 rfl ?_
                refine q_cald E hC24 (lo := -2147483648) (hi := 2147483647) gca (a := 23) (show (23 : Int32).toInt = 23 from by decide) (by omega) (by omega) (cr_c16 (by omega) (by omega)) dX12_builds_79 (fun v93 ev93 _ _ => ?_)
                have c94 := i_rng v93; rw [show v93.toInt = v93.toInt from rfl] at c94
                refine q_icmp_lt hx hb (a := v35.toInt) (b := v93.toInt) rfl rfl (tgt := 87) dX12_builds_80 rfl (fun c95 => ?_) (fun c95 => ?_)
                · refine lv_iconst (v := 0) hx hb dX12_builds_87 rfl ?_
                  refine lv_istore hx hb dX12_builds_88 hl (by decide) rfl (fun ls hl => ?_)
                  have hl : lv_has ls 6 [(5, .int 0), (4, .int v23), (3, .int v22), (0, .ref h0), (1, .int p1), (2, .int p2)] := hl
                  refine lv_aload_n hx hb dX12_builds_90 rfl (lv_at hl 3 rfl) ?_
                  refine q_getC E hC24 g0 fa_RX12_35 uc dX12_builds_91 ?_
                  refine lv_bipush (v := 26) hx hb dX12_builds_94 rfl ?_
                  refine lv_iload_n hx hb dX12_builds_96 rfl (lv_at hl 4 rfl) ?_
                  refine lv_iadd hx hb dX12_builds_97 (lv_topi (fun v96 ev96 => ?_))
                  have ev96i : v96.toInt = (26 + a1) := i_add ev96 (by decide) e1 (by omega) (by omega)
                  refine lv_dup2_11 hx hb dX12_builds_98 rfl rfl ?_
                  refine q_cald E hC24 (lo := 0) (hi := 99) gca (a := (26 + a1)) ev96i (by omega) (by omega) (cr_c26 (by omega) (by omega)) dX12_builds_99 (fun v97 ev97 lv97 uv97 => ?_)
                  have qv97 := ev38.symm.trans ev97; subst qv97
                  refine lv_iconst (v := 1) hx hb dX12_builds_100 rfl ?_
                  refine lv_isub hx hb dX12_builds_101 (lv_topi (fun v98 ev98 => ?_))
                  have ev98i : v98.toInt = (v38.toInt - 1) := i_sub ev98 rfl (by decide) (by omega) (by omega)
                  refine q_cast E hC24 hS31 gca (a := (26 + a1)) ev96i (by omega) (by omega) (cs_c26 (a := (26 + a1)) (b := (v38.toInt - 1)) (by omega) (by omega) ev98i (by omega) (by omega)) dX12_builds_102 (fun H99 locs99 hC99 hS99 U99 => ?_)
                  have hKp99 := Kp.upD gca rfl rfl (fun _ => ⟨fun _ => nd2 (by omega) (by omega), fun h => absurd h (by decide), fun _ => by unfold dpn; omega⟩) U99 hKp24
                  have hU99 := UH.ne hU24 U99 (Or.inr (by omega))
                  have e100 := up_I U99
                  refine lv_aload_n hx hb dX12_builds_103 rfl (lv_at hl 3 rfl) ?_
                  refine q_getC E hC99 g0 fa_RX12_35 uc dX12_builds_104 ?_
                  refine lv_bipush (v := 62) hx hb dX12_builds_107 rfl ?_
                  refine lv_iload_n hx hb dX12_builds_109 rfl (lv_at hl 4 rfl) ?_
                  refine lv_iadd hx hb dX12_builds_110 (lv_topi (fun v101 ev101 => ?_))
                  have ev101i : v101.toInt = (62 + a1) := i_add ev101 (by decide) e1 (by omega) (by omega)
                  refine lv_dup2_11 hx hb dX12_builds_111 rfl rfl ?_
                  have e103 := (up_nI (a' := ca) (j' := ((62 + a1) : Int).toNat) U99 (fun h => by have h2 := h.2; omega)).trans ev45
                  refine q_cald E hC99 (lo := 0) (hi := 99) gca (a := (62 + a1)) ev101i (by omega) (by omega) (cr_c26 (by omega) (by omega)) dX12_builds_112 (fun v102 ev102 lv102 uv102 => ?_)
                  have qv102 := e103.symm.trans ev102; subst qv102
                  refine lv_iconst (v := 1) hx hb dX12_builds_113 rfl ?_
                  refine lv_iadd hx hb dX12_builds_114 (lv_topi (fun v104 ev104 => ?_))
                  have ev104i : v104.toInt = (v45.toInt + 1) := i_add ev104 rfl (by decide) (by omega) (by omega)
                  refine q_cast E hC99 hS99 gca (a := (62 + a1)) ev101i (by omega) (by omega) (cs_c26 (a := (62 + a1)) (b := (v45.toInt + 1)) (by omega) (by omega) ev104i (by omega) (by omega)) dX12_builds_115 (fun H105 locs105 hC105 hS105 U105 => ?_)
                  have hKp105 := Kp.upD gca rfl rfl (fun _ => ⟨fun _ => nd2 (by omega) (by omega), fun h => absurd h (by decide), fun _ => by unfold dpn; omega⟩) U105 hKp99
                  have hU105 := UH.ne hU99 U105 (Or.inr (by omega))
                  have e106 := up_I U105
                  refine lv_aload_n hx hb dX12_builds_116 rfl (lv_at hl 3 rfl) ?_
                  refine q_getC E hC105 g0 fa_RX12_35 uc dX12_builds_117 ?_
                  refine lv_bipush (v := 14) hx hb dX12_builds_120 rfl ?_
                  refine lv_iload_n hx hb dX12_builds_122 rfl (lv_at hl 2 rfl) ?_
                  refine lv_iadd hx hb dX12_builds_123 (lv_topi (fun v107 ev107 => ?_))
                  have ev107i : v107.toInt = (14 + v22.toInt) := i_add ev107 (by decide) rfl (by omega) (by omega)
                  refine lv_dup2_11 hx hb dX12_builds_124 rfl rfl ?_
                  have e109 := (up_nI (a' := ca) (j' := ((14 + v22.toInt) : Int).toNat) U99 (fun h => by have h2 := h.2; omega)).trans ev35
                  have e110 := (up_nI (a' := ca) (j' := ((14 + v22.toInt) : Int).toNat) U105 (fun h => by have h2 := h.2; omega)).trans e109
                  refine q_cald E hC105 (lo := 0) (hi := 40) gca (a := (14 + v22.toInt)) ev107i (by omega) (by omega) (cr_c12 (by omega) (by omega)) dX12_builds_125 (fun v108 ev108 lv108 uv108 => ?_)
                  have qv108 := e110.symm.trans ev108; subst qv108
                  refine lv_iconst (v := 1) hx hb dX12_builds_126 rfl ?_
                  refine lv_iadd hx hb dX12_builds_127 (lv_topi (fun v111 ev111 => ?_))
                  have ev111i : v111.toInt = (v35.toInt + 1) := i_add ev111 rfl (by decide) (by omega) (by omega)
                  refine q_cast E hC105 hS105 gca (a := (14 + v22.toInt)) ev107i (by omega) (by omega) (cs_c12 (a := (14 + v22.toInt)) (b := (v35.toInt + 1)) (by omega) (by omega) ev111i (by omega) (by omega)) dX12_builds_128 (fun H112 locs112 hC112 hS112 U112 => ?_)
                  have hKp112 := Kp.upD gca rfl rfl (fun _ => ⟨fun _ => nd3 (by omega) (by omega), fun h => absurd h (by decide), fun _ => by unfold dpn; omega⟩) U112 hKp105
                  have e113 := (up_nI (a' := ca) (j' := ((12 + v22.toInt) : Int).toNat) U99 (fun h => by have h2 := h.2; omega)).trans ev33
                  have e114 := (up_nI (a' := ca) (j' := ((12 + v22.toInt) : Int).toNat) U105 (fun h => by have h2 := h.2; omega)).trans e113
                  have m115 : (sI H105 ca ((12 + v22.toInt)).toNat).toInt = v33.toInt := congrArg Int32.toInt e114
                  have hU112 := UH.at hU105 (t := v22.toInt) (by omega) (by omega) (by omega) U112 (b := (v35.toInt + 1)) ev111i (by omega)
                  have e116 := up_I U112
                  obtain ⟨v117, ev117⟩ : ∃ z, z = v23 + Int32.ofInt 1 := ⟨_, rfl⟩
                  have ev117i : v117.toInt = (z23 + 1) := i_add ev117 ev23 (by decide) (by omega) (by omega)
                  refine lv_iinc hx hb dX12_builds_129 hl (k := 1) rfl ev117.symm (by decide) rfl (fun ls hl => ?_)
                  have hl : lv_has ls 6 [(4, .int v117), (5, .int 0), (3, .int v22), (0, .ref h0), (1, .int p1), (2, .int p2)] := hl
                  refine lv_aload_n hx hb dX12_builds_132 rfl (lv_at hl 3 rfl) ?_
                  refine q_getC E hC112 g0 fa_RX12_35 uc dX12_builds_133 ?_
                  refine lv_bipush (v := 18) hx hb dX12_builds_136 rfl ?_
                  refine q_cald E hC112 (lo := -2147483648) (hi := 2147483647) gca (a := 18) (show (18 : Int32).toInt = 18 from by decide) (by omega) (by omega) (cr_c16 (by omega) (by omega)) dX12_builds_138 (fun v118 ev118 _ _ => ?_)
                  refine lv_iconst (v := 1) hx hb dX12_builds_139 rfl ?_
                  refine q_icmp_ne hx hb (a := v118.toInt) (b := 1) rfl (by decide) (tgt := 184) dX12_builds_140 rfl (fun c119 => ?_) (fun c119 => ?_)
                  · refine lv_iload hx hb dX12_builds_184 (lv_at hl 1 rfl) ?_
                    refine q_if_eq hx hb (a := 0) (by decide) (tgt := 196) dX12_builds_186 rfl (fun c120 => ?_) (fun c120 => absurd c120 (by omega))
                    refine lv_goto (tgt := 12) hx hb dX12_builds_196 rfl ?_
                    exact ih24 H112 locs112 v117 ((z23 + 1)) ls (by omega) ev117i (by omega) hC112 hS112 hU112 hKp112 (lv_sub hl [0, 2, 3, 4, 5] rfl)
                  · refine lv_aload_n hx hb dX12_builds_143 rfl (lv_at hl 3 rfl) ?_
                    refine q_getC E hC112 g0 fa_RX12_35 uc dX12_builds_144 ?_
                    refine lv_bipush (v := 62) hx hb dX12_builds_147 rfl ?_
                    refine lv_iload_n hx hb dX12_builds_149 rfl (lv_at hl 4 rfl) ?_
                    refine lv_iadd hx hb dX12_builds_150 (lv_topi (fun v121 ev121 => ?_))
                    have ev121i : v121.toInt = (62 + a1) := i_add ev121 (by decide) e1 (by omega) (by omega)
                    have e123 := (up_nI (a' := ca) (j' := ((62 + a1) : Int).toNat) U112 (fun h => by have h2 := h.2; omega)).trans e106
                    refine q_cald E hC112 (lo := 0) (hi := 99) gca (a := (62 + a1)) ev121i (by omega) (by omega) (cr_c26 (by omega) (by omega)) dX12_builds_151 (fun v122 ev122 lv122 uv122 => ?_)
                    have qv122 := e123.symm.trans ev122; subst qv122
                    refine lv_aload_n hx hb dX12_builds_152 rfl (lv_at hl 3 rfl) ?_
                    refine q_getC E hC112 g0 fa_RX12_35 uc dX12_builds_153 ?_
                    refine lv_sipush (v := 134) hx hb dX12_builds_156 rfl ?_
                    refine lv_aload_n hx hb dX12_builds_159 rfl (lv_at hl 3 rfl) ?_
                    refine lv_iload_n hx hb dX12_builds_160 rfl (lv_at hl 4 rfl) ?_
                    refine q_goIp (q_runV (As := [.int p1]) (rest := [.int 134, .ref ca, .int v104]) E hC112 hS112 (m_X12_acrossOf l X Γ H112 hC112 h0 g0 p1 (a1 := a1) e1 ca gca uc (by omega) (by omega)) cw_X12_acrossOf cl_RX12_329 g0 ⟨rfl, rfl⟩ rfl hl.1 rfl (show _ ≤ _ from by simp [Value.category]) (by decide) dX12_builds_161) hS112 (fun v124 locs124 hr124 hS124 => ?_)
                    obtain ⟨f124_0, f124_1, f124_2⟩ := hr124
                    refine lv_iadd hx hb dX12_builds_164 (lv_topi (fun v125 ev125 => ?_))
                    have ev125i : v125.toInt = (134 + v124.toInt) := i_add ev125 (by decide) rfl (by omega) (by omega)
                    refine q_cald E hC112 (lo := -2147483648) (hi := 2147483647) gca (a := (134 + v124.toInt)) ev125i (by omega) (by omega) (fun _ h => cT_any h) dX12_builds_165 (fun v126 ev126 _ _ => ?_)
                    refine lv_aload_n hx hb dX12_builds_166 rfl (lv_at hl 3 rfl) ?_
                    refine q_getC E hC112 g0 fa_RX12_35 uc dX12_builds_167 ?_
                    refine lv_bipush (v := 22) hx hb dX12_builds_170 rfl ?_
                    refine q_cald E hC112 (lo := -2147483648) (hi := 2147483647) gca (a := 22) (show (22 : Int32).toInt = 22 from by decide) (by omega) (by omega) (cr_c16 (by omega) (by omega)) dX12_builds_172 (fun v127 ev127 _ _ => ?_)
                    refine lv_iadd hx hb dX12_builds_173 (lv_topi (fun v128 ev128 => ?_))
                    have c129 := i_rng v128; rw [show v128.toInt = v128.toInt from rfl] at c129
                    refine q_icmp_le hx hb (a := (v45.toInt + 1)) (b := v128.toInt) ev104i rfl (tgt := 184) dX12_builds_174 rfl (fun c130 => ?_) (fun c130 => ?_)
                    · refine lv_iload hx hb dX12_builds_184 (lv_at hl 1 rfl) ?_
                      refine q_if_eq hx hb (a := 0) (by decide) (tgt := 196) dX12_builds_186 rfl (fun c131 => ?_) (fun c131 => absurd c131 (by omega))
                      refine lv_goto (tgt := 12) hx hb dX12_builds_196 rfl ?_
                      exact ih24 H112 locs124 v117 ((z23 + 1)) ls (by omega) ev117i (by omega) hC112 hS124 hU112 hKp112 (lv_sub hl [0, 2, 3, 4, 5] rfl)
                    · refine lv_aload_n hx hb dX12_builds_177 rfl (lv_at hl 3 rfl) ?_
                      refine lv_iload_n hx hb dX12_builds_178 rfl (lv_at hl 2 rfl) ?_
                      refine lv_iconst (v := 0) hx hb dX12_builds_179 rfl ?_
                      refine lv_iload_n hx hb dX12_builds_180 rfl (lv_at hl 4 rfl) ?_
                      refine q_goV (q_runV (As := [.int v22, .int 0, .int p1]) (rest := []) E hC112 hS124 (m_X12_breaks l X Γ H112 hC112 h0 g0 v22 (a1 := v22.toInt) rfl 0 (a2 := 0) (by decide) p1 (a3 := a1) e1 ca gca uc (by omega) (by omega)) cw_X12_breaks cl_RX12_332 g0 ⟨rfl, rfl⟩ rfl hl.1 rfl (Nat.zero_le _) (by decide) dX12_builds_181) hS124 (fun H132 locs132 hr132 hC132 hS132 => ?_)
                      have hU132 := UH.kp hU112 hr132 gca rfl rfl
                      have hKp132 := hKp112.tr (hr132.mono rfl)
                      refine lv_iload hx hb dX12_builds_184 (lv_at hl 1 rfl) ?_
                      refine q_if_eq hx hb (a := 0) (by decide) (tgt := 196) dX12_builds_186 rfl (fun c133 => ?_) (fun c133 => absurd c133 (by omega))
                      refine lv_goto (tgt := 12) hx hb dX12_builds_196 rfl ?_
                      exact ih24 H132 locs132 v117 ((z23 + 1)) ls (by omega) ev117i (by omega) hC132 hS132 hU132 hKp132 (lv_sub hl [0, 2, 3, 4, 5] rfl)
                · refine lv_iconst (v := 1) hx hb dX12_builds_83 rfl ?_
                  refine lv_goto (tgt := 88) hx hb dX12_builds_84 rfl ?_
                  refine lv_istore hx hb dX12_builds_88 hl (by decide) rfl (fun ls hl => ?_)
                  have hl : lv_has ls 6 [(5, .int 1), (4, .int v23), (3, .int v22), (0, .ref h0), (1, .int p1), (2, .int p2)] := hl
                  refine lv_aload_n hx hb dX12_builds_90 rfl (lv_at hl 3 rfl) ?_
                  refine q_getC E hC24 g0 fa_RX12_35 uc dX12_builds_91 ?_
                  refine lv_bipush (v := 26) hx hb dX12_builds_94 rfl ?_
                  refine lv_iload_n hx hb dX12_builds_96 rfl (lv_at hl 4 rfl) ?_
                  refine lv_iadd hx hb dX12_builds_97 (lv_topi (fun v134 ev134 => ?_))
                  have ev134i : v134.toInt = (26 + a1) := i_add ev134 (by decide) e1 (by omega) (by omega)
                  refine lv_dup2_11 hx hb dX12_builds_98 rfl rfl ?_
                  refine q_cald E hC24 (lo := 0) (hi := 99) gca (a := (26 + a1)) ev134i (by omega) (by omega) (cr_c26 (by omega) (by omega)) dX12_builds_99 (fun v135 ev135 lv135 uv135 => ?_)
                  have qv135 := ev38.symm.trans ev135; subst qv135
                  refine lv_iconst (v := 1) hx hb dX12_builds_100 rfl ?_
                  refine lv_isub hx hb dX12_builds_101 (lv_topi (fun v136 ev136 => ?_))
                  have ev136i : v136.toInt = (v38.toInt - 1) := i_sub ev136 rfl (by decide) (by omega) (by omega)
                  refine q_cast E hC24 hS31 gca (a := (26 + a1)) ev134i (by omega) (by omega) (cs_c26 (a := (26 + a1)) (b := (v38.toInt - 1)) (by omega) (by omega) ev136i (by omega) (by omega)) dX12_builds_102 (fun H137 locs137 hC137 hS137 U137 => ?_)
                  have hKp137 := Kp.upD gca rfl rfl (fun _ => ⟨fun _ => nd2 (by omega) (by omega), fun h => absurd h (by decide), fun _ => by unfold dpn; omega⟩) U137 hKp24
                  have hU137 := UH.ne hU24 U137 (Or.inr (by omega))
                  have e138 := up_I U137
                  refine lv_aload_n hx hb dX12_builds_103 rfl (lv_at hl 3 rfl) ?_
                  refine q_getC E hC137 g0 fa_RX12_35 uc dX12_builds_104 ?_
                  refine lv_bipush (v := 62) hx hb dX12_builds_107 rfl ?_
                  refine lv_iload_n hx hb dX12_builds_109 rfl (lv_at hl 4 rfl) ?_
                  refine lv_iadd hx hb dX12_builds_110 (lv_topi (fun v139 ev139 => ?_))
                  have ev139i : v139.toInt = (62 + a1) := i_add ev139 (by decide) e1 (by omega) (by omega)
                  refine lv_dup2_11 hx hb dX12_builds_111 rfl rfl ?_
                  have e141 := (up_nI (a' := ca) (j' := ((62 + a1) : Int).toNat) U137 (fun h => by have h2 := h.2; omega)).trans ev45
                  refine q_cald E hC137 (lo := 0) (hi := 99) gca (a := (62 + a1)) ev139i (by omega) (by omega) (cr_c26 (by omega) (by omega)) dX12_builds_112 (fun v140 ev140 lv140 uv140 => ?_)
                  have qv140 := e141.symm.trans ev140; subst qv140
                  refine lv_iconst (v := 1) hx hb dX12_builds_113 rfl ?_
                  refine lv_iadd hx hb dX12_builds_114 (lv_topi (fun v142 ev142 => ?_))
                  have ev142i : v142.toInt = (v45.toInt + 1) := i_add ev142 rfl (by decide) (by omega) (by omega)
                  refine q_cast E hC137 hS137 gca (a := (62 + a1)) ev139i (by omega) (by omega) (cs_c26 (a := (62 + a1)) (b := (v45.toInt + 1)) (by omega) (by omega) ev142i (by omega) (by omega)) dX12_builds_115 (fun H143 locs143 hC143 hS143 U143 => ?_)
                  have hKp143 := Kp.upD gca rfl rfl (fun _ => ⟨fun _ => nd2 (by omega) (by omega), fun h => absurd h (by decide), fun _ => by unfold dpn; omega⟩) U143 hKp137
                  have hU143 := UH.ne hU137 U143 (Or.inr (by omega))
                  have e144 := up_I U143
                  refine lv_aload_n hx hb dX12_builds_116 rfl (lv_at hl 3 rfl) ?_
                  refine q_getC E hC143 g0 fa_RX12_35 uc dX12_builds_117 ?_
                  refine lv_bipush (v := 14) hx hb dX12_builds_120 rfl ?_
                  refine lv_iload_n hx hb dX12_builds_122 rfl (lv_at hl 2 rfl) ?_
                  refine lv_iadd hx hb dX12_builds_123 (lv_topi (fun v145 ev145 => ?_))
                  have ev145i : v145.toInt = (14 + v22.toInt) := i_add ev145 (by decide) rfl (by omega) (by omega)
                  refine lv_dup2_11 hx hb dX12_builds_124 rfl rfl ?_
                  have e147 := (up_nI (a' := ca) (j' := ((14 + v22.toInt) : Int).toNat) U137 (fun h => by have h2 := h.2; omega)).trans ev35
                  have e148 := (up_nI (a' := ca) (j' := ((14 + v22.toInt) : Int).toNat) U143 (fun h => by have h2 := h.2; omega)).trans e147
                  refine q_cald E hC143 (lo := 0) (hi := 40) gca (a := (14 + v22.toInt)) ev145i (by omega) (by omega) (cr_c12 (by omega) (by omega)) dX12_builds_125 (fun v146 ev146 lv146 uv146 => ?_)
                  have qv146 := e148.symm.trans ev146; subst qv146
                  refine lv_iconst (v := 1) hx hb dX12_builds_126 rfl ?_
                  refine lv_iadd hx hb dX12_builds_127 (lv_topi (fun v149 ev149 => ?_))
                  have ev149i : v149.toInt = (v35.toInt + 1) := i_add ev149 rfl (by decide) (by omega) (by omega)
                  refine q_cast E hC143 hS143 gca (a := (14 + v22.toInt)) ev145i (by omega) (by omega) (cs_c12 (a := (14 + v22.toInt)) (b := (v35.toInt + 1)) (by omega) (by omega) ev149i (by omega) (by omega)) dX12_builds_128 (fun H150 locs150 hC150 hS150 U150 => ?_)
                  have hKp150 := Kp.upD gca rfl rfl (fun _ => ⟨fun _ => nd3 (by omega) (by omega), fun h => absurd h (by decide), fun _ => by unfold dpn; omega⟩) U150 hKp143
                  have e151 := (up_nI (a' := ca) (j' := ((12 + v22.toInt) : Int).toNat) U137 (fun h => by have h2 := h.2; omega)).trans ev33
                  have e152 := (up_nI (a' := ca) (j' := ((12 + v22.toInt) : Int).toNat) U143 (fun h => by have h2 := h.2; omega)).trans e151
                  have m153 : (sI H143 ca ((12 + v22.toInt)).toNat).toInt = v33.toInt := congrArg Int32.toInt e152
                  have hU150 := UH.at hU143 (t := v22.toInt) (by omega) (by omega) (by omega) U150 (b := (v35.toInt + 1)) ev149i (by omega)
                  have e154 := up_I U150
                  obtain ⟨v155, ev155⟩ : ∃ z, z = v23 + Int32.ofInt 1 := ⟨_, rfl⟩
                  have ev155i : v155.toInt = (z23 + 1) := i_add ev155 ev23 (by decide) (by omega) (by omega)
                  refine lv_iinc hx hb dX12_builds_129 hl (k := 1) rfl ev155.symm (by decide) rfl (fun ls hl => ?_)
                  have hl : lv_has ls 6 [(4, .int v155), (5, .int 1), (3, .int v22), (0, .ref h0), (1, .int p1), (2, .int p2)] := hl
                  refine lv_aload_n hx hb dX12_builds_132 rfl (lv_at hl 3 rfl) ?_
                  refine q_getC E hC150 g0 fa_RX12_35 uc dX12_builds_133 ?_
                  refine lv_bipush (v := 18) hx hb dX12_builds_136 rfl ?_
                  refine q_cald E hC150 (lo := -2147483648) (hi := 2147483647) gca (a := 18) (show (18 : Int32).toInt = 18 from by decide) (by omega) (by omega) (cr_c16 (by omega) (by omega)) dX12_builds_138 (fun v156 ev156 _ _ => ?_)
                  refine lv_iconst (v := 1) hx hb dX12_builds_139 rfl ?_
                  refine q_icmp_ne hx hb (a := v156.toInt) (b := 1) rfl (by decide) (tgt := 184) dX12_builds_140 rfl (fun c157 => ?_) (fun c157 => ?_)
                  · refine lv_iload hx hb dX12_builds_184 (lv_at hl 1 rfl) ?_
                    refine q_if_eq hx hb (a := 1) (by decide) (tgt := 196) dX12_builds_186 rfl (fun c158 => absurd c158 (by omega)) (fun c158 => ?_)
                    refine lv_aload_n hx hb dX12_builds_189 rfl (lv_at hl 3 rfl) ?_
                    refine lv_iload_n hx hb dX12_builds_190 rfl (lv_at hl 2 rfl) ?_
                    refine lv_iconst (v := 1) hx hb dX12_builds_191 rfl ?_
                    refine lv_iload_n hx hb dX12_builds_192 rfl (lv_at hl 4 rfl) ?_
                    refine q_goV (q_runV (As := [.int v22, .int 1, .int p1]) (rest := []) E hC150 hS150 (m_X12_breaks l X Γ H150 hC150 h0 g0 v22 (a1 := v22.toInt) rfl 1 (a2 := 1) (by decide) p1 (a3 := a1) e1 ca gca uc (by omega) (by omega)) cw_X12_breaks cl_RX12_332 g0 ⟨rfl, rfl⟩ rfl hl.1 rfl (Nat.zero_le _) (by decide) dX12_builds_193) hS150 (fun H159 locs159 hr159 hC159 hS159 => ?_)
                    have hU159 := UH.kp hU150 hr159 gca rfl rfl
                    have hKp159 := hKp150.tr (hr159.mono rfl)
                    refine lv_goto (tgt := 12) hx hb dX12_builds_196 rfl ?_
                    exact ih24 H159 locs159 v155 ((z23 + 1)) ls (by omega) ev155i (by omega) hC159 hS159 hU159 hKp159 (lv_sub hl [0, 2, 3, 4, 5] rfl)
                  · refine lv_aload_n hx hb dX12_builds_143 rfl (lv_at hl 3 rfl) ?_
                    refine q_getC E hC150 g0 fa_RX12_35 uc dX12_builds_144 ?_
                    refine lv_bipush (v := 62) hx hb dX12_builds_147 rfl ?_
                    refine lv_iload_n hx hb dX12_builds_149 rfl (lv_at hl 4 rfl) ?_
                    refine lv_iadd hx hb dX12_builds_150 (lv_topi (fun v160 ev160 => ?_))
                    have ev160i : v160.toInt = (62 + a1) := i_add ev160 (by decide) e1 (by omega) (by omega)
                    have e162 := (up_nI (a' := ca) (j' := ((62 + a1) : Int).toNat) U150 (fun h => by have h2 := h.2; omega)).trans e144
                    refine q_cald E hC150 (lo := 0) (hi := 99) gca (a := (62 + a1)) ev160i (by omega) (by omega) (cr_c26 (by omega) (by omega)) dX12_builds_151 (fun v161 ev161 lv161 uv161 => ?_)
                    have qv161 := e162.symm.trans ev161; subst qv161
                    refine lv_aload_n hx hb dX12_builds_152 rfl (lv_at hl 3 rfl) ?_
                    refine q_getC E hC150 g0 fa_RX12_35 uc dX12_builds_153 ?_
                    refine lv_sipush (v := 134) hx hb dX12_builds_156 rfl ?_
                    refine lv_aload_n hx hb dX12_builds_159 rfl (lv_at hl 3 rfl) ?_
                    refine lv_iload_n hx hb dX12_builds_160 rfl (lv_at hl 4 rfl) ?_
                    refine q_goIp (q_runV (As := [.int p1]) (rest := [.int 134, .ref ca, .int v142]) E hC150 hS150 (m_X12_acrossOf l X Γ H150 hC150 h0 g0 p1 (a1 := a1) e1 ca gca uc (by omega) (by omega)) cw_X12_acrossOf cl_RX12_329 g0 ⟨rfl, rfl⟩ rfl hl.1 rfl (show _ ≤ _ from by simp [Value.category]) (by decide) dX12_builds_161) hS150 (fun v163 locs163 hr163 hS163 => ?_)
                    obtain ⟨f163_0, f163_1, f163_2⟩ := hr163
                    refine lv_iadd hx hb dX12_builds_164 (lv_topi (fun v164 ev164 => ?_))
                    have ev164i : v164.toInt = (134 + v163.toInt) := i_add ev164 (by decide) rfl (by omega) (by omega)
                    refine q_cald E hC150 (lo := -2147483648) (hi := 2147483647) gca (a := (134 + v163.toInt)) ev164i (by omega) (by omega) (fun _ h => cT_any h) dX12_builds_165 (fun v165 ev165 _ _ => ?_)
                    refine lv_aload_n hx hb dX12_builds_166 rfl (lv_at hl 3 rfl) ?_
                    refine q_getC E hC150 g0 fa_RX12_35 uc dX12_builds_167 ?_
                    refine lv_bipush (v := 22) hx hb dX12_builds_170 rfl ?_
                    refine q_cald E hC150 (lo := -2147483648) (hi := 2147483647) gca (a := 22) (show (22 : Int32).toInt = 22 from by decide) (by omega) (by omega) (cr_c16 (by omega) (by omega)) dX12_builds_172 (fun v166 ev166 _ _ => ?_)
                    refine lv_iadd hx hb dX12_builds_173 (lv_topi (fun v167 ev167 => ?_))
                    have c168 := i_rng v167; rw [show v167.toInt = v167.toInt from rfl] at c168
                    refine q_icmp_le hx hb (a := (v45.toInt + 1)) (b := v167.toInt) ev142i rfl (tgt := 184) dX12_builds_174 rfl (fun c169 => ?_) (fun c169 => ?_)
                    · refine lv_iload hx hb dX12_builds_184 (lv_at hl 1 rfl) ?_
                      refine q_if_eq hx hb (a := 1) (by decide) (tgt := 196) dX12_builds_186 rfl (fun c170 => absurd c170 (by omega)) (fun c170 => ?_)
                      refine lv_aload_n hx hb dX12_builds_189 rfl (lv_at hl 3 rfl) ?_
                      refine lv_iload_n hx hb dX12_builds_190 rfl (lv_at hl 2 rfl) ?_
                      refine lv_iconst (v := 1) hx hb dX12_builds_191 rfl ?_
                      refine lv_iload_n hx hb dX12_builds_192 rfl (lv_at hl 4 rfl) ?_
                      refine q_goV (q_runV (As := [.int v22, .int 1, .int p1]) (rest := []) E hC150 hS163 (m_X12_breaks l X Γ H150 hC150 h0 g0 v22 (a1 := v22.toInt) rfl 1 (a2 := 1) (by decide) p1 (a3 := a1) e1 ca gca uc (by omega) (by omega)) cw_X12_breaks cl_RX12_332 g0 ⟨rfl, rfl⟩ rfl hl.1 rfl (Nat.zero_le _) (by decide) dX12_builds_193) hS163 (fun H171 locs171 hr171 hC171 hS171 => ?_)
                      have hU171 := UH.kp hU150 hr171 gca rfl rfl
                      have hKp171 := hKp150.tr (hr171.mono rfl)
                      refine lv_goto (tgt := 12) hx hb dX12_builds_196 rfl ?_
                      exact ih24 H171 locs171 v155 ((z23 + 1)) ls (by omega) ev155i (by omega) hC171 hS171 hU171 hKp171 (lv_sub hl [0, 2, 3, 4, 5] rfl)
                    · refine lv_aload_n hx hb dX12_builds_177 rfl (lv_at hl 3 rfl) ?_
                      refine lv_iload_n hx hb dX12_builds_178 rfl (lv_at hl 2 rfl) ?_
                      refine lv_iconst (v := 0) hx hb dX12_builds_179 rfl ?_
                      refine lv_iload_n hx hb dX12_builds_180 rfl (lv_at hl 4 rfl) ?_
                      refine q_goV (q_runV (As := [.int v22, .int 0, .int p1]) (rest := []) E hC150 hS163 (m_X12_breaks l X Γ H150 hC150 h0 g0 v22 (a1 := v22.toInt) rfl 0 (a2 := 0) (by decide) p1 (a3 := a1) e1 ca gca uc (by omega) (by omega)) cw_X12_breaks cl_RX12_332 g0 ⟨rfl, rfl⟩ rfl hl.1 rfl (Nat.zero_le _) (by decide) dX12_builds_181) hS163 (fun H172 locs172 hr172 hC172 hS172 => ?_)
                      have hU172 := UH.kp hU150 hr172 gca rfl rfl
                      have hKp172 := hKp150.tr (hr172.mono rfl)
                      refine lv_iload hx hb dX12_builds_184 (lv_at hl 1 rfl) ?_
                      refine q_if_eq hx hb (a := 1) (by decide) (tgt := 196) dX12_builds_186 rfl (fun c173 => absurd c173 (by omega)) (fun c173 => ?_)
                      refine lv_aload_n hx hb dX12_builds_189 rfl (lv_at hl 3 rfl) ?_
                      refine lv_iload_n hx hb dX12_builds_190 rfl (lv_at hl 2 rfl) ?_
                      refine lv_iconst (v := 1) hx hb dX12_builds_191 rfl ?_
                      refine lv_iload_n hx hb dX12_builds_192 rfl (lv_at hl 4 rfl) ?_
                      refine q_goV (q_runV (As := [.int v22, .int 1, .int p1]) (rest := []) E hC172 hS172 (m_X12_breaks l X Γ H172 hC172 h0 g0 v22 (a1 := v22.toInt) rfl 1 (a2 := 1) (by decide) p1 (a3 := a1) e1 ca gca uc (by omega) (by omega)) cw_X12_breaks cl_RX12_332 g0 ⟨rfl, rfl⟩ rfl hl.1 rfl (Nat.zero_le _) (by decide) dX12_builds_193) hS172 (fun H174 locs174 hr174 hC174 hS174 => ?_)
                      have hU174 := UH.kp hU172 hr174 gca rfl rfl
                      have hKp174 := hKp172.tr (hr174.mono rfl)
                      refine lv_goto (tgt := 12) hx hb dX12_builds_196 rfl ?_
                      exact ih24 H174 locs174 v155 ((z23 + 1)) ls (by omega) ev155i (by omega) hC174 hS174 hU174 hKp174 (lv_sub hl [0, 2, 3, 4, 5] rfl)
        · refine q_if_eq hx hb (a := 0) (by decide) (tgt := 199) dX12_builds_24 rfl (fun c175 => ?_) (fun c175 => absurd c175 (by omega))
          refine lv_iload hx hb dX12_builds_199 (lv_at hl 0 rfl) ?_
          refine q_if_le hx hb (a := z23) ev23 (tgt := 215) dX12_builds_201 rfl (fun c176 => ?_) (fun c176 => ?_)
          · refine lv_iload hx hb dX12_builds_215 (lv_at hl 0 rfl) ?_
            exact ret v23 H24 locs31 _ _ dX12_builds_217 ⟨⟨hKp24, hU24⟩, trivial⟩ hC24 hS31
          · refine lv_aload_n hx hb dX12_builds_204 rfl (lv_at hl 2 rfl) ?_
            refine q_getC E hC24 g0 fa_RX12_35 uc dX12_builds_205 ?_
            refine lv_sipush (v := 206) hx hb dX12_builds_208 rfl ?_
            refine lv_iload_n hx hb dX12_builds_211 rfl (lv_at hl 3 rfl) ?_
            refine lv_iadd hx hb dX12_builds_212 (lv_topi (fun v177 ev177 => ?_))
            have ev177i : v177.toInt = (206 + a1) := i_add ev177 (by decide) e1 (by omega) (by omega)
            refine lv_iconst (v := 0) hx hb dX12_builds_213 rfl ?_
            refine q_cast E hC24 hS31 gca (a := (206 + a1)) ev177i (by omega) (by omega) (cs_c134 (a := (206 + a1)) (by omega) (by omega)) dX12_builds_214 (fun H178 locs178 hC178 hS178 U178 => ?_)
            have hKp178 := Kp.upD gca rfl rfl (fun _ => ⟨fun _ => nd2 (by omega) (by omega), fun h => absurd h (by decide), fun _ => by unfold dpn; omega⟩) U178 hKp24
            have hU178 := UH.ne hU24 U178 (Or.inr (by omega))
            have e179 := up_I U178
            refine lv_iload hx hb dX12_builds_215 (lv_at hl 0 rfl) ?_
            exact ret v23 H178 locs178 _ _ dX12_builds_217 ⟨⟨hKp178, hU178⟩, trivial⟩ hC178 hS178
  exact L12 _ H0 locs22 0 0 ls (Nat.lt_succ_self _) (by decide) (by omega) hC0 hS22 hu0 hKp0 hl
set_option maxRecDepth 100000 in
set_option maxHeartbeats 4000000 in
theorem m_X12_build (l : Launch) (X : xW) (Γ : Nat → Option Nat) (H0 : Heap) (hC0 : Conf X Γ H0) (h0 : Nat) (g0 : Γ h0 = some 11) (p1 : Int32) {a1 : Int} (e1 : p1.toInt = a1) (p2 : Int32) {a2 : Int} (e2 : p2.toInt = a2) (p3 : Int32) {a3 : Int} (e3 : p3.toInt = a3) (ca : Nat) (gca : Γ ca = some 64) (uc : ∀ a, Γ a = some 64 → a = ca) (hu0 : UH H0 ca) : Ctr l X Γ yX12_build cX12_build 5 (some .int) 3 [.ref h0, .int p1, .int p2, .int p3] H0 (QI X Γ (fun v H1 => (Kp X Γ [1, 6, 7, 8, 9, 10, 11, 12, 14, 17, 19, 22, 24] H0 H1 ∧ UH H1 ca) ∧ (True))) := by
  refine q_enterI (own := "SnowFortsModel") (by decide) rfl (Nat.le_of_ble_eq_true rfl) ?_
  intro p e s m args below meth c ls Qz E hl ret hS0
  have hx := E.1; have hb := E.2.1
  have hKp0 : Kp X Γ [1, 6, 7, 8, 9, 10, 11, 12, 14, 17, 19, 22, 24] H0 H0 := Kp.rf
  have hl : lv_has ls 5 [(0, .ref h0), (1, .int p1), (2, .int p2), (3, .int p3)] := hl
  refine lv_aload_n hx hb dX12_build_0 rfl (lv_at hl 0 rfl) ?_
  refine lv_iconst (v := 0) hx hb dX12_build_1 rfl ?_
  refine q_put E hC0 hS0 g0 fp_RX12_69 tv_F rfl rfl dX12_build_2 (fun H21 locs21 hC21 hS21 U21 => ?_)
  have hKp21 := Kp.upO E g0 fp_RX12_69 rfl U21 hKp0
  have e22 := up_I U21
  have hU21 := UH.ne hu0 U21 (Or.inl (nek g0 gca (by decide)))
  refine lv_aload_n hx hb dX12_build_5 rfl (lv_at hl 0 rfl) ?_
  refine lv_iconst (v := 0) hx hb dX12_build_6 rfl ?_
  refine q_put E hC21 hS21 g0 fp_RX12_72 tv_F rfl rfl dX12_build_7 (fun H23 locs23 hC23 hS23 U23 => ?_)
  have hKp23 := Kp.upO E g0 fp_RX12_72 rfl U23 hKp21
  have e24 := up_I U23
  have hU23 := UH.ne hU21 U23 (Or.inl (nek g0 gca (by decide)))
  refine lv_aload_n hx hb dX12_build_10 rfl (lv_at hl 0 rfl) ?_
  refine lv_iload_n hx hb dX12_build_11 rfl (lv_at hl 1 rfl) ?_
  refine lv_iload_n hx hb dX12_build_12 rfl (lv_at hl 2 rfl) ?_
  refine q_goIp (q_runV (As := [.int p1, .int p2]) (rest := []) E hC23 hS23 (m_X12_isOwned l X Γ H23 hC23 h0 g0 p1 (a1 := a1) e1 p2 (a2 := a2) e2 ca gca uc) cw_X12_isOwned cl_RX12_336 g0 ⟨rfl, rfl⟩ rfl hl.1 rfl (Nat.zero_le _) (by decide) dX12_build_13) hS23 (fun v25 locs25 hr25 hS25 => ?_)
  rcases hr25 with ⟨rfl, f25a0, f25a1, f25a2, f25a3⟩ | ⟨rfl, -⟩
  · refine q_if_ne hx hb (a := 1) (by decide) (tgt := 25) dX12_build_16 rfl (fun c26 => ?_) (fun c26 => absurd c26 (by omega))
    refine lv_iload_n hx hb dX12_build_25 rfl (lv_at hl 3 rfl) ?_
    refine lv_i2l (v := p3.toInt64) hx hb dX12_build_26 rfl (lv_topl (fun v27 ev27 => ?_))
    have ev27i : v27.toInt = a3 := l_ofi ev27.symm e3
    refine lv_lconst (v := 1) hx hb dX12_build_27 rfl ?_
    refine lv_ldc2 (v := 40) hx hb E.2.2.2.1 (E.2.2.2.2.1 _ w_1726) dX12_build_28 ?_
    refine q_goIp (q_runS (As := [.long v27, .long 1, .long 40]) (rest := []) E hS25 (m_X12_isIn l X Γ H23 hC23 v27 (a0 := a3) ev27i 1 (a1 := 1) (show (1 : Int64).toInt = 1 from by decide) 40 (a2 := 40) (show (40 : Int64).toInt = 40 from by decide)) cw_X12_isIn cl_RX12_104 rfl hl.1 rfl (Nat.zero_le _) (by decide) dX12_build_31) hS25 (fun v28 locs28 hr28 hS28 => ?_)
    rcases hr28 with ⟨rfl, f28a0, f28a1⟩ | ⟨rfl, f28b⟩
    · refine q_if_ne hx hb (a := 1) (by decide) (tgt := 43) dX12_build_34 rfl (fun c29 => ?_) (fun c29 => absurd c29 (by omega))
      refine lv_aload_n hx hb dX12_build_43 rfl (lv_at hl 0 rfl) ?_
      refine lv_iload_n hx hb dX12_build_44 rfl (lv_at hl 1 rfl) ?_
      refine lv_iload_n hx hb dX12_build_45 rfl (lv_at hl 2 rfl) ?_
      refine q_goIp (q_runS (As := [.int p1, .int p2]) (rest := [.ref h0]) E hS28 (m_X12_at2 l X Γ H23 hC23 p1 (a0 := a1) e1 p2 (a1 := a2) e2 (by omega) (by omega) (by omega) (by omega)) cw_X12_at2 cl_RX12_292 rfl hl.1 rfl (show _ ≤ _ from by simp [Value.category]) (by decide) dX12_build_46) hS28 (fun v30 locs30 hr30 hS30 => ?_)
      have f30_0 := hr30
      refine lv_iload_n hx hb dX12_build_49 rfl (lv_at hl 3 rfl) ?_
      refine q_goI (q_runV (As := [.int v30, .int p3]) (rest := []) E hC23 hS30 (m_X12_builds l X Γ H23 hC23 h0 g0 v30 (a1 := v30.toInt) rfl p3 (a2 := a3) e3 ca gca uc hU23 (by omega) (by omega)) cw_X12_builds cl_RX12_339 g0 ⟨rfl, rfl⟩ rfl hl.1 rfl (Nat.zero_le _) (by decide) dX12_build_50) hS30 (fun v31 H31 locs31 hr31 hC31 hS31 => ?_)
      obtain ⟨hp31, hr31⟩ := hr31
      obtain ⟨hp31p, hU31⟩ := hp31
      have hKp31 := hKp23.tr (hp31p.mono rfl)
      refine lv_istore hx hb dX12_build_53 hl (by decide) rfl (fun ls hl => ?_)
      have hl : lv_has ls 5 [(4, .int v31), (0, .ref h0), (1, .int p1), (2, .int p2), (3, .int p3)] := hl
      refine lv_iload hx hb dX12_build_55 (lv_at hl 0 rfl) ?_
      refine q_if_ne hx hb (a := v31.toInt) rfl (tgt := 69) dX12_build_57 rfl (fun c32 => ?_) (fun c32 => ?_)
      · refine lv_iload hx hb dX12_build_69 (lv_at hl 0 rfl) ?_
        exact ret v31 H31 locs31 _ _ dX12_build_71 ⟨⟨hKp31, hU31⟩, trivial⟩ hC31 hS31
      · refine lv_aload_n hx hb dX12_build_60 rfl (lv_at hl 1 rfl) ?_
        refine lv_bipush (v := 9) hx hb dX12_build_61 rfl ?_
        refine q_goI (q_runV (As := [.int 9]) (rest := []) E hC31 hS31 (m_X12_refuse l X Γ H31 hC31 h0 g0 9 (a1 := 9) (by decide) ca gca uc) cw_X12_refuse cl_RX12_298 g0 ⟨rfl, rfl⟩ rfl hl.1 rfl (Nat.zero_le _) (by decide) dX12_build_63) hS31 (fun v33 H33 locs33 hr33 hC33 hS33 => ?_)
        obtain ⟨hp33, hr33⟩ := hr33
        have hU33 := UH.kp hU31 hp33 gca rfl rfl
        have hKp33 := hKp31.tr (hp33.mono rfl)
        have f33_0 := hr33
        refine lv_goto (tgt := 71) hx hb dX12_build_66 rfl ?_
        exact ret v33 H33 locs33 _ _ dX12_build_71 ⟨⟨hKp33, hU33⟩, trivial⟩ hC33 hS33
    · refine q_if_ne hx hb (a := 0) (by decide) (tgt := 43) dX12_build_34 rfl (fun c34 => absurd c34 (by omega)) (fun c34 => ?_)
      refine lv_aload_n hx hb dX12_build_37 rfl (lv_at hl 0 rfl) ?_
      refine lv_iconst (v := 5) hx hb dX12_build_38 rfl ?_
      refine q_goI (q_runV (As := [.int 5]) (rest := []) E hC23 hS28 (m_X12_refuse l X Γ H23 hC23 h0 g0 5 (a1 := 5) (by decide) ca gca uc) cw_X12_refuse cl_RX12_298 g0 ⟨rfl, rfl⟩ rfl hl.1 rfl (Nat.zero_le _) (by decide) dX12_build_39) hS28 (fun v35 H35 locs35 hr35 hC35 hS35 => ?_)
      obtain ⟨hp35, hr35⟩ := hr35
      have hU35 := UH.kp hU23 hp35 gca rfl rfl
      have hKp35 := hKp23.tr (hp35.mono rfl)
      have f35_0 := hr35
      exact ret v35 H35 locs35 _ _ dX12_build_42 ⟨⟨hKp35, hU35⟩, trivial⟩ hC35 hS35
  · refine q_if_ne hx hb (a := 0) (by decide) (tgt := 25) dX12_build_16 rfl (fun c36 => absurd c36 (by omega)) (fun c36 => ?_)
    refine lv_aload_n hx hb dX12_build_19 rfl (lv_at hl 0 rfl) ?_
    refine lv_iconst (v := 2) hx hb dX12_build_20 rfl ?_
    refine q_goI (q_runV (As := [.int 2]) (rest := []) E hC23 hS25 (m_X12_refuse l X Γ H23 hC23 h0 g0 2 (a1 := 2) (by decide) ca gca uc) cw_X12_refuse cl_RX12_298 g0 ⟨rfl, rfl⟩ rfl hl.1 rfl (Nat.zero_le _) (by decide) dX12_build_21) hS25 (fun v37 H37 locs37 hr37 hC37 hS37 => ?_)
    obtain ⟨hp37, hr37⟩ := hr37
    have hU37 := UH.kp hU23 hp37 gca rfl rfl
    have hKp37 := hKp23.tr (hp37.mono rfl)
    have f37_0 := hr37
    exact ret v37 H37 locs37 _ _ dX12_build_24 ⟨⟨hKp37, hU37⟩, trivial⟩ hC37 hS37
