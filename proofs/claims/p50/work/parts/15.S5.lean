set_option maxRecDepth 100000 in
set_option maxHeartbeats 4000000 in
theorem m_L_four (l : Launch) (X : xW) (Γ : Nat → Option Nat) (H0 : Heap) (hC0 : Conf X Γ H0) (h0 : Nat) (g0 : Γ h0 = some 90) (p1 : Int32) {a1 : Int} (e1 : p1.toInt = a1) (r0 : 0 ≤ a1) (r1 : a1 ≤ 16) : Ctr l X Γ yL_four cL_four 2 (some .int) 0 [.ref h0, .int p1] H0 (QI X Γ (fun v H1 => H1 = H0 ∧ ((v = fo4 (sI H0 h0 (a1 : Int).toNat) (sI H0 h0 (a1 + 1 : Int).toNat) (sI H0 h0 (a1 + 2 : Int).toNat) (sI H0 h0 (a1 + 3 : Int).toNat))))) := by
  refine q_enterI (own := "SnowFortsLaw") (by decide) rfl (Nat.le_of_ble_eq_true rfl) ?_
  intro p e s m args below meth c ls Qz E hl ret hS0
  have hx := E.1; have hb := E.2.1
  have hl : lv_has ls 2 [(0, .ref h0), (1, .int p1)] := hl
  refine lv_aload_n hx hb dL_four_0 rfl (lv_at hl 0 rfl) ?_
  refine lv_iload_n hx hb dL_four_1 rfl (lv_at hl 1 rfl) ?_
  refine q_iald E hC0 g0 rfl rfl (rl_90_0 e1 (by omega) (by omega)) (i_in (a := a1) e1 (by omega) (by omega)) dL_four_2 (fun v21 ev21 lv21 uv21 => ?_)
  have m22 : aI H0 h0 a1 = v21.toInt := aI_of e1 ev21
  have ea := ev21; have ia := e1
  refine lv_bipush (v := 24) hx hb dL_four_3 rfl ?_
  refine lv_ishl hx hb dL_four_5 (lv_topi (fun v23 ev23 => ?_))
  have q5 := ev23
  refine lv_aload_n hx hb dL_four_6 rfl (lv_at hl 0 rfl) ?_
  refine lv_iload_n hx hb dL_four_7 rfl (lv_at hl 1 rfl) ?_
  refine lv_iconst (v := 1) hx hb dL_four_8 rfl ?_
  refine lv_iadd hx hb dL_four_9 (lv_topi (fun v24 ev24 => ?_))
  have ev24i : v24.toInt = (a1 + 1) := i_add ev24 e1 (by decide) (by omega) (by omega)
  refine q_iald E hC0 g0 rfl rfl (rl_90_0 ev24i (by omega) (by omega)) (i_in (a := (a1 + 1)) ev24i (by omega) (by omega)) dL_four_10 (fun v25 ev25 lv25 uv25 => ?_)
  have m26 : aI H0 h0 ((a1 + 1)) = v25.toInt := aI_of ev24i ev25
  have eb := ev25; have ib := ev24i
  refine lv_bipush (v := 16) hx hb dL_four_11 rfl ?_
  refine lv_ishl hx hb dL_four_13 (lv_topi (fun v27 ev27 => ?_))
  have q13 := ev27
  refine lv_ior hx hb dL_four_14 (lv_topi (fun v28 ev28 => ?_))
  have q14 := ev28
  refine lv_aload_n hx hb dL_four_15 rfl (lv_at hl 0 rfl) ?_
  refine lv_iload_n hx hb dL_four_16 rfl (lv_at hl 1 rfl) ?_
  refine lv_iconst (v := 2) hx hb dL_four_17 rfl ?_
  refine lv_iadd hx hb dL_four_18 (lv_topi (fun v29 ev29 => ?_))
  have ev29i : v29.toInt = (a1 + 2) := i_add ev29 e1 (by decide) (by omega) (by omega)
  refine q_iald E hC0 g0 rfl rfl (rl_90_0 ev29i (by omega) (by omega)) (i_in (a := (a1 + 2)) ev29i (by omega) (by omega)) dL_four_19 (fun v30 ev30 lv30 uv30 => ?_)
  have m31 : aI H0 h0 ((a1 + 2)) = v30.toInt := aI_of ev29i ev30
  have ec := ev30; have ic := ev29i
  refine lv_bipush (v := 8) hx hb dL_four_20 rfl ?_
  refine lv_ishl hx hb dL_four_22 (lv_topi (fun v32 ev32 => ?_))
  have q22 := ev32
  refine lv_ior hx hb dL_four_23 (lv_topi (fun v33 ev33 => ?_))
  have q21 := ev33
  refine lv_aload_n hx hb dL_four_24 rfl (lv_at hl 0 rfl) ?_
  refine lv_iload_n hx hb dL_four_25 rfl (lv_at hl 1 rfl) ?_
  refine lv_iconst (v := 3) hx hb dL_four_26 rfl ?_
  refine lv_iadd hx hb dL_four_27 (lv_topi (fun v34 ev34 => ?_))
  have ev34i : v34.toInt = (a1 + 3) := i_add ev34 e1 (by decide) (by omega) (by omega)
  refine q_iald E hC0 g0 rfl rfl (rl_90_0 ev34i (by omega) (by omega)) (i_in (a := (a1 + 3)) ev34i (by omega) (by omega)) dL_four_28 (fun v35 ev35 lv35 uv35 => ?_)
  have m36 : aI H0 h0 ((a1 + 3)) = v35.toInt := aI_of ev34i ev35
  have ed := ev35; have id := ev34i
  refine lv_ior hx hb dL_four_29 (lv_topi (fun v37 ev37 => ?_))
  have q29 := ev37
  have hfo : (v37 : Int32) = fo4 (sI H0 h0 (a1 : Int).toNat) (sI H0 h0 (a1 + 1 : Int).toNat) (sI H0 h0 (a1 + 2 : Int).toNat) (sI H0 h0 (a1 + 3 : Int).toNat) := by rw [← i_ix ia, ← i_ix ib, ← i_ix ic, ← i_ix id, ea, eb, ec, ed, q29, q21, q22, q14, q13, q5] <;> rfl
  have c38 : v37.toInt = v37.toInt := rfl
  exact ret v37 H0 [] _ _ dL_four_30 ⟨rfl, hfo⟩ hC0 hS0
set_option maxRecDepth 100000 in
set_option maxHeartbeats 4000000 in
theorem m_L_feed (l : Launch) (X : xW) (Γ : Nat → Option Nat) (H0 : Heap) (hC0 : Conf X Γ H0) (h0 : Nat) (g0 : Γ h0 = some 0) (h1 : Nat) (g1 : Γ h1 = some 90) (ra : Nat) (gra : Γ ra = some 2) (ur : ∀ a, Γ a = some 2 → a = ra) (tp : Nat) (htp : sR H0 ra (X.1.2 4 0) = some tp) (gtp : Γ tp = some 25) (F9 k9 : Int) (txt : List Int) (ct0 : CT H0 tp h1 F9 k9 txt) (hF9 : (sI H0 ra (X.1.2 4 1)).toInt = F9) (hm9 : aI H0 h1 20 = k9) (r0 : k9 ≤ 20) (r1 : F9 ≤ 880) : Ctr l X Γ yL_feed cL_feed 3 none 2 [.ref h0, .ref h1] H0 (QV X Γ (fun H1 => Kp X Γ [31, 32, 33, 34, 37, 39, 40, 50, 51, 52, 53, 54, 55, 56, 57, 58, 59, 60, 61, 62, 63, 65, 67, 68, 69, 71, 72] H0 H1 ∧ ((CT H1 tp h1 (F9 + 20) 0 (txt ++ pad (20 - k9))) ∧ ((sI H1 ra (X.1.2 4 1)).toInt = F9 + 20) ∧ (aI H1 h1 20 = 0) ∧ (aI H1 h1 21 = aI H0 h1 21)))) := by
  refine q_enterV (own := "SnowFortsLaw") (by decide) rfl (Nat.le_of_ble_eq_true rfl) ?_
  intro p e s m args below meth c ls Qz E hl ret hS0
  have hx := E.1; have hb := E.2.1
  have hKp0 : Kp X Γ [31, 32, 33, 34, 37, 39, 40, 50, 51, 52, 53, 54, 55, 56, 57, 58, 59, 60, 61, 62, 63, 65, 67, 68, 69, 71, 72] H0 H0 := Kp.rf
  have hl : lv_has ls 3 [(0, .ref h0), (1, .ref h1)] := hl
  have hk9 := ct0.2.1
  have hFn := ct0.1
  refine lv_aload_n hx hb dL_feed_0 rfl (lv_at hl 1 rfl) ?_
  refine lv_bipush (v := 20) hx hb dL_feed_1 rfl ?_
  refine q_iald E hC0 g1 rfl rfl (rl_90_1 (show (20 : Int32).toInt = 20 from by decide) (by omega) (by omega)) (i_in (a := 20) (show (20 : Int32).toInt = 20 from by decide) (by omega) (by omega)) dL_feed_3 (fun v21 ev21 lv21 uv21 => ?_)
  have m22 : aI H0 h1 (20) = v21.toInt := aI_of (show (20 : Int32).toInt = 20 from by decide) ev21
  refine lv_istore_n hx hb dL_feed_4 rfl hl (by decide) rfl (fun ls hl => ?_)
  replace hl : lv_has ls 3 [(2, .int v21), (0, .ref h0), (1, .ref h1)] := hl
  have L5 : ∀ (n24 : Nat) (H24 : Heap) (locs24 : List Loc) (v23 : Int32) (z23 : Int) (ls : Array Slot), (20 - z23).toNat < n24 → v23.toInt = z23 → z23 ≤ 20 → 0 ≤ z23 → CT H24 tp h1 F9 z23 (txt ++ pad (z23 - k9)) → k9 ≤ z23 → aI H24 h1 20 = k9 → aI H24 h1 21 = aI H0 h1 21 → (sI H24 ra (X.1.2 4 1)).toInt = F9 → Conf X Γ H24 → va_S (AΓ Γ) H0 H24 locs24 → Kp X Γ [31, 32, 33, 34, 37, 39, 40, 50, 51, 52, 53, 54, 55, 56, 57, 58, 59, 60, 61, 62, 63, 65, 67, 68, 69, 71, 72] H0 H24 → lv_has ls 3 [(2, .int v23), (0, .ref h0), (1, .ref h1)] → W p l e (rmL 2) s m args below meth c H24 locs24 0 0 Qz (F0 m 5 ls []) := by
    intro n24
    induction n24 with
    | zero => intro H24 locs24 v23 z23 ls hm24 ev23 iv24_0 iv24_1 iv24_2 iv24_3 iv24_4 iv24_5 iv24_6 hC24 hS24 hKp24 hl; exact absurd hm24 (Nat.not_lt_zero _)
    | succ n24 ih24 =>
      intro H24 locs24 v23 z23 ls hm24 ev23 iv24_0 iv24_1 iv24_2 iv24_3 iv24_4 iv24_5 iv24_6 hC24 hS24 hKp24 hl
      have ct := iv24_2
      refine lv_iload_n hx hb dL_feed_5 rfl (lv_at hl 0 rfl) ?_
      refine lv_bipush (v := 20) hx hb dL_feed_6 rfl ?_
      refine q_icmp_ge hx hb (a := z23) (b := 20) ev23 (by decide) (tgt := 22) dL_feed_8 rfl (fun c25 => ?_) (fun c25 => ?_)
      · refine lv_aload_n hx hb dL_feed_22 rfl (lv_at hl 1 rfl) ?_
        refine lv_aload_n hx hb dL_feed_23 rfl (lv_at hl 2 rfl) ?_
        refine lv_iconst (v := 0) hx hb dL_feed_24 rfl ?_
        refine q_goIp (q_runS (As := [.ref h1, .int 0]) (rest := [.ref h0]) E hS24 (m_L_four l X Γ H24 hC24 h1 g1 0 (a1 := 0) (by decide) (by omega) (by omega)) cw_L_four cl_RL_13 rfl hl.1 rfl (show _ ≤ _ from by simp [Value.category]) (by decide) dL_feed_25) hS24 (fun v26 locs26 hr26 hS26 => ?_)
        have f26_0 := hr26
        have f9a := f26_0
        have hcf := hC24
        refine lv_aload_n hx hb dL_feed_28 rfl (lv_at hl 2 rfl) ?_
        refine lv_iconst (v := 4) hx hb dL_feed_29 rfl ?_
        refine q_goIp (q_runS (As := [.ref h1, .int 4]) (rest := [.int v26, .ref h0]) E hS26 (m_L_four l X Γ H24 hC24 h1 g1 4 (a1 := 4) (by decide) (by omega) (by omega)) cw_L_four cl_RL_13 rfl hl.1 rfl (show _ ≤ _ from by simp [Value.category]) (by decide) dL_feed_30) hS26 (fun v27 locs27 hr27 hS27 => ?_)
        have f27_0 := hr27
        have f9b := f27_0
        refine lv_aload_n hx hb dL_feed_33 rfl (lv_at hl 2 rfl) ?_
        refine lv_bipush (v := 8) hx hb dL_feed_34 rfl ?_
        refine q_goIp (q_runS (As := [.ref h1, .int 8]) (rest := [.int v27, .int v26, .ref h0]) E hS27 (m_L_four l X Γ H24 hC24 h1 g1 8 (a1 := 8) (by decide) (by omega) (by omega)) cw_L_four cl_RL_13 rfl hl.1 rfl (show _ ≤ _ from by simp [Value.category]) (by decide) dL_feed_36) hS27 (fun v28 locs28 hr28 hS28 => ?_)
        have f28_0 := hr28
        have f9c := f28_0
        refine lv_aload_n hx hb dL_feed_39 rfl (lv_at hl 2 rfl) ?_
        refine lv_bipush (v := 12) hx hb dL_feed_40 rfl ?_
        refine q_goIp (q_runS (As := [.ref h1, .int 12]) (rest := [.int v28, .int v27, .int v26, .ref h0]) E hS28 (m_L_four l X Γ H24 hC24 h1 g1 12 (a1 := 12) (by decide) (by omega) (by omega)) cw_L_four cl_RL_13 rfl hl.1 rfl (show _ ≤ _ from by simp [Value.category]) (by decide) dL_feed_42) hS28 (fun v29 locs29 hr29 hS29 => ?_)
        have f29_0 := hr29
        have f9d := f29_0
        refine lv_aload_n hx hb dL_feed_45 rfl (lv_at hl 2 rfl) ?_
        refine lv_bipush (v := 16) hx hb dL_feed_46 rfl ?_
        refine q_goIp (q_runS (As := [.ref h1, .int 16]) (rest := [.int v29, .int v28, .int v27, .int v26, .ref h0]) E hS29 (m_L_four l X Γ H24 hC24 h1 g1 16 (a1 := 16) (by decide) (by omega) (by omega)) cw_L_four cl_RL_13 rfl hl.1 rfl (show _ ≤ _ from by simp [Value.category]) (by decide) dL_feed_48) hS29 (fun v30 locs30 hr30 hS30 => ?_)
        have f30_0 := hr30
        have f9e := f30_0
        refine q_goI (q_runV (As := [.int v26, .int v27, .int v28, .int v29, .int v30]) (rest := []) E hC24 hS30 (m_X11_feed l X Γ H24 hC24 h0 g0 v26 (a1 := v26.toInt) rfl v27 (a2 := v27.toInt) rfl v28 (a3 := v28.toInt) rfl v29 (a4 := v29.toInt) rfl v30 (a5 := v30.toInt) rfl ra gra ur tp ((kp_R hKp24 gra (ci := 4) (k := 0) rfl (by decide) rfl).trans htp) gtp) cw_X11_feed cl_RL_17 g0 ⟨rfl, rfl⟩ rfl hl.1 rfl (Nat.zero_le _) (by decide) dL_feed_51) hS30 (fun v31 H31 locs31 hr31 hC31 hS31 => ?_)
        obtain ⟨hp31, hr31⟩ := hr31
        have hKp31 := hKp24.tr (hp31.mono rfl)
        have m32 : aI H31 h1 (20) = aI H24 h1 (20) := aI_kp hp31 g1 rfl rfl
        have m33 : aI H31 h1 (21) = aI H24 h1 (21) := aI_kp hp31 g1 rfl rfl
        obtain ⟨f31_0, f31_1⟩ := hr31
        have hm0 : ∀ j : Int, aI H31 h1 j = aI H24 h1 j := fun j => aI_kp hp31 g1 rfl rfl
        have ct4 := CT.fed (ct.cast (show z23 = 20 by omega) (show z23 - k9 = 20 - k9 by omega)) (f31_1) (by omega) (by omega) hm0 (m_bd hcf g1) f9a f9b f9c f9d f9e
        refine lv_pop hx hb dL_feed_54 rfl ?_
        refine lv_aload_n hx hb dL_feed_55 rfl (lv_at hl 2 rfl) ?_
        refine lv_bipush (v := 20) hx hb dL_feed_56 rfl ?_
        refine lv_iconst (v := 0) hx hb dL_feed_58 rfl ?_
        refine q_iast E hC31 hS31 g1 (by decide) rfl rfl (i_in (a := 20) (show (20 : Int32).toInt = 20 from by decide) (by omega) (by omega)) (rs_90_1 (show (20 : Int32).toInt = 20 from by decide) (by omega) (by omega) (tv_I (show (0 : Int32).toInt = 0 from by decide) (by omega) (by omega))) dL_feed_59 (fun H35 locs35 hC35 hS35 U35 => ?_)
        have hKp35 := Kp.upA g1 rfl (by decide) rfl U35 hKp31
        have m36 : aI H35 h1 (20) = 0 := aI_up U35 (show (20 : Int32).toInt = 20 from by decide) (show (0 : Int32).toInt = 0 from by decide)
        have m38 : aI H35 h1 (21) = aI H31 h1 (21) := aI_un U35 (show (20 : Int32).toInt = 20 from by decide) (by omega)
        have m39 : (sI H35 ra (X.1.2 4 1)).toInt = (sI H31 ra (X.1.2 4 1)).toInt := congrArg Int32.toInt (up_nI U35 (ne_k gra g1 (by decide)))
        have ct5 := ct4.mm U35 (show (20 : Int32).toInt = 20 from by decide) (by omega) (nek gtp g1 (by decide))
        exact ret H35 locs35 _ _ dL_feed_60 ⟨hKp35, ⟨ct5, by omega, by omega, by omega⟩⟩ hC35 hS35
      · refine lv_aload_n hx hb dL_feed_11 rfl (lv_at hl 2 rfl) ?_
        refine lv_iload_n hx hb dL_feed_12 rfl (lv_at hl 0 rfl) ?_
        refine lv_bipush (v := 32) hx hb dL_feed_13 rfl ?_
        refine q_iast E hC24 hS24 g1 (by decide) rfl rfl (i_in (a := z23) ev23 (by omega) (by omega)) (rs_90_0 ev23 (by omega) (by omega) (tv_I (show (32 : Int32).toInt = 32 from by decide) (by omega) (by omega))) dL_feed_15 (fun H40 locs40 hC40 hS40 U40 => ?_)
        have hKp40 := Kp.upA g1 rfl (by decide) rfl U40 hKp24
        have m41 : aI H40 h1 z23 = 32 := aI_up U40 ev23 (show (32 : Int32).toInt = 32 from by decide)
        have m42 : aI H40 h1 (20) = aI H24 h1 (20) := aI_un U40 ev23 (by omega)
        have m43 : aI H40 h1 (21) = aI H24 h1 (21) := aI_un U40 ev23 (by omega)
        have m44 : (sI H40 ra (X.1.2 4 1)).toInt = (sI H24 ra (X.1.2 4 1)).toInt := congrArg Int32.toInt (up_nI U40 (ne_k gra g1 (by decide)))
        have ct3 := ct.put U40 ev23 (show (32 : Int32).toInt = 32 from by decide) rfl (nek gtp g1 (by decide))
        obtain ⟨v45, ev45⟩ : ∃ z, z = v23 + Int32.ofInt 1 := ⟨_, rfl⟩
        have ev45i : v45.toInt = (z23 + 1) := i_add ev45 ev23 (by decide) (by omega) (by omega)
        refine lv_iinc hx hb dL_feed_16 hl (k := 0) rfl ev45.symm (by decide) rfl (fun ls hl => ?_)
        replace hl : lv_has ls 3 [(2, .int v45), (0, .ref h0), (1, .ref h1)] := hl
        refine lv_goto (tgt := 5) hx hb dL_feed_19 rfl ?_
        exact ih24 H40 locs40 v45 ((z23 + 1)) ls (ms_lt hm24 (by omega) (by omega)) ev45i (by omega) (by omega) (CT.cast (CT.pads ct3 (by omega)) (by omega) (by omega)) (by omega) (by omega) (by omega) (by omega) hC40 hS40 hKp40 hl
  exact L5 _ H0 [] v21 v21.toInt ls (Nat.lt_succ_self _) rfl (by omega) (by omega) (by rw [show v21.toInt = k9 by omega, Int.sub_self]; exact ct0.pad0) (by omega) (by omega) (by omega) (by omega) hC0 hS0 hKp0 hl
set_option maxRecDepth 100000 in
set_option maxHeartbeats 4000000 in
theorem m_L_put (l : Launch) (X : xW) (Γ : Nat → Option Nat) (H0 : Heap) (hC0 : Conf X Γ H0) (h0 : Nat) (g0 : Γ h0 = some 0) (h1 : Nat) (g1 : Γ h1 = some 90) (p2 : Int32) {a2 : Int} (e2 : p2.toInt = a2) (ra : Nat) (gra : Γ ra = some 2) (ur : ∀ a, Γ a = some 2 → a = ra) (tp : Nat) (htp : sR H0 ra (X.1.2 4 0) = some tp) (gtp : Γ tp = some 25) (txt : List Int) (lt : LT X H0 ra tp h1 txt) (r0 : 0 ≤ a2) (r1 : a2 ≤ 127) (r2 : aI H0 h1 21 ≤ 860) : Ctr l X Γ yL_put cL_put 3 none 3 [.ref h0, .ref h1, .int p2] H0 (QV X Γ (fun H1 => Kp X Γ [31, 32, 33, 34, 37, 39, 40, 50, 51, 52, 53, 54, 55, 56, 57, 58, 59, 60, 61, 62, 63, 65, 67, 68, 69, 71, 72] H0 H1 ∧ ((LT X H1 ra tp h1 (txt ++ [a2])) ∧ (aI H1 h1 21 = aI H0 h1 21 + 1)))) := by
  refine q_enterV (own := "SnowFortsLaw") (by decide) rfl (Nat.le_of_ble_eq_true rfl) ?_
  intro p e s m args below meth c ls Qz E hl ret hS0
  have hx := E.1; have hb := E.2.1
  have hKp0 : Kp X Γ [31, 32, 33, 34, 37, 39, 40, 50, 51, 52, 53, 54, 55, 56, 57, 58, 59, 60, 61, 62, 63, 65, 67, 68, 69, 71, 72] H0 H0 := Kp.rf
  have hl : lv_has ls 3 [(0, .ref h0), (1, .ref h1), (2, .int p2)] := hl
  obtain ⟨F9, k9, ct, hF9, hF20, hk19, hm20, hm21⟩ := lt
  have hk9 := ct.2.1
  have hFn := ct.1
  have ct : CT H0 tp h1 F9 k9 txt := ct
  refine lv_aload_n hx hb dL_put_0 rfl (lv_at hl 1 rfl) ?_
  refine lv_aload_n hx hb dL_put_1 rfl (lv_at hl 1 rfl) ?_
  refine lv_bipush (v := 20) hx hb dL_put_2 rfl ?_
  refine q_iald E hC0 g1 rfl rfl (rl_90_1 (show (20 : Int32).toInt = 20 from by decide) (by omega) (by omega)) (i_in (a := 20) (show (20 : Int32).toInt = 20 from by decide) (by omega) (by omega)) dL_put_4 (fun v21 ev21 lv21 uv21 => ?_)
  have m22 : aI H0 h1 (20) = v21.toInt := aI_of (show (20 : Int32).toInt = 20 from by decide) ev21
  refine lv_iload_n hx hb dL_put_5 rfl (lv_at hl 2 rfl) ?_
  refine q_iast E hC0 hS0 g1 (by decide) rfl rfl (i_in (a := v21.toInt) rfl (by omega) (by omega)) (rs_90_0 rfl (by omega) (by omega) (tv_I e2 (by omega) (by omega))) dL_put_6 (fun H23 locs23 hC23 hS23 U23 => ?_)
  have hKp23 := Kp.upA g1 rfl (by decide) rfl U23 hKp0
  have m24 : aI H23 h1 (v21.toInt) = a2 := aI_up U23 rfl e2
  have m25 : aI H23 h1 (20) = aI H0 h1 (20) := aI_un U23 rfl (by omega)
  have m26 : aI H23 h1 (21) = aI H0 h1 (21) := aI_un U23 rfl (by omega)
  have m27 : (sI H23 ra (X.1.2 4 1)).toInt = (sI H0 ra (X.1.2 4 1)).toInt := congrArg Int32.toInt (up_nI U23 (ne_k gra g1 (by decide)))
  have ct : CT H23 tp h1 F9 (k9 + 1) (txt ++ [a2]) := ct.put U23 rfl e2 (by omega) (nek gtp g1 (by decide))
  refine lv_aload_n hx hb dL_put_7 rfl (lv_at hl 1 rfl) ?_
  refine lv_bipush (v := 20) hx hb dL_put_8 rfl ?_
  refine lv_dup2_11 hx hb dL_put_10 rfl rfl ?_
  refine q_iald E hC23 g1 rfl rfl (rl_90_1 (show (20 : Int32).toInt = 20 from by decide) (by omega) (by omega)) (i_in (a := 20) (show (20 : Int32).toInt = 20 from by decide) (by omega) (by omega)) dL_put_11 (fun v28 ev28 lv28 uv28 => ?_)
  have m29 : aI H23 h1 (20) = v28.toInt := aI_of (show (20 : Int32).toInt = 20 from by decide) ev28
  refine lv_iconst (v := 1) hx hb dL_put_12 rfl ?_
  refine lv_iadd hx hb dL_put_13 (lv_topi (fun v30 ev30 => ?_))
  have ev30i : v30.toInt = (v28.toInt + 1) := i_add ev30 rfl (by decide) (by omega) (by omega)
  refine q_iast E hC23 hS23 g1 (by decide) rfl rfl (i_in (a := 20) (show (20 : Int32).toInt = 20 from by decide) (by omega) (by omega)) (rs_90_1 (show (20 : Int32).toInt = 20 from by decide) (by omega) (by omega) (tv_I ev30i (by omega) (by omega))) dL_put_14 (fun H31 locs31 hC31 hS31 U31 => ?_)
  have hKp31 := Kp.upA g1 rfl (by decide) rfl U31 hKp23
  have m32 : aI H31 h1 (20) = (v28.toInt + 1) := aI_up U31 (show (20 : Int32).toInt = 20 from by decide) ev30i
  have m34 : aI H31 h1 (21) = aI H23 h1 (21) := aI_un U31 (show (20 : Int32).toInt = 20 from by decide) (by omega)
  have m35 : (sI H31 ra (X.1.2 4 1)).toInt = (sI H23 ra (X.1.2 4 1)).toInt := congrArg Int32.toInt (up_nI U31 (ne_k gra g1 (by decide)))
  replace ct : CT H31 tp h1 F9 (k9 + 1) (txt ++ [a2]) := ct.mm U31 (show (20 : Int32).toInt = 20 from by decide) (by omega) (nek gtp g1 (by decide))
  refine lv_aload_n hx hb dL_put_15 rfl (lv_at hl 1 rfl) ?_
  refine lv_bipush (v := 21) hx hb dL_put_16 rfl ?_
  refine lv_dup2_11 hx hb dL_put_18 rfl rfl ?_
  refine q_iald E hC31 g1 rfl rfl (rl_90_2 (show (21 : Int32).toInt = 21 from by decide) (by omega) (by omega)) (i_in (a := 21) (show (21 : Int32).toInt = 21 from by decide) (by omega) (by omega)) dL_put_19 (fun v36 ev36 lv36 uv36 => ?_)
  have m37 : aI H31 h1 (21) = v36.toInt := aI_of (show (21 : Int32).toInt = 21 from by decide) ev36
  refine lv_iconst (v := 1) hx hb dL_put_20 rfl ?_
  refine lv_iadd hx hb dL_put_21 (lv_topi (fun v38 ev38 => ?_))
  have ev38i : v38.toInt = (v36.toInt + 1) := i_add ev38 rfl (by decide) (by omega) (by omega)
  refine q_iast E hC31 hS31 g1 (by decide) rfl rfl (i_in (a := 21) (show (21 : Int32).toInt = 21 from by decide) (by omega) (by omega)) (rs_90_2 (show (21 : Int32).toInt = 21 from by decide) (by omega) (by omega) (tv_I ev38i (by omega) (by omega))) dL_put_22 (fun H39 locs39 hC39 hS39 U39 => ?_)
  have hKp39 := Kp.upA g1 rfl (by decide) rfl U39 hKp31
  have m40 : aI H39 h1 (21) = (v36.toInt + 1) := aI_up U39 (show (21 : Int32).toInt = 21 from by decide) ev38i
  have m41 : aI H39 h1 (20) = aI H31 h1 (20) := aI_un U39 (show (21 : Int32).toInt = 21 from by decide) (by omega)
  have m43 : (sI H39 ra (X.1.2 4 1)).toInt = (sI H31 ra (X.1.2 4 1)).toInt := congrArg Int32.toInt (up_nI U39 (ne_k gra g1 (by decide)))
  replace ct : CT H39 tp h1 F9 (k9 + 1) (txt ++ [a2]) := ct.mm U39 (show (21 : Int32).toInt = 21 from by decide) (by omega) (nek gtp g1 (by decide))
  refine lv_aload_n hx hb dL_put_23 rfl (lv_at hl 1 rfl) ?_
  refine lv_bipush (v := 20) hx hb dL_put_24 rfl ?_
  refine q_iald E hC39 g1 rfl rfl (rl_90_1 (show (20 : Int32).toInt = 20 from by decide) (by omega) (by omega)) (i_in (a := 20) (show (20 : Int32).toInt = 20 from by decide) (by omega) (by omega)) dL_put_26 (fun v44 ev44 lv44 uv44 => ?_)
  have m45 : aI H39 h1 (20) = v44.toInt := aI_of (show (20 : Int32).toInt = 20 from by decide) ev44
  refine lv_bipush (v := 20) hx hb dL_put_27 rfl ?_
  refine q_icmp_ne hx hb (a := v44.toInt) (b := 20) rfl (by decide) (tgt := 37) dL_put_29 rfl (fun c46 => ?_) (fun c46 => ?_)
  · have hlt : LT X H39 ra tp h1 (txt ++ [a2]) := by first | exact ⟨F9, k9 + 1, ct, by omega, by omega, by omega, by omega, by omega⟩ | exact ⟨F9 + 20, 0, ct2, by omega, by omega, by omega, by omega, by omega⟩
    exact ret H39 locs39 _ _ dL_put_37 ⟨hKp39, ⟨hlt, by omega⟩⟩ hC39 hS39
  · refine lv_aload_n hx hb dL_put_32 rfl (lv_at hl 0 rfl) ?_
    refine lv_aload_n hx hb dL_put_33 rfl (lv_at hl 1 rfl) ?_
    refine q_goV (q_runS (As := [.ref h0, .ref h1]) (rest := []) E hS39 (m_L_feed l X Γ H39 hC39 h0 g0 h1 g1 ra gra ur tp ((kp_R hKp39 gra (ci := 4) (k := 0) rfl (by decide) rfl).trans htp) gtp F9 (k9 + 1) _ ct (by omega) (by omega) (by omega) (by omega)) cw_L_feed cl_RL_7 rfl hl.1 rfl (Nat.zero_le _) (by decide) dL_put_34) hS39 (fun H47 locs47 hr47 hC47 hS47 => ?_)
    obtain ⟨hp47, hr47⟩ := hr47
    have hKp47 := hKp39.tr (hp47.mono rfl)
    obtain ⟨f47_0, f47_1, f47_2, f47_3⟩ := hr47
    have ct2 := f47_0.nil (by omega)
    have hlt : LT X H47 ra tp h1 (txt ++ [a2]) := by first | exact ⟨F9, k9 + 1, ct, by omega, by omega, by omega, by omega, by omega⟩ | exact ⟨F9 + 20, 0, ct2, by omega, by omega, by omega, by omega, by omega⟩
    exact ret H47 locs47 _ _ dL_put_37 ⟨hKp47, ⟨hlt, by omega⟩⟩ hC47 hS47
set_option maxRecDepth 100000 in
set_option maxHeartbeats 4000000 in
theorem m_L_say (l : Launch) (X : xW) (Γ : Nat → Option Nat) (H0 : Heap) (hC0 : Conf X Γ H0) (h0 : Nat) (g0 : Γ h0 = some 0) (h1 : Nat) (g1 : Γ h1 = some 90) (i2 : Nat) (b2 : i2 < 15) (ra : Nat) (gra : Γ ra = some 2) (ur : ∀ a, Γ a = some 2 → a = ra) (tp : Nat) (htp : sR H0 ra (X.1.2 4 0) = some tp) (gtp : Γ tp = some 25) (txt : List Int) (lt : LT X H0 ra tp h1 txt) (r0 : aI H0 h1 21 ≤ 840) : Ctr l X Γ yL_say cL_say 4 none 4 [.ref h0, .ref h1, .ref (skd X i2)] H0 (QV X Γ (fun H1 => Kp X Γ [31, 32, 33, 34, 37, 39, 40, 50, 51, 52, 53, 54, 55, 56, 57, 58, 59, 60, 61, 62, 63, 65, 67, 68, 69, 71, 72] H0 H1 ∧ ((LT X H1 ra tp h1 (txt ++ lit i2)) ∧ (aI H1 h1 21 = aI H0 h1 21 + lnI i2)))) := by
  refine q_enterV (own := "SnowFortsLaw") (by decide) rfl (Nat.le_of_ble_eq_true rfl) ?_
  intro p e s m args below meth c ls Qz E hl ret hS0
  have hx := E.1; have hb := E.2.1
  have hKp0 : Kp X Γ [31, 32, 33, 34, 37, 39, 40, 50, 51, 52, 53, 54, 55, 56, 57, 58, 59, 60, 61, 62, 63, 65, 67, 68, 69, 71, 72] H0 H0 := Kp.rf
  have hl : lv_has ls 4 [(0, .ref h0), (1, .ref h1), (2, .ref (skd X i2))] := hl
  have hln0 := ln_bd b2
  refine lv_iconst (v := 0) hx hb dL_say_0 rfl ?_
  refine lv_istore_n hx hb dL_say_1 rfl hl (by decide) rfl (fun ls hl => ?_)
  replace hl : lv_has ls 4 [(3, .int 0), (0, .ref h0), (1, .ref h1), (2, .ref (skd X i2))] := hl
  have L2 : ∀ (n22 : Nat) (H22 : Heap) (locs22 : List Loc) (v21 : Int32) (z21 : Int) (ls : Array Slot), (lnI i2 - z21).toNat < n22 → v21.toInt = z21 → 0 ≤ z21 → LT X H22 ra tp h1 (txt ++ (lit i2).take (z21).toNat) → 0 ≤ z21 → z21 ≤ lnI i2 → aI H22 h1 21 = aI H0 h1 21 + z21 → Conf X Γ H22 → va_S (AΓ Γ) H0 H22 locs22 → Kp X Γ [31, 32, 33, 34, 37, 39, 40, 50, 51, 52, 53, 54, 55, 56, 57, 58, 59, 60, 61, 62, 63, 65, 67, 68, 69, 71, 72] H0 H22 → lv_has ls 4 [(3, .int v21), (0, .ref h0), (1, .ref h1), (2, .ref (skd X i2))] → W p l e (rmL 4) s m args below meth c H22 locs22 0 0 Qz (F0 m 2 ls []) := by
    intro n22
    induction n22 with
    | zero => intro H22 locs22 v21 z21 ls hm22 ev21 iv22_0 iv22_1 iv22_2 iv22_3 iv22_4 hC22 hS22 hKp22 hl; exact absurd hm22 (Nat.not_lt_zero _)
    | succ n22 ih22 =>
      intro H22 locs22 v21 z21 ls hm22 ev21 iv22_0 iv22_1 iv22_2 iv22_3 iv22_4 hC22 hS22 hKp22 hl
      have lt1 := iv22_1
      have hln := ln_bd b2
      refine lv_iload_n hx hb dL_say_2 rfl (lv_at hl 0 rfl) ?_
      refine lv_aload_n hx hb dL_say_3 rfl (lv_at hl 3 rfl) ?_
      refine q_goIp (q_runVS (As := []) (rest := [.int v21]) E hS22 b2 (m_Jlen l X Γ H22 hC22 i2 b2) cw_J0_length_8abf5 cl_RL_22 rfl hl.1 rfl (show _ ≤ _ from by simp [Value.category]) (by decide) dL_say_4) hS22 (fun v23 locs23 hr23 hS23 => ?_)
      have ev23 : v23.toInt = lnI i2 := hr23.1
      have bv23 := hr23.2
      refine q_icmp_ge hx hb (a := z21) (b := (lnI i2)) ev21 ev23 (tgt := 26) dL_say_7 rfl (fun c24 => ?_) (fun c24 => ?_)
      · have lt4 := lt1.lit b2 (by omega)
        exact ret H22 locs23 _ _ dL_say_26 ⟨hKp22, ⟨lt4, by omega⟩⟩ hC22 hS23
      · refine lv_aload_n hx hb dL_say_10 rfl (lv_at hl 1 rfl) ?_
        refine lv_aload_n hx hb dL_say_11 rfl (lv_at hl 2 rfl) ?_
        refine lv_aload_n hx hb dL_say_12 rfl (lv_at hl 3 rfl) ?_
        refine lv_iload_n hx hb dL_say_13 rfl (lv_at hl 0 rfl) ?_
        refine q_goIp (q_runVS (As := [.int v21]) (rest := [.ref h1, .ref h0]) E hS23 b2 (m_Jch l X Γ H22 hC22 i2 b2 v21 ev21 (by omega) (by omega)) cw_J0_charAt_5068e cl_RL_28 rfl hl.1 rfl (show _ ≤ _ from by simp [Value.category]) (by decide) dL_say_14) hS23 (fun v25 locs25 hr25 hS25 => ?_)
        have bv25 := hr25.2
        have ech := hr25.1
        refine q_goV (q_runS (As := [.ref h0, .ref h1, .int v25]) (rest := []) E hS25 (m_L_put l X Γ H22 hC22 h0 g0 h1 g1 v25 (a2 := v25.toInt) rfl ra gra ur tp ((kp_R hKp22 gra (ci := 4) (k := 0) rfl (by decide) rfl).trans htp) gtp _ lt1 (by omega) (by omega) (by omega)) cw_L_put cl_RL_32 rfl hl.1 rfl (Nat.zero_le _) (by decide) dL_say_17) hS25 (fun H26 locs26 hr26 hC26 hS26 => ?_)
        obtain ⟨hp26, hr26⟩ := hr26
        have hKp26 := hKp22.tr (hp26.mono rfl)
        obtain ⟨f26_0, f26_1⟩ := hr26
        have lt2 := f26_0
        have lt3 := lt2.take b2 (by omega) (by omega) ech
        obtain ⟨v28, ev28⟩ : ∃ z, z = v21 + Int32.ofInt 1 := ⟨_, rfl⟩
        have ev28i : v28.toInt = (z21 + 1) := i_add ev28 ev21 (by decide) (by omega) (by omega)
        refine lv_iinc hx hb dL_say_20 hl (k := 0) rfl ev28.symm (by decide) rfl (fun ls hl => ?_)
        replace hl : lv_has ls 4 [(3, .int v28), (0, .ref h0), (1, .ref h1), (2, .ref (skd X i2))] := hl
        refine lv_goto (tgt := 2) hx hb dL_say_23 rfl ?_
        exact ih22 H26 locs26 v28 ((z21 + 1)) ls (ms_lt hm22 (by omega) (by omega)) ev28i (by omega) (lt3) (by omega) (by omega) (by omega) hC26 hS26 hKp26 hl
  exact L2 _ H0 [] 0 0 ls (Nat.lt_succ_self _) (by decide) (by omega) (by rw [show (lit i2).take (0 : Int).toNat = [] from rfl, List.append_nil]; exact lt) (by omega) (by omega) (by omega) hC0 hS0 hKp0 hl
set_option maxRecDepth 100000 in
set_option maxHeartbeats 4000000 in
theorem m_L_number (l : Launch) (X : xW) (Γ : Nat → Option Nat) (H0 : Heap) (hC0 : Conf X Γ H0) (h0 : Nat) (g0 : Γ h0 = some 0) (h1 : Nat) (g1 : Γ h1 = some 90) (p2 : Int32) {a2 : Int} (e2 : p2.toInt = a2) (ra : Nat) (gra : Γ ra = some 2) (ur : ∀ a, Γ a = some 2 → a = ra) (tp : Nat) (htp : sR H0 ra (X.1.2 4 0) = some tp) (gtp : Γ tp = some 25) (txt : List Int) (lt : LT X H0 ra tp h1 txt) (r0 : 0 ≤ a2) (r1 : a2 ≤ 99) (r2 : aI H0 h1 21 ≤ 840) : Ctr l X Γ yL_number cL_number 3 none 4 [.ref h0, .ref h1, .int p2] H0 (QV X Γ (fun H1 => Kp X Γ [31, 32, 33, 34, 37, 39, 40, 50, 51, 52, 53, 54, 55, 56, 57, 58, 59, 60, 61, 62, 63, 65, 67, 68, 69, 71, 72] H0 H1 ∧ ((LT X H1 ra tp h1 (txt ++ nuB a2)) ∧ (aI H1 h1 21 ≤ aI H0 h1 21 + 3)))) := by
  refine q_enterV (own := "SnowFortsLaw") (by decide) rfl (Nat.le_of_ble_eq_true rfl) ?_
  intro p e s m args below meth c ls Qz E hl ret hS0
  have hx := E.1; have hb := E.2.1
  have hKp0 : Kp X Γ [31, 32, 33, 34, 37, 39, 40, 50, 51, 52, 53, 54, 55, 56, 57, 58, 59, 60, 61, 62, 63, 65, 67, 68, 69, 71, 72] H0 H0 := Kp.rf
  have hl : lv_has ls 3 [(0, .ref h0), (1, .ref h1), (2, .int p2)] := hl
  refine lv_aload_n hx hb dL_number_0 rfl (lv_at hl 0 rfl) ?_
  refine lv_aload_n hx hb dL_number_1 rfl (lv_at hl 1 rfl) ?_
  refine lv_bipush (v := 32) hx hb dL_number_2 rfl ?_
  refine q_goV (q_runS (As := [.ref h0, .ref h1, .int 32]) (rest := []) E hS0 (m_L_put l X Γ H0 hC0 h0 g0 h1 g1 32 (a2 := 32) (by decide) ra gra ur tp htp gtp _ lt (by omega) (by omega) (by omega)) cw_L_put cl_RL_32 rfl hl.1 rfl (Nat.zero_le _) (by decide) dL_number_4) hS0 (fun H21 locs21 hr21 hC21 hS21 => ?_)
  obtain ⟨hp21, hr21⟩ := hr21
  have hKp21 := hKp0.tr (hp21.mono rfl)
  obtain ⟨f21_0, f21_1⟩ := hr21
  have lt1 := f21_0
  refine lv_iload_n hx hb dL_number_7 rfl (lv_at hl 2 rfl) ?_
  refine lv_bipush (v := 99) hx hb dL_number_8 rfl ?_
  refine q_icmp_le hx hb (a := a2) (b := 99) e2 (by decide) (tgt := 25) dL_number_10 rfl (fun c23 => ?_) (fun c23 => absurd c23 (by omega))
  refine lv_iload_n hx hb dL_number_25 rfl (lv_at hl 2 rfl) ?_
  refine lv_bipush (v := 9) hx hb dL_number_26 rfl ?_
  refine q_icmp_le hx hb (a := a2) (b := 9) e2 (by decide) (tgt := 46) dL_number_28 rfl (fun c24 => ?_) (fun c24 => ?_)
  · refine lv_aload_n hx hb dL_number_46 rfl (lv_at hl 0 rfl) ?_
    refine lv_aload_n hx hb dL_number_47 rfl (lv_at hl 1 rfl) ?_
    refine lv_bipush (v := 48) hx hb dL_number_48 rfl ?_
    refine lv_iload_n hx hb dL_number_50 rfl (lv_at hl 2 rfl) ?_
    refine lv_bipush (v := 10) hx hb dL_number_51 rfl ?_
    refine lv_irem hx hb dL_number_53 (by decide) (lv_topi (fun v25 ev25 => ?_))
    have ev25i : v25.toInt = (a2 % 10) := i_rem ev25 e2 (by decide) (by omega) (by decide)
    refine lv_iadd hx hb dL_number_54 (lv_topi (fun v26 ev26 => ?_))
    have ev26i : v26.toInt = (48 + (a2 % 10)) := i_add ev26 (by decide) ev25i (by omega) (by omega)
    refine q_goV (q_runS (As := [.ref h0, .ref h1, .int v26]) (rest := []) E hS21 (m_L_put l X Γ H21 hC21 h0 g0 h1 g1 v26 (a2 := (48 + (a2 % 10))) ev26i ra gra ur tp ((kp_R hKp21 gra (ci := 4) (k := 0) rfl (by decide) rfl).trans htp) gtp _ lt1 (by omega) (by omega) (by omega)) cw_L_put cl_RL_32 rfl hl.1 rfl (Nat.zero_le _) (by decide) dL_number_55) hS21 (fun H27 locs27 hr27 hC27 hS27 => ?_)
    obtain ⟨hp27, hr27⟩ := hr27
    have hKp27 := hKp21.tr (hp27.mono rfl)
    obtain ⟨f27_0, f27_1⟩ := hr27
    have lt1 := f27_0
    have hlt : LT X H27 ra tp h1 (txt ++ nuB a2) := by
      unfold nuB
      have e := lt1
      first | rw [if_pos (by omega)] | rw [if_neg (by omega)]
      simp only [List.append_assoc, List.cons_append, List.nil_append] at e ⊢
      exact e
    exact ret H27 locs27 _ _ dL_number_58 ⟨hKp27, ⟨hlt, by omega⟩⟩ hC27 hS27
  · refine lv_aload_n hx hb dL_number_31 rfl (lv_at hl 0 rfl) ?_
    refine lv_aload_n hx hb dL_number_32 rfl (lv_at hl 1 rfl) ?_
    refine lv_bipush (v := 48) hx hb dL_number_33 rfl ?_
    refine lv_iload_n hx hb dL_number_35 rfl (lv_at hl 2 rfl) ?_
    refine lv_bipush (v := 10) hx hb dL_number_36 rfl ?_
    refine lv_idiv hx hb dL_number_38 (by decide) (lv_topi (fun v29 ev29 => ?_))
    have ev29i : v29.toInt = (a2 / 10) := i_div ev29 e2 (by decide) (by omega) (by decide)
    refine lv_bipush (v := 10) hx hb dL_number_39 rfl ?_
    refine lv_irem hx hb dL_number_41 (by decide) (lv_topi (fun v30 ev30 => ?_))
    have ev30i : v30.toInt = ((a2 / 10) % 10) := i_rem ev30 ev29i (by decide) (by omega) (by decide)
    refine lv_iadd hx hb dL_number_42 (lv_topi (fun v31 ev31 => ?_))
    have ev31i : v31.toInt = (48 + ((a2 / 10) % 10)) := i_add ev31 (by decide) ev30i (by omega) (by omega)
    refine q_goV (q_runS (As := [.ref h0, .ref h1, .int v31]) (rest := []) E hS21 (m_L_put l X Γ H21 hC21 h0 g0 h1 g1 v31 (a2 := (48 + ((a2 / 10) % 10))) ev31i ra gra ur tp ((kp_R hKp21 gra (ci := 4) (k := 0) rfl (by decide) rfl).trans htp) gtp _ lt1 (by omega) (by omega) (by omega)) cw_L_put cl_RL_32 rfl hl.1 rfl (Nat.zero_le _) (by decide) dL_number_43) hS21 (fun H32 locs32 hr32 hC32 hS32 => ?_)
    obtain ⟨hp32, hr32⟩ := hr32
    have hKp32 := hKp21.tr (hp32.mono rfl)
    obtain ⟨f32_0, f32_1⟩ := hr32
    have lt1 := f32_0
    refine lv_aload_n hx hb dL_number_46 rfl (lv_at hl 0 rfl) ?_
    refine lv_aload_n hx hb dL_number_47 rfl (lv_at hl 1 rfl) ?_
    refine lv_bipush (v := 48) hx hb dL_number_48 rfl ?_
    refine lv_iload_n hx hb dL_number_50 rfl (lv_at hl 2 rfl) ?_
    refine lv_bipush (v := 10) hx hb dL_number_51 rfl ?_
    refine lv_irem hx hb dL_number_53 (by decide) (lv_topi (fun v34 ev34 => ?_))
    have ev34i : v34.toInt = (a2 % 10) := i_rem ev34 e2 (by decide) (by omega) (by decide)
    refine lv_iadd hx hb dL_number_54 (lv_topi (fun v35 ev35 => ?_))
    have ev35i : v35.toInt = (48 + (a2 % 10)) := i_add ev35 (by decide) ev34i (by omega) (by omega)
    refine q_goV (q_runS (As := [.ref h0, .ref h1, .int v35]) (rest := []) E hS32 (m_L_put l X Γ H32 hC32 h0 g0 h1 g1 v35 (a2 := (48 + (a2 % 10))) ev35i ra gra ur tp ((kp_R hKp32 gra (ci := 4) (k := 0) rfl (by decide) rfl).trans htp) gtp _ lt1 (by omega) (by omega) (by omega)) cw_L_put cl_RL_32 rfl hl.1 rfl (Nat.zero_le _) (by decide) dL_number_55) hS32 (fun H36 locs36 hr36 hC36 hS36 => ?_)
    obtain ⟨hp36, hr36⟩ := hr36
    have hKp36 := hKp32.tr (hp36.mono rfl)
    obtain ⟨f36_0, f36_1⟩ := hr36
    have lt1 := f36_0
    have hlt : LT X H36 ra tp h1 (txt ++ nuB a2) := by
      unfold nuB
      have e := lt1
      first | rw [if_pos (by omega)] | rw [if_neg (by omega)]
      simp only [List.append_assoc, List.cons_append, List.nil_append] at e ⊢
      exact e
    exact ret H36 locs36 _ _ dL_number_58 ⟨hKp36, ⟨hlt, by omega⟩⟩ hC36 hS36
set_option maxRecDepth 100000 in
set_option maxHeartbeats 4000000 in
theorem m_L_place (l : Launch) (X : xW) (Γ : Nat → Option Nat) (H0 : Heap) (hC0 : Conf X Γ H0) (h0 : Nat) (g0 : Γ h0 = some 0) (h1 : Nat) (g1 : Γ h1 = some 90) (p2 : Int32) {a2 : Int} (e2 : p2.toInt = a2) (ra : Nat) (gra : Γ ra = some 2) (ur : ∀ a, Γ a = some 2 → a = ra) (tp : Nat) (htp : sR H0 ra (X.1.2 4 0) = some tp) (gtp : Γ tp = some 25) (txt : List Int) (lt : LT X H0 ra tp h1 txt) (r0 : 0 ≤ a2) (r1 : a2 ≤ 35) (r2 : aI H0 h1 21 ≤ 830) : Ctr l X Γ yL_place cL_place 3 none 5 [.ref h0, .ref h1, .int p2] H0 (QV X Γ (fun H1 => Kp X Γ [31, 32, 33, 34, 37, 39, 40, 50, 51, 52, 53, 54, 55, 56, 57, 58, 59, 60, 61, 62, 63, 65, 67, 68, 69, 71, 72] H0 H1 ∧ ((LT X H1 ra tp h1 ((txt ++ nuB (a2 % 6)) ++ nuB (a2 / 6))) ∧ (aI H1 h1 21 ≤ aI H0 h1 21 + 6)))) := by
  refine q_enterV (own := "SnowFortsLaw") (by decide) rfl (Nat.le_of_ble_eq_true rfl) ?_
  intro p e s m args below meth c ls Qz E hl ret hS0
  have hx := E.1; have hb := E.2.1
  have hKp0 : Kp X Γ [31, 32, 33, 34, 37, 39, 40, 50, 51, 52, 53, 54, 55, 56, 57, 58, 59, 60, 61, 62, 63, 65, 67, 68, 69, 71, 72] H0 H0 := Kp.rf
  have hl : lv_has ls 3 [(0, .ref h0), (1, .ref h1), (2, .int p2)] := hl
  refine lv_aload_n hx hb dL_place_0 rfl (lv_at hl 0 rfl) ?_
  refine lv_aload_n hx hb dL_place_1 rfl (lv_at hl 1 rfl) ?_
  refine lv_iload_n hx hb dL_place_2 rfl (lv_at hl 2 rfl) ?_
  refine lv_bipush (v := 6) hx hb dL_place_3 rfl ?_
  refine lv_irem hx hb dL_place_5 (by decide) (lv_topi (fun v21 ev21 => ?_))
  have ev21i : v21.toInt = (a2 % 6) := i_rem ev21 e2 (by decide) (by omega) (by decide)
  refine q_goV (q_runS (As := [.ref h0, .ref h1, .int v21]) (rest := []) E hS0 (m_L_number l X Γ H0 hC0 h0 g0 h1 g1 v21 (a2 := (a2 % 6)) ev21i ra gra ur tp htp gtp _ lt (by omega) (by omega) (by omega)) cw_L_number cl_RL_43 rfl hl.1 rfl (Nat.zero_le _) (by decide) dL_place_6) hS0 (fun H22 locs22 hr22 hC22 hS22 => ?_)
  obtain ⟨hp22, hr22⟩ := hr22
  have hKp22 := hKp0.tr (hp22.mono rfl)
  obtain ⟨f22_0, f22_1⟩ := hr22
  have lt1 := f22_0
  refine lv_aload_n hx hb dL_place_9 rfl (lv_at hl 0 rfl) ?_
  refine lv_aload_n hx hb dL_place_10 rfl (lv_at hl 1 rfl) ?_
  refine lv_iload_n hx hb dL_place_11 rfl (lv_at hl 2 rfl) ?_
  refine lv_bipush (v := 6) hx hb dL_place_12 rfl ?_
  refine lv_idiv hx hb dL_place_14 (by decide) (lv_topi (fun v24 ev24 => ?_))
  have ev24i : v24.toInt = (a2 / 6) := i_div ev24 e2 (by decide) (by omega) (by decide)
  refine q_goV (q_runS (As := [.ref h0, .ref h1, .int v24]) (rest := []) E hS22 (m_L_number l X Γ H22 hC22 h0 g0 h1 g1 v24 (a2 := (a2 / 6)) ev24i ra gra ur tp ((kp_R hKp22 gra (ci := 4) (k := 0) rfl (by decide) rfl).trans htp) gtp _ lt1 (by omega) (by omega) (by omega)) cw_L_number cl_RL_43 rfl hl.1 rfl (Nat.zero_le _) (by decide) dL_place_15) hS22 (fun H25 locs25 hr25 hC25 hS25 => ?_)
  obtain ⟨hp25, hr25⟩ := hr25
  have hKp25 := hKp22.tr (hp25.mono rfl)
  obtain ⟨f25_0, f25_1⟩ := hr25
  have lt1 := f25_0
  exact ret H25 locs25 _ _ dL_place_18 ⟨hKp25, ⟨lt1, by omega⟩⟩ hC25 hS25
set_option maxRecDepth 100000 in
set_option maxHeartbeats 4000000 in
theorem m_L_row (l : Launch) (X : xW) (Γ : Nat → Option Nat) (H0 : Heap) (hC0 : Conf X Γ H0) (h0 : Nat) (g0 : Γ h0 = some 0) (h1 : Nat) (g1 : Γ h1 = some 90) (i2 : Nat) (b2 : i2 < 15) (p3 : Int32) {a3 : Int} (e3 : p3.toInt = a3) (i4 : Nat) (b4 : i4 < 15) (p5 : Int32) {a5 : Int} (e5 : p5.toInt = a5) (ra : Nat) (gra : Γ ra = some 2) (ur : ∀ a, Γ a = some 2 → a = ra) (tp : Nat) (htp : sR H0 ra (X.1.2 4 0) = some tp) (gtp : Γ tp = some 25) (txt : List Int) (lt : LT X H0 ra tp h1 txt) (r0 : 0 ≤ a3) (r1 : a3 ≤ 35) (r2 : 0 ≤ a5) (r3 : a5 ≤ 24) (r4 : aI H0 h1 21 ≤ 810) (r5 : lnI i2 ≤ 4) (r6 : lnI i4 ≤ 5) : Ctr l X Γ yL_row cL_row 6 none 6 [.ref h0, .ref h1, .ref (skd X i2), .int p3, .ref (skd X i4), .int p5] H0 (QV X Γ (fun H1 => Kp X Γ [31, 32, 33, 34, 37, 39, 40, 50, 51, 52, 53, 54, 55, 56, 57, 58, 59, 60, 61, 62, 63, 65, 67, 68, 69, 71, 72] H0 H1 ∧ ((LT X H1 ra tp h1 (txt ++ rwB i2 a3 i4 a5)) ∧ (aI H1 h1 21 ≤ aI H0 h1 21 + 19)))) := by
  refine q_enterV (own := "SnowFortsLaw") (by decide) rfl (Nat.le_of_ble_eq_true rfl) ?_
  intro p e s m args below meth c ls Qz E hl ret hS0
  have hx := E.1; have hb := E.2.1
  have hKp0 : Kp X Γ [31, 32, 33, 34, 37, 39, 40, 50, 51, 52, 53, 54, 55, 56, 57, 58, 59, 60, 61, 62, 63, 65, 67, 68, 69, 71, 72] H0 H0 := Kp.rf
  have hl : lv_has ls 6 [(0, .ref h0), (1, .ref h1), (2, .ref (skd X i2)), (3, .int p3), (4, .ref (skd X i4)), (5, .int p5)] := hl
  have hn2 := ln_bd b2; have hn4 := ln_bd b4
  refine lv_iload hx hb dL_row_0 (lv_at hl 5 rfl) ?_
  refine q_if_ne hx hb (a := a5) e5 (tgt := 6) dL_row_2 rfl (fun c21 => ?_) (fun c21 => ?_)
  · refine lv_aload_n hx hb dL_row_6 rfl (lv_at hl 0 rfl) ?_
    refine lv_aload_n hx hb dL_row_7 rfl (lv_at hl 1 rfl) ?_
    refine lv_aload_n hx hb dL_row_8 rfl (lv_at hl 2 rfl) ?_
    refine q_goV (q_runS (As := [.ref h0, .ref h1, .ref (skd X i2)]) (rest := []) E hS0 (m_L_say l X Γ H0 hC0 h0 g0 h1 g1 i2 b2 ra gra ur tp htp gtp _ lt (by omega)) cw_L_say cl_RL_48 rfl hl.1 rfl (Nat.zero_le _) (by decide) dL_row_9) hS0 (fun H22 locs22 hr22 hC22 hS22 => ?_)
    obtain ⟨hp22, hr22⟩ := hr22
    have hKp22 := hKp0.tr (hp22.mono rfl)
    obtain ⟨f22_0, f22_1⟩ := hr22
    have lt1 := f22_0
    refine lv_aload_n hx hb dL_row_12 rfl (lv_at hl 0 rfl) ?_
    refine lv_aload_n hx hb dL_row_13 rfl (lv_at hl 1 rfl) ?_
    refine lv_iload_n hx hb dL_row_14 rfl (lv_at hl 3 rfl) ?_
    refine q_goV (q_runS (As := [.ref h0, .ref h1, .int p3]) (rest := []) E hS22 (m_L_place l X Γ H22 hC22 h0 g0 h1 g1 p3 (a2 := a3) e3 ra gra ur tp ((kp_R hKp22 gra (ci := 4) (k := 0) rfl (by decide) rfl).trans htp) gtp _ lt1 (by omega) (by omega) (by omega)) cw_L_place cl_RL_88 rfl hl.1 rfl (Nat.zero_le _) (by decide) dL_row_15) hS22 (fun H24 locs24 hr24 hC24 hS24 => ?_)
    obtain ⟨hp24, hr24⟩ := hr24
    have hKp24 := hKp22.tr (hp24.mono rfl)
    obtain ⟨f24_0, f24_1⟩ := hr24
    have lt1 := f24_0
    refine lv_aload_n hx hb dL_row_18 rfl (lv_at hl 0 rfl) ?_
    refine lv_aload_n hx hb dL_row_19 rfl (lv_at hl 1 rfl) ?_
    refine lv_aload hx hb dL_row_20 (lv_at hl 4 rfl) ?_
    refine q_goV (q_runS (As := [.ref h0, .ref h1, .ref (skd X i4)]) (rest := []) E hS24 (m_L_say l X Γ H24 hC24 h0 g0 h1 g1 i4 b4 ra gra ur tp ((kp_R hKp24 gra (ci := 4) (k := 0) rfl (by decide) rfl).trans htp) gtp _ lt1 (by omega)) cw_L_say cl_RL_48 rfl hl.1 rfl (Nat.zero_le _) (by decide) dL_row_22) hS24 (fun H26 locs26 hr26 hC26 hS26 => ?_)
    obtain ⟨hp26, hr26⟩ := hr26
    have hKp26 := hKp24.tr (hp26.mono rfl)
    obtain ⟨f26_0, f26_1⟩ := hr26
    have lt1 := f26_0
    refine lv_aload_n hx hb dL_row_25 rfl (lv_at hl 0 rfl) ?_
    refine lv_aload_n hx hb dL_row_26 rfl (lv_at hl 1 rfl) ?_
    refine lv_iload hx hb dL_row_27 (lv_at hl 5 rfl) ?_
    refine q_goV (q_runS (As := [.ref h0, .ref h1, .int p5]) (rest := []) E hS26 (m_L_number l X Γ H26 hC26 h0 g0 h1 g1 p5 (a2 := a5) e5 ra gra ur tp ((kp_R hKp26 gra (ci := 4) (k := 0) rfl (by decide) rfl).trans htp) gtp _ lt1 (by omega) (by omega) (by omega)) cw_L_number cl_RL_43 rfl hl.1 rfl (Nat.zero_le _) (by decide) dL_row_29) hS26 (fun H28 locs28 hr28 hC28 hS28 => ?_)
    obtain ⟨hp28, hr28⟩ := hr28
    have hKp28 := hKp26.tr (hp28.mono rfl)
    obtain ⟨f28_0, f28_1⟩ := hr28
    have lt1 := f28_0
    refine lv_aload_n hx hb dL_row_32 rfl (lv_at hl 0 rfl) ?_
    refine lv_aload_n hx hb dL_row_33 rfl (lv_at hl 1 rfl) ?_
    refine q_ldcS E hS28 (i := 2) (by decide) dL_row_34 ?_
    refine q_goV (q_runS (As := [.ref h0, .ref h1, .ref (skd X 2)]) (rest := []) E hS28 (m_L_say l X Γ H28 hC28 h0 g0 h1 g1 2 (by decide) ra gra ur tp ((kp_R hKp28 gra (ci := 4) (k := 0) rfl (by decide) rfl).trans htp) gtp _ lt1 (by omega)) cw_L_say cl_RL_48 rfl hl.1 rfl (Nat.zero_le _) (by decide) dL_row_36) hS28 (fun H30 locs30 hr30 hC30 hS30 => ?_)
    obtain ⟨hp30, hr30⟩ := hr30
    have hKp30 := hKp28.tr (hp30.mono rfl)
    obtain ⟨f30_0, f30_1⟩ := hr30
    have lt1 := f30_0
    have hl2 : lnI 2 = 1 := by decide
    have hlt : LT X H30 ra tp h1 (txt ++ rwB i2 a3 i4 a5) := by
      unfold rwB
      have e := lt1
      rw [if_neg (by omega)]
      simp only [List.append_assoc] at e ⊢
      exact e
    exact ret H30 locs30 _ _ dL_row_39 ⟨hKp30, ⟨hlt, by omega⟩⟩ hC30 hS30
  · have hlt : LT X H0 ra tp h1 (txt ++ rwB i2 a3 i4 a5) := by unfold rwB; rw [if_pos (by omega), List.append_nil]; exact lt
    exact ret H0 [] _ _ dL_row_5 ⟨hKp0, ⟨hlt, by omega⟩⟩ hC0 hS0
set_option maxRecDepth 100000 in
set_option maxHeartbeats 4000000 in
theorem m_L_load (l : Launch) (X : xW) (Γ : Nat → Option Nat) (H0 : Heap) (hC0 : Conf X Γ H0) (h0 : Nat) (g0 : Γ h0 = some 0) (h1 : Nat) (g1 : Γ h1 = some 90) (ra : Nat) (gra : Γ ra = some 2) (ur : ∀ a, Γ a = some 2 → a = ra) (tp : Nat) (htp : sR H0 ra (X.1.2 4 0) = some tp) (gtp : Γ tp = some 25) (txt : List Int) (lt : LT X H0 ra tp h1 txt) (r0 : aI H0 h1 21 ≤ 840) : Ctr l X Γ yL_load cL_load 3 (some .int) 8 [.ref h0, .ref h1] H0 (QI X Γ (fun v H1 => Kp X Γ [37, 67, 68, 69, 71] H0 H1 ∧ ((∃ b : Nat → Int, (∀ j : Nat, j < txt.length → b j = txt.getD j 0) ∧ ∃ (kd vl w3 : Nat → Int) (pos : Nat → Nat) (N : Nat), TKS b txt.length N pos kd vl w3 ∧ ((∃ w h T, gYard kd vl w h ∧ gFin kd vl 1000 (Si0 vl) 5 T ∧ v.toInt = w * h ∧ YD0 X Γ H1 h0 w h T.2.2.1) ∨ ∀ w h, ¬ gYard kd vl w h))))) := by
  refine q_enterI (own := "SnowFortsLaw") (by decide) rfl (Nat.le_of_ble_eq_true rfl) ?_
  intro p e s m args below meth c ls Qz E hl ret hS0
  have hx := E.1; have hb := E.2.1
  have hKp0 : Kp X Γ [37, 67, 68, 69, 71] H0 H0 := Kp.rf
  have hl : lv_has ls 3 [(0, .ref h0), (1, .ref h1)] := hl
  obtain ⟨F9, k9, ct, hF9, hF20, hk19, hm20, hm21⟩ := lt
  have hk9 := ct.2.1
  have hFn := ct.1
  have hlen := ct.2.2.1
  refine lv_aload_n hx hb dL_load_0 rfl (lv_at hl 1 rfl) ?_
  refine lv_bipush (v := 21) hx hb dL_load_1 rfl ?_
  refine q_iald E hC0 g1 rfl rfl (rl_90_2 (show (21 : Int32).toInt = 21 from by decide) (by omega) (by omega)) (i_in (a := 21) (show (21 : Int32).toInt = 21 from by decide) (by omega) (by omega)) dL_load_3 (fun v21 ev21 lv21 uv21 => ?_)
  have m22 : aI H0 h1 (21) = v21.toInt := aI_of (show (21 : Int32).toInt = 21 from by decide) ev21
  refine lv_istore_n hx hb dL_load_4 rfl hl (by decide) rfl (fun ls hl => ?_)
  replace hl : lv_has ls 3 [(2, .int v21), (0, .ref h0), (1, .ref h1)] := hl
  refine lv_aload_n hx hb dL_load_5 rfl (lv_at hl 2 rfl) ?_
  refine lv_bipush (v := 20) hx hb dL_load_6 rfl ?_
  refine q_iald E hC0 g1 rfl rfl (rl_90_1 (show (20 : Int32).toInt = 20 from by decide) (by omega) (by omega)) (i_in (a := 20) (show (20 : Int32).toInt = 20 from by decide) (by omega) (by omega)) dL_load_8 (fun v23 ev23 lv23 uv23 => ?_)
  have m24 : aI H0 h1 (20) = v23.toInt := aI_of (show (20 : Int32).toInt = 20 from by decide) ev23
  refine q_if_le hx hb (a := v23.toInt) rfl (tgt := 17) dL_load_9 rfl (fun c25 => ?_) (fun c25 => ?_)
  · refine lv_aload_n hx hb dL_load_17 rfl (lv_at hl 2 rfl) ?_
    refine lv_bipush (v := 21) hx hb dL_load_18 rfl ?_
    refine lv_iconst (v := 0) hx hb dL_load_20 rfl ?_
    refine q_iast E hC0 hS0 g1 (by decide) rfl rfl (i_in (a := 21) (show (21 : Int32).toInt = 21 from by decide) (by omega) (by omega)) (rs_90_2 (show (21 : Int32).toInt = 21 from by decide) (by omega) (by omega) (tv_I (show (0 : Int32).toInt = 0 from by decide) (by omega) (by omega))) dL_load_21 (fun H26 locs26 hC26 hS26 U26 => ?_)
    have hKp26 := Kp.upA g1 rfl (by decide) rfl U26 hKp0
    have m27 : aI H26 h1 (21) = 0 := aI_up U26 (show (21 : Int32).toInt = 21 from by decide) (show (0 : Int32).toInt = 0 from by decide)
    have m28 : aI H26 h1 (20) = aI H0 h1 (20) := aI_un U26 (show (21 : Int32).toInt = 21 from by decide) (by omega)
    have m30 : (sI H26 ra (X.1.2 4 1)).toInt = (sI H0 ra (X.1.2 4 1)).toInt := congrArg Int32.toInt (up_nI U26 (ne_k gra g1 (by decide)))
    have hby : ∀ j : Int, 0 ≤ j → j < (txt.length : Int) → aI H26 tp j = tg txt j := fun j j0 j1 => by
      rw [aI_ne U26 (nek g1 gtp (by decide))]
      first | exact (ct2.2.2.2.1 j j0 (by omega)).trans (tg_pad j0 j1) | exact ct.2.2.2.1 j j0 (by omega)
    refine lv_aload_n hx hb dL_load_22 rfl (lv_at hl 2 rfl) ?_
    refine lv_bipush (v := 22) hx hb dL_load_23 rfl ?_
    refine q_iald E hC26 g1 rfl rfl (rl_90_3 (show (22 : Int32).toInt = 22 from by decide) (by omega) (by omega)) (i_in (a := 22) (show (22 : Int32).toInt = 22 from by decide) (by omega) (by omega)) dL_load_25 (fun v31 ev31 lv31 uv31 => ?_)
    have m32 : aI H26 h1 (22) = v31.toInt := aI_of (show (22 : Int32).toInt = 22 from by decide) ev31
    refine q_if_ne hx hb (a := v31.toInt) rfl (tgt := 37) dL_load_26 rfl (fun c33 => absurd c33 (by omega)) (fun c33 => ?_)
    refine lv_aload_n hx hb dL_load_29 rfl (lv_at hl 1 rfl) ?_
    refine lv_iload_n hx hb dL_load_30 rfl (lv_at hl 0 rfl) ?_
    refine q_goI (q_runV (As := [.int v21]) (rest := []) E hC26 hS26 (m_X11_yard l X Γ H26 hC26 h0 g0 v21 (a1 := v21.toInt) rfl ra gra ur tp ((kp_R hKp26 gra (ci := 4) (k := 0) rfl (by decide) rfl).trans htp) gtp (by omega) (by omega)) cw_X11_yard cl_RL_36 g0 ⟨rfl, rfl⟩ rfl hl.1 rfl (Nat.zero_le _) (by decide) dL_load_31) hS26 (fun v34 H34 locs34 hr34 hC34 hS34 => ?_)
    obtain ⟨hp34, hr34⟩ := hr34
    have hKp34 := hKp26.tr (hp34.mono rfl)
    have m35 : aI H34 h1 (20) = aI H26 h1 (20) := aI_kp hp34 g1 rfl rfl
    have m36 : aI H34 h1 (21) = aI H26 h1 (21) := aI_kp hp34 g1 rfl rfl
    have f34_0 := hr34
    have hyd := f34_0
    refine lv_goto (tgt := 42) hx hb dL_load_34 rfl ?_
    obtain ⟨kd, vl, w3, pos, N, htk, hyy⟩ := hyd
    rw [show (v21.toInt : Int).toNat = txt.length by omega] at htk
    have hld : ∃ b : Nat → Int, (∀ j : Nat, j < txt.length → b j = txt.getD j 0) ∧ ∃ (kd vl w3 : Nat → Int) (pos : Nat → Nat) (N : Nat), TKS b txt.length N pos kd vl w3 ∧ ((∃ w h T, gYard kd vl w h ∧ gFin kd vl 1000 (Si0 vl) 5 T ∧ (v34 : Int32).toInt = w * h ∧ YD0 X Γ H34 h0 w h T.2.2.1) ∨ ∀ w h, ¬ gYard kd vl w h) := ⟨_, fun j hj => hby j (by omega) (by omega), kd, vl, w3, pos, N, htk, hyy⟩
    have c38 : v34.toInt = v34.toInt := rfl
    exact ret v34 H34 locs34 _ _ dL_load_42 ⟨hKp34, hld⟩ hC34 hS34
  · refine lv_aload_n hx hb dL_load_12 rfl (lv_at hl 1 rfl) ?_
    refine lv_aload_n hx hb dL_load_13 rfl (lv_at hl 2 rfl) ?_
    refine q_goV (q_runS (As := [.ref h0, .ref h1]) (rest := []) E hS0 (m_L_feed l X Γ H0 hC0 h0 g0 h1 g1 ra gra ur tp htp gtp F9 k9 _ ct (by omega) (by omega) (by omega) (by omega)) cw_L_feed cl_RL_7 rfl hl.1 rfl (Nat.zero_le _) (by decide) dL_load_14) hS0 (fun H39 locs39 hr39 hC39 hS39 => ?_)
    obtain ⟨hp39, hr39⟩ := hr39
    have hKp39 := hKp0.tr (hp39.mono rfl)
    obtain ⟨f39_0, f39_1, f39_2, f39_3⟩ := hr39
    have ct2 := f39_0
    refine lv_aload_n hx hb dL_load_17 rfl (lv_at hl 2 rfl) ?_
    refine lv_bipush (v := 21) hx hb dL_load_18 rfl ?_
    refine lv_iconst (v := 0) hx hb dL_load_20 rfl ?_
    refine q_iast E hC39 hS39 g1 (by decide) rfl rfl (i_in (a := 21) (show (21 : Int32).toInt = 21 from by decide) (by omega) (by omega)) (rs_90_2 (show (21 : Int32).toInt = 21 from by decide) (by omega) (by omega) (tv_I (show (0 : Int32).toInt = 0 from by decide) (by omega) (by omega))) dL_load_21 (fun H43 locs43 hC43 hS43 U43 => ?_)
    have hKp43 := Kp.upA g1 rfl (by decide) rfl U43 hKp39
    have m44 : aI H43 h1 (21) = 0 := aI_up U43 (show (21 : Int32).toInt = 21 from by decide) (show (0 : Int32).toInt = 0 from by decide)
    have m45 : aI H43 h1 (20) = aI H39 h1 (20) := aI_un U43 (show (21 : Int32).toInt = 21 from by decide) (by omega)
    have m47 : (sI H43 ra (X.1.2 4 1)).toInt = (sI H39 ra (X.1.2 4 1)).toInt := congrArg Int32.toInt (up_nI U43 (ne_k gra g1 (by decide)))
    have hby : ∀ j : Int, 0 ≤ j → j < (txt.length : Int) → aI H43 tp j = tg txt j := fun j j0 j1 => by
      rw [aI_ne U43 (nek g1 gtp (by decide))]
      first | exact (ct2.2.2.2.1 j j0 (by omega)).trans (tg_pad j0 j1) | exact ct.2.2.2.1 j j0 (by omega)
    refine lv_aload_n hx hb dL_load_22 rfl (lv_at hl 2 rfl) ?_
    refine lv_bipush (v := 22) hx hb dL_load_23 rfl ?_
    refine q_iald E hC43 g1 rfl rfl (rl_90_3 (show (22 : Int32).toInt = 22 from by decide) (by omega) (by omega)) (i_in (a := 22) (show (22 : Int32).toInt = 22 from by decide) (by omega) (by omega)) dL_load_25 (fun v48 ev48 lv48 uv48 => ?_)
    have m49 : aI H43 h1 (22) = v48.toInt := aI_of (show (22 : Int32).toInt = 22 from by decide) ev48
    refine q_if_ne hx hb (a := v48.toInt) rfl (tgt := 37) dL_load_26 rfl (fun c50 => absurd c50 (by omega)) (fun c50 => ?_)
    refine lv_aload_n hx hb dL_load_29 rfl (lv_at hl 1 rfl) ?_
    refine lv_iload_n hx hb dL_load_30 rfl (lv_at hl 0 rfl) ?_
    refine q_goI (q_runV (As := [.int v21]) (rest := []) E hC43 hS43 (m_X11_yard l X Γ H43 hC43 h0 g0 v21 (a1 := v21.toInt) rfl ra gra ur tp ((kp_R hKp43 gra (ci := 4) (k := 0) rfl (by decide) rfl).trans htp) gtp (by omega) (by omega)) cw_X11_yard cl_RL_36 g0 ⟨rfl, rfl⟩ rfl hl.1 rfl (Nat.zero_le _) (by decide) dL_load_31) hS43 (fun v51 H51 locs51 hr51 hC51 hS51 => ?_)
    obtain ⟨hp51, hr51⟩ := hr51
    have hKp51 := hKp43.tr (hp51.mono rfl)
    have m52 : aI H51 h1 (20) = aI H43 h1 (20) := aI_kp hp51 g1 rfl rfl
    have m53 : aI H51 h1 (21) = aI H43 h1 (21) := aI_kp hp51 g1 rfl rfl
    have f51_0 := hr51
    have hyd := f51_0
    refine lv_goto (tgt := 42) hx hb dL_load_34 rfl ?_
    obtain ⟨kd, vl, w3, pos, N, htk, hyy⟩ := hyd
    rw [show (v21.toInt : Int).toNat = txt.length by omega] at htk
    have hld : ∃ b : Nat → Int, (∀ j : Nat, j < txt.length → b j = txt.getD j 0) ∧ ∃ (kd vl w3 : Nat → Int) (pos : Nat → Nat) (N : Nat), TKS b txt.length N pos kd vl w3 ∧ ((∃ w h T, gYard kd vl w h ∧ gFin kd vl 1000 (Si0 vl) 5 T ∧ (v51 : Int32).toInt = w * h ∧ YD0 X Γ H51 h0 w h T.2.2.1) ∨ ∀ w h, ¬ gYard kd vl w h) := ⟨_, fun j hj => hby j (by omega) (by omega), kd, vl, w3, pos, N, htk, hyy⟩
    have c55 : v51.toInt = v51.toInt := rfl
    exact ret v51 H51 locs51 _ _ dL_load_42 ⟨hKp51, hld⟩ hC51 hS51
set_option maxRecDepth 100000 in
set_option maxHeartbeats 8000000 in
theorem m_L_lay (l : Launch) (X : xW) (Γ : Nat → Option Nat) (H0 : Heap) (hC0 : Conf X Γ H0) (h0 : Nat) (g0 : Γ h0 = some 0) (h1 : Nat) (g1 : Γ h1 = some 90) (h2 : Nat) (g2 : Γ h2 = some 91) (ra : Nat) (gra : Γ ra = some 2) (ur : ∀ a, Γ a = some 2 → a = ra) (tp : Nat) (htp : sR H0 ra (X.1.2 4 0) = some tp) (gtp : Γ tp = some 25) (lt : LT X H0 ra tp h1 []) (r0 : aI H0 h2 0 = 2 ∨ aI H0 h2 0 = 4) (r1 : 1 ≤ aI H0 h2 1) (r2 : aI H0 h2 1 ≤ 3) (r3 : aI H0 h2 2 = 1 ∨ aI H0 h2 2 = 2) : Ctr l X Γ yL_lay cL_lay 6 (some .boolean) 9 [.ref h0, .ref h1, .ref h2] H0 (QI X Γ (fun v H1 => Kp X Γ [37, 67, 68, 69, 71] H0 H1 ∧ ((v = 1 ∧ (YD0 X Γ H1 h0 (aI H0 h2 0) (aI H0 h2 1) (aI H0 h2 2))) ∨ (v = 0 ∧ (False))))) := by
  refine q_enterZ (own := "SnowFortsLaw") (by decide) rfl (Nat.le_of_ble_eq_true rfl) ?_
  intro p e s m args below meth c ls Qz E hl ret hS0
  have hx := E.1; have hb := E.2.1
  have hKp0 : Kp X Γ [37, 67, 68, 69, 71] H0 H0 := Kp.rf
  have hl : lv_has ls 6 [(0, .ref h0), (1, .ref h1), (2, .ref h2)] := hl
  obtain ⟨w9, hw9⟩ : ∃ z, aI H0 h2 0 = z := ⟨_, rfl⟩
  obtain ⟨h9, hh9⟩ : ∃ z, aI H0 h2 1 = z := ⟨_, rfl⟩
  obtain ⟨s9, hs9⟩ : ∃ z, aI H0 h2 2 = z := ⟨_, rfl⟩
  have hm21 := lt.m21
  have l0 : lnI 0 = 4 := by decide
  have l1 : lnI 1 = 5 := by decide
  have l2 : lnI 2 = 1 := by decide
  have l3 : lnI 3 = 14 := by decide
  have l4 : lnI 4 = 14 := by decide
  have l11 : lnI 11 = 13 := by decide
  have l12 : lnI 12 = 15 := by decide
  have l13 : lnI 13 = 9 := by decide
  have l14 : lnI 14 = 12 := by decide
  refine lv_aload_n hx hb dL_lay_0 rfl (lv_at hl 1 rfl) ?_
  refine lv_bipush (v := 22) hx hb dL_lay_1 rfl ?_
  refine lv_iconst (v := 0) hx hb dL_lay_3 rfl ?_
  refine q_iast E hC0 hS0 g1 (by decide) rfl rfl (i_in (a := 22) (show (22 : Int32).toInt = 22 from by decide) (by omega) (by omega)) (rs_90_3 (show (22 : Int32).toInt = 22 from by decide) (by omega) (by omega) (tv_I (show (0 : Int32).toInt = 0 from by decide) (by omega) (by omega))) dL_lay_4 (fun H21 locs21 hC21 hS21 U21 => ?_)
  have hKp21 := Kp.upA g1 rfl (by decide) rfl U21 hKp0
  have m22 : aI H21 h1 (22) = 0 := aI_up U21 (show (22 : Int32).toInt = 22 from by decide) (show (0 : Int32).toInt = 0 from by decide)
  have m23 : aI H21 h2 (0) = aI H0 h2 (0) := aI_ne U21 (nek g1 g2 (by decide))
  have m24 : aI H21 h2 (1) = aI H0 h2 (1) := aI_ne U21 (nek g1 g2 (by decide))
  have m25 : aI H21 h2 (2) = aI H0 h2 (2) := aI_ne U21 (nek g1 g2 (by decide))
  have m26 : aI H21 h1 (21) = aI H0 h1 (21) := aI_un U21 (show (22 : Int32).toInt = 22 from by decide) (by omega)
  have lt1 := lt.m22 U21 (show (22 : Int32).toInt = 22 from by decide) (by omega) (nek g1 gtp (by decide)) (nek g1 gra (by decide))
  have hm20 : aI H21 h1 21 = 0 := lt1.m21
  refine lv_aload_n hx hb dL_lay_5 rfl (lv_at hl 0 rfl) ?_
  refine lv_aload_n hx hb dL_lay_6 rfl (lv_at hl 1 rfl) ?_
  refine q_ldcS E hS21 (i := 0) (by decide) dL_lay_7 ?_
  refine q_goV (q_runS (As := [.ref h0, .ref h1, .ref (skd X 0)]) (rest := []) E hS21 (m_L_say l X Γ H21 hC21 h0 g0 h1 g1 0 (by decide) ra gra ur tp ((kp_R hKp21 gra (ci := 4) (k := 0) rfl (by decide) rfl).trans htp) gtp _ lt1 (by omega)) cw_L_say cl_RL_48 rfl hl.1 rfl (Nat.zero_le _) (by decide) dL_lay_9) hS21 (fun H27 locs27 hr27 hC27 hS27 => ?_)
  obtain ⟨hp27, hr27⟩ := hr27
  have hKp27 := hKp21.tr (hp27.mono rfl)
  have m28 : aI H27 h2 (0) = aI H21 h2 (0) := aI_kp hp27 g2 rfl rfl
  have m29 : aI H27 h2 (1) = aI H21 h2 (1) := aI_kp hp27 g2 rfl rfl
  have m30 : aI H27 h2 (2) = aI H21 h2 (2) := aI_kp hp27 g2 rfl rfl
  obtain ⟨f27_0, f27_1⟩ := hr27
  have lt1 := f27_0
  refine lv_aload_n hx hb dL_lay_12 rfl (lv_at hl 0 rfl) ?_
  refine lv_aload_n hx hb dL_lay_13 rfl (lv_at hl 1 rfl) ?_
  refine lv_aload_n hx hb dL_lay_14 rfl (lv_at hl 2 rfl) ?_
  refine lv_iconst (v := 0) hx hb dL_lay_15 rfl ?_
  refine q_iald E hC27 g2 rfl rfl (rl_91_0 (show (0 : Int32).toInt = 0 from by decide) (by omega) (by omega)) (i_in (a := 0) (show (0 : Int32).toInt = 0 from by decide) (by omega) (by omega)) dL_lay_16 (fun v32 ev32 lv32 uv32 => ?_)
  have m33 : aI H27 h2 (0) = v32.toInt := aI_of (show (0 : Int32).toInt = 0 from by decide) ev32
  refine q_goV (q_runS (As := [.ref h0, .ref h1, .int v32]) (rest := []) E hS27 (m_L_number l X Γ H27 hC27 h0 g0 h1 g1 v32 (a2 := v32.toInt) rfl ra gra ur tp ((kp_R hKp27 gra (ci := 4) (k := 0) rfl (by decide) rfl).trans htp) gtp _ lt1 (by omega) (by omega) (by omega)) cw_L_number cl_RL_43 rfl hl.1 rfl (Nat.zero_le _) (by decide) dL_lay_17) hS27 (fun H34 locs34 hr34 hC34 hS34 => ?_)
  obtain ⟨hp34, hr34⟩ := hr34
  have hKp34 := hKp27.tr (hp34.mono rfl)
  have m35 : aI H34 h2 (0) = aI H27 h2 (0) := aI_kp hp34 g2 rfl rfl
  have m36 : aI H34 h2 (1) = aI H27 h2 (1) := aI_kp hp34 g2 rfl rfl
  have m37 : aI H34 h2 (2) = aI H27 h2 (2) := aI_kp hp34 g2 rfl rfl
  obtain ⟨f34_0, f34_1⟩ := hr34
  have lt1 := f34_0
  refine lv_aload_n hx hb dL_lay_20 rfl (lv_at hl 0 rfl) ?_
  refine lv_aload_n hx hb dL_lay_21 rfl (lv_at hl 1 rfl) ?_
  refine q_ldcS E hS34 (i := 1) (by decide) dL_lay_22 ?_
  refine q_goV (q_runS (As := [.ref h0, .ref h1, .ref (skd X 1)]) (rest := []) E hS34 (m_L_say l X Γ H34 hC34 h0 g0 h1 g1 1 (by decide) ra gra ur tp ((kp_R hKp34 gra (ci := 4) (k := 0) rfl (by decide) rfl).trans htp) gtp _ lt1 (by omega)) cw_L_say cl_RL_48 rfl hl.1 rfl (Nat.zero_le _) (by decide) dL_lay_24) hS34 (fun H39 locs39 hr39 hC39 hS39 => ?_)
  obtain ⟨hp39, hr39⟩ := hr39
  have hKp39 := hKp34.tr (hp39.mono rfl)
  have m40 : aI H39 h2 (0) = aI H34 h2 (0) := aI_kp hp39 g2 rfl rfl
  have m41 : aI H39 h2 (1) = aI H34 h2 (1) := aI_kp hp39 g2 rfl rfl
  have m42 : aI H39 h2 (2) = aI H34 h2 (2) := aI_kp hp39 g2 rfl rfl
  obtain ⟨f39_0, f39_1⟩ := hr39
  have lt1 := f39_0
  refine lv_aload_n hx hb dL_lay_27 rfl (lv_at hl 0 rfl) ?_
  refine lv_aload_n hx hb dL_lay_28 rfl (lv_at hl 1 rfl) ?_
  refine lv_aload_n hx hb dL_lay_29 rfl (lv_at hl 2 rfl) ?_
  refine lv_iconst (v := 1) hx hb dL_lay_30 rfl ?_
  refine q_iald E hC39 g2 rfl rfl (rl_91_1 (show (1 : Int32).toInt = 1 from by decide) (by omega) (by omega)) (i_in (a := 1) (show (1 : Int32).toInt = 1 from by decide) (by omega) (by omega)) dL_lay_31 (fun v44 ev44 lv44 uv44 => ?_)
  have m45 : aI H39 h2 (1) = v44.toInt := aI_of (show (1 : Int32).toInt = 1 from by decide) ev44
  refine q_goV (q_runS (As := [.ref h0, .ref h1, .int v44]) (rest := []) E hS39 (m_L_number l X Γ H39 hC39 h0 g0 h1 g1 v44 (a2 := v44.toInt) rfl ra gra ur tp ((kp_R hKp39 gra (ci := 4) (k := 0) rfl (by decide) rfl).trans htp) gtp _ lt1 (by omega) (by omega) (by omega)) cw_L_number cl_RL_43 rfl hl.1 rfl (Nat.zero_le _) (by decide) dL_lay_32) hS39 (fun H46 locs46 hr46 hC46 hS46 => ?_)
  obtain ⟨hp46, hr46⟩ := hr46
  have hKp46 := hKp39.tr (hp46.mono rfl)
  have m47 : aI H46 h2 (0) = aI H39 h2 (0) := aI_kp hp46 g2 rfl rfl
  have m48 : aI H46 h2 (1) = aI H39 h2 (1) := aI_kp hp46 g2 rfl rfl
  have m49 : aI H46 h2 (2) = aI H39 h2 (2) := aI_kp hp46 g2 rfl rfl
  obtain ⟨f46_0, f46_1⟩ := hr46
  have lt1 := f46_0
  refine lv_aload_n hx hb dL_lay_35 rfl (lv_at hl 0 rfl) ?_
  refine lv_aload_n hx hb dL_lay_36 rfl (lv_at hl 1 rfl) ?_
  refine q_ldcS E hS46 (i := 2) (by decide) dL_lay_37 ?_
  refine q_goV (q_runS (As := [.ref h0, .ref h1, .ref (skd X 2)]) (rest := []) E hS46 (m_L_say l X Γ H46 hC46 h0 g0 h1 g1 2 (by decide) ra gra ur tp ((kp_R hKp46 gra (ci := 4) (k := 0) rfl (by decide) rfl).trans htp) gtp _ lt1 (by omega)) cw_L_say cl_RL_48 rfl hl.1 rfl (Nat.zero_le _) (by decide) dL_lay_39) hS46 (fun H51 locs51 hr51 hC51 hS51 => ?_)
  obtain ⟨hp51, hr51⟩ := hr51
  have hKp51 := hKp46.tr (hp51.mono rfl)
  have m52 : aI H51 h2 (0) = aI H46 h2 (0) := aI_kp hp51 g2 rfl rfl
  have m53 : aI H51 h2 (1) = aI H46 h2 (1) := aI_kp hp51 g2 rfl rfl
  have m54 : aI H51 h2 (2) = aI H46 h2 (2) := aI_kp hp51 g2 rfl rfl
  obtain ⟨f51_0, f51_1⟩ := hr51
  have lx := LX.hdr (w := w9) (h := h9) f51_0 (by omega) (by omega) (by omega) (by omega)
  refine lv_iconst (v := 0) hx hb dL_lay_42 rfl ?_
  refine lv_istore_n hx hb dL_lay_43 rfl hl (by decide) rfl (fun ls hl => ?_)
  replace hl : lv_has ls 6 [(3, .int 0), (0, .ref h0), (1, .ref h1), (2, .ref h2)] := hl
  have L44 : ∀ (n57 : Nat) (H57 : Heap) (locs57 : List Loc) (v56 : Int32) (z56 : Int) (ls : Array Slot), (2 - z56).toNat < n57 → v56.toInt = z56 → 0 ≤ z56 → LX X H57 ra tp h1 w9 h9 z56 0 0 → aI H57 h1 21 ≤ 17 + 18 * z56 → 0 ≤ z56 → z56 ≤ s9 → aI H57 h2 0 = w9 → aI H57 h2 1 = h9 → aI H57 h2 2 = s9 → Conf X Γ H57 → va_S (AΓ Γ) H0 H57 locs57 → Kp X Γ [37, 67, 68, 69, 71] H0 H57 → lv_has ls 6 [(3, .int v56), (0, .ref h0), (1, .ref h1), (2, .ref h2)] → W p l e (rmL 9) s m args below meth c H57 locs57 0 0 Qz (F0 m 44 ls []) := by
    intro n57
    induction n57 with
    | zero => intro H57 locs57 v56 z56 ls hm57 ev56 iv57_0 iv57_1 iv57_2 iv57_3 iv57_4 iv57_5 iv57_6 iv57_7 hC57 hS57 hKp57 hl; exact absurd hm57 (Nat.not_lt_zero _)
    | succ n57 ih57 =>
      intro H57 locs57 v56 z56 ls hm57 ev56 iv57_0 iv57_1 iv57_2 iv57_3 iv57_4 iv57_5 iv57_6 iv57_7 hC57 hS57 hKp57 hl
      have lx := iv57_1
      obtain ⟨txt, lt, tx⟩ := lx
      refine lv_iload_n hx hb dL_lay_44 rfl (lv_at hl 0 rfl) ?_
      refine lv_aload_n hx hb dL_lay_45 rfl (lv_at hl 3 rfl) ?_
      refine lv_iconst (v := 2) hx hb dL_lay_46 rfl ?_
      refine q_iald E hC57 g2 rfl rfl (rl_91_2 (show (2 : Int32).toInt = 2 from by decide) (by omega) (by omega)) (i_in (a := 2) (show (2 : Int32).toInt = 2 from by decide) (by omega) (by omega)) dL_lay_47 (fun v58 ev58 lv58 uv58 => ?_)
      have m59 : aI H57 h2 (2) = v58.toInt := aI_of (show (2 : Int32).toInt = 2 from by decide) ev58
      refine q_icmp_ge hx hb (a := z56) (b := v58.toInt) ev56 rfl (tgt := 90) dL_lay_48 rfl (fun c60 => ?_) (fun c60 => ?_)
      · refine lv_iconst (v := 0) hx hb dL_lay_90 rfl ?_
        refine lv_istore_n hx hb dL_lay_91 rfl hl (by decide) rfl (fun ls hl => ?_)
        replace hl : lv_has ls 6 [(3, .int 0), (0, .ref h0), (1, .ref h1), (2, .ref h2)] := hl
        have L92 : ∀ (n62 : Nat) (H62 : Heap) (locs62 : List Loc) (v61 : Int32) (z61 : Int) (ls : Array Slot), (3 - z61).toNat < n62 → v61.toInt = z61 → 0 ≤ z61 → LX X H62 ra tp h1 w9 h9 s9 (18 * z61) 0 → aI H62 h1 21 ≤ 53 + 228 * z61 → 0 ≤ z61 → z61 ≤ h9 → aI H62 h2 0 = w9 → aI H62 h2 1 = h9 → aI H62 h2 2 = s9 → Conf X Γ H62 → va_S (AΓ Γ) H0 H62 locs62 → Kp X Γ [37, 67, 68, 69, 71] H0 H62 → lv_has ls 6 [(3, .int v61), (0, .ref h0), (1, .ref h1), (2, .ref h2)] → W p l e (rmL 9) s m args below meth c H62 locs62 0 0 Qz (F0 m 92 ls []) := by
          intro n62
          induction n62 with
          | zero => intro H62 locs62 v61 z61 ls hm62 ev61 iv62_0 iv62_1 iv62_2 iv62_3 iv62_4 iv62_5 iv62_6 iv62_7 hC62 hS62 hKp62 hl; exact absurd hm62 (Nat.not_lt_zero _)
          | succ n62 ih62 =>
            intro H62 locs62 v61 z61 ls hm62 ev61 iv62_0 iv62_1 iv62_2 iv62_3 iv62_4 iv62_5 iv62_6 iv62_7 hC62 hS62 hKp62 hl
            have lx := iv62_1
            refine lv_iload_n hx hb dL_lay_92 rfl (lv_at hl 0 rfl) ?_
            refine lv_aload_n hx hb dL_lay_93 rfl (lv_at hl 3 rfl) ?_
            refine lv_iconst (v := 1) hx hb dL_lay_94 rfl ?_
            refine q_iald E hC62 g2 rfl rfl (rl_91_1 (show (1 : Int32).toInt = 1 from by decide) (by omega) (by omega)) (i_in (a := 1) (show (1 : Int32).toInt = 1 from by decide) (by omega) (by omega)) dL_lay_95 (fun v63 ev63 lv63 uv63 => ?_)
            have m64 : aI H62 h2 (1) = v63.toInt := aI_of (show (1 : Int32).toInt = 1 from by decide) ev63
            refine q_icmp_ge hx hb (a := z61) (b := v63.toInt) ev61 rfl (tgt := 185) dL_lay_96 rfl (fun c65 => ?_) (fun c65 => ?_)
            · obtain ⟨txt, lt, tx⟩ := lx
              refine lv_aload_n hx hb dL_lay_185 rfl (lv_at hl 3 rfl) ?_
              refine lv_iconst (v := 5) hx hb dL_lay_186 rfl ?_
              refine q_iald E hC62 g2 rfl rfl (rl_91_4 (show (5 : Int32).toInt = 5 from by decide) (by omega) (by omega)) (i_in (a := 5) (show (5 : Int32).toInt = 5 from by decide) (by omega) (by omega)) dL_lay_187 (fun v66 ev66 lv66 uv66 => ?_)
              have m67 : aI H62 h2 (5) = v66.toInt := aI_of (show (5 : Int32).toInt = 5 from by decide) ev66
              refine lv_iconst (v := 1) hx hb dL_lay_188 rfl ?_
              refine lv_iand hx hb dL_lay_189 (lv_topi (fun v68 ev68 => ?_))
              have bv68 := i_andc ev68 (show (1 : Int32).toInt = 1 from by decide) (by decide)
              refine lv_iconst (v := 1) hx hb dL_lay_190 rfl ?_
              refine q_icmp_ne hx hb (a := v68.toInt) (b := 1) rfl (by decide) (tgt := 217) dL_lay_191 rfl (fun c69 => ?_) (fun c69 => ?_)
              · refine lv_aload_n hx hb dL_lay_217 rfl (lv_at hl 3 rfl) ?_
                refine lv_iconst (v := 5) hx hb dL_lay_218 rfl ?_
                refine q_iald E hC62 g2 rfl rfl (rl_91_4 (show (5 : Int32).toInt = 5 from by decide) (by omega) (by omega)) (i_in (a := 5) (show (5 : Int32).toInt = 5 from by decide) (by omega) (by omega)) dL_lay_219 (fun v70 ev70 lv70 uv70 => ?_)
                have m71 : aI H62 h2 (5) = v70.toInt := aI_of (show (5 : Int32).toInt = 5 from by decide) ev70
                refine lv_iconst (v := 1) hx hb dL_lay_220 rfl ?_
                refine lv_ishr hx hb dL_lay_221 (lv_topi (fun v72 ev72 => ?_))
                refine lv_iconst (v := 1) hx hb dL_lay_222 rfl ?_
                refine lv_iand hx hb dL_lay_223 (lv_topi (fun v73 ev73 => ?_))
                have bv73 := i_andc ev73 (show (1 : Int32).toInt = 1 from by decide) (by decide)
                refine lv_iconst (v := 1) hx hb dL_lay_224 rfl ?_
                refine q_icmp_ne hx hb (a := v73.toInt) (b := 1) rfl (by decide) (tgt := 251) dL_lay_225 rfl (fun c74 => ?_) (fun c74 => ?_)
                · refine lv_aload_n hx hb dL_lay_251 rfl (lv_at hl 3 rfl) ?_
                  refine lv_iconst (v := 5) hx hb dL_lay_252 rfl ?_
                  refine q_iald E hC62 g2 rfl rfl (rl_91_4 (show (5 : Int32).toInt = 5 from by decide) (by omega) (by omega)) (i_in (a := 5) (show (5 : Int32).toInt = 5 from by decide) (by omega) (by omega)) dL_lay_253 (fun v75 ev75 lv75 uv75 => ?_)
                  have m76 : aI H62 h2 (5) = v75.toInt := aI_of (show (5 : Int32).toInt = 5 from by decide) ev75
                  refine lv_iconst (v := 2) hx hb dL_lay_254 rfl ?_
                  refine lv_ishr hx hb dL_lay_255 (lv_topi (fun v77 ev77 => ?_))
                  refine lv_iconst (v := 1) hx hb dL_lay_256 rfl ?_
                  refine lv_iand hx hb dL_lay_257 (lv_topi (fun v78 ev78 => ?_))
                  have bv78 := i_andc ev78 (show (1 : Int32).toInt = 1 from by decide) (by decide)
                  refine lv_iconst (v := 1) hx hb dL_lay_258 rfl ?_
                  refine q_icmp_ne hx hb (a := v78.toInt) (b := 1) rfl (by decide) (tgt := 269) dL_lay_259 rfl (fun c79 => ?_) (fun c79 => ?_)
                  · refine lv_aload_n hx hb dL_lay_269 rfl (lv_at hl 3 rfl) ?_
                    refine lv_iconst (v := 5) hx hb dL_lay_270 rfl ?_
                    refine q_iald E hC62 g2 rfl rfl (rl_91_4 (show (5 : Int32).toInt = 5 from by decide) (by omega) (by omega)) (i_in (a := 5) (show (5 : Int32).toInt = 5 from by decide) (by omega) (by omega)) dL_lay_271 (fun v80 ev80 lv80 uv80 => ?_)
                    have m81 : aI H62 h2 (5) = v80.toInt := aI_of (show (5 : Int32).toInt = 5 from by decide) ev80
                    refine lv_iconst (v := 3) hx hb dL_lay_272 rfl ?_
                    refine lv_ishr hx hb dL_lay_273 (lv_topi (fun v82 ev82 => ?_))
                    refine lv_iconst (v := 1) hx hb dL_lay_274 rfl ?_
                    refine lv_iand hx hb dL_lay_275 (lv_topi (fun v83 ev83 => ?_))
                    have bv83 := i_andc ev83 (show (1 : Int32).toInt = 1 from by decide) (by decide)
                    refine lv_iconst (v := 1) hx hb dL_lay_276 rfl ?_
                    refine q_icmp_ne hx hb (a := v83.toInt) (b := 1) rfl (by decide) (tgt := 303) dL_lay_277 rfl (fun c84 => ?_) (fun c84 => ?_)
                    · refine lv_aload_n hx hb dL_lay_303 rfl (lv_at hl 1 rfl) ?_
                      refine lv_aload_n hx hb dL_lay_304 rfl (lv_at hl 2 rfl) ?_
                      refine q_goI (q_runS (As := [.ref h0, .ref h1]) (rest := []) E hS62 (m_L_load l X Γ H62 hC62 h0 g0 h1 g1 ra gra ur tp ((kp_R hKp62 gra (ci := 4) (k := 0) rfl (by decide) rfl).trans htp) gtp _ lt (by omega)) cw_L_load cl_RL_84 rfl hl.1 rfl (Nat.zero_le _) (by decide) dL_lay_305) hS62 (fun v85 H85 locs85 hr85 hC85 hS85 => ?_)
                      obtain ⟨hp85, hr85⟩ := hr85
                      have hKp85 := hKp62.tr (hp85.mono rfl)
                      have m86 : aI H85 h2 (0) = aI H62 h2 (0) := aI_kp hp85 g2 rfl rfl
                      have m87 : aI H85 h2 (1) = aI H62 h2 (1) := aI_kp hp85 g2 rfl rfl
                      have m88 : aI H85 h2 (2) = aI H62 h2 (2) := aI_kp hp85 g2 rfl rfl
                      have f85_0 := hr85
                      obtain ⟨b9, hb9, kd, vl, w3, pos, N, htk, hyy⟩ := f85_0
                      obtain ⟨T9, ht1, ht2, ht3⟩ := tx.fin htk hb9 (by omega) (by omega) (by omega)
                      have hyq : v85.toInt = w9 * h9 ∧ YD0 X Γ H85 h0 w9 h9 s9 := TX.out ht1 ht2 ht3 hyy
                      refine lv_aload_n hx hb dL_lay_308 rfl (lv_at hl 3 rfl) ?_
                      refine lv_iconst (v := 0) hx hb dL_lay_309 rfl ?_
                      refine q_iald E hC85 g2 rfl rfl (rl_91_0 (show (0 : Int32).toInt = 0 from by decide) (by omega) (by omega)) (i_in (a := 0) (show (0 : Int32).toInt = 0 from by decide) (by omega) (by omega)) dL_lay_310 (fun v90 ev90 lv90 uv90 => ?_)
                      have m91 : aI H85 h2 (0) = v90.toInt := aI_of (show (0 : Int32).toInt = 0 from by decide) ev90
                      refine lv_aload_n hx hb dL_lay_311 rfl (lv_at hl 3 rfl) ?_
                      refine lv_iconst (v := 1) hx hb dL_lay_312 rfl ?_
                      refine q_iald E hC85 g2 rfl rfl (rl_91_1 (show (1 : Int32).toInt = 1 from by decide) (by omega) (by omega)) (i_in (a := 1) (show (1 : Int32).toInt = 1 from by decide) (by omega) (by omega)) dL_lay_313 (fun v92 ev92 lv92 uv92 => ?_)
                      have m93 : aI H85 h2 (1) = v92.toInt := aI_of (show (1 : Int32).toInt = 1 from by decide) ev92
                      refine lv_imul hx hb dL_lay_314 (lv_topi (fun v94 ev94 => ?_))
                      have hml := mul_small ev94 (a := w9) (b := h9) (by omega) (by omega) ⟨by omega, by omega, by omega, by omega⟩
                      have c95 := i_rng v85; rw [show v85.toInt = v85.toInt from rfl] at c95
                      have c96 := i_rng v94; rw [show v94.toInt = v94.toInt from rfl] at c96
                      refine q_icmp_ne hx hb (a := v85.toInt) (b := v94.toInt) rfl rfl (tgt := 322) dL_lay_315 rfl (fun c97 => ?_) (fun c97 => ?_)
                      · refine lv_iconst (v := 0) hx hb dL_lay_322 rfl ?_
                        exact ret 0 H85 locs85 _ _ dL_lay_323 (Or.inl rfl) ⟨hKp85, Or.inr ⟨rfl, by omega⟩⟩ hC85 hS85
                      · refine lv_iconst (v := 1) hx hb dL_lay_318 rfl ?_
                        refine lv_goto (tgt := 323) hx hb dL_lay_319 rfl ?_
                        exact ret 1 H85 locs85 _ _ dL_lay_323 (Or.inr rfl) ⟨hKp85, Or.inl ⟨rfl, by rw [hw9, hh9, hs9]; exact hyq.2⟩⟩ hC85 hS85
                    · refine lv_aload_n hx hb dL_lay_280 rfl (lv_at hl 1 rfl) ?_
                      refine lv_aload_n hx hb dL_lay_281 rfl (lv_at hl 2 rfl) ?_
                      refine q_ldcS E hS62 (i := 14) (by decide) dL_lay_282 ?_
                      refine q_goV (q_runS (As := [.ref h0, .ref h1, .ref (skd X 14)]) (rest := []) E hS62 (m_L_say l X Γ H62 hC62 h0 g0 h1 g1 14 (by decide) ra gra ur tp ((kp_R hKp62 gra (ci := 4) (k := 0) rfl (by decide) rfl).trans htp) gtp _ lt (by omega)) cw_L_say cl_RL_48 rfl hl.1 rfl (Nat.zero_le _) (by decide) dL_lay_284) hS62 (fun H98 locs98 hr98 hC98 hS98 => ?_)
                      obtain ⟨hp98, hr98⟩ := hr98
                      have hKp98 := hKp62.tr (hp98.mono rfl)
                      have m99 : aI H98 h2 (0) = aI H62 h2 (0) := aI_kp hp98 g2 rfl rfl
                      have m100 : aI H98 h2 (1) = aI H62 h2 (1) := aI_kp hp98 g2 rfl rfl
                      have m101 : aI H98 h2 (2) = aI H62 h2 (2) := aI_kp hp98 g2 rfl rfl
                      obtain ⟨f98_0, f98_1⟩ := hr98
                      have lt1 := f98_0
                      refine lv_aload_n hx hb dL_lay_287 rfl (lv_at hl 1 rfl) ?_
                      refine lv_aload_n hx hb dL_lay_288 rfl (lv_at hl 2 rfl) ?_
                      refine lv_aload_n hx hb dL_lay_289 rfl (lv_at hl 3 rfl) ?_
                      refine lv_bipush (v := 9) hx hb dL_lay_290 rfl ?_
                      refine q_iald E hC98 g2 rfl rfl (rl_91_8 (show (9 : Int32).toInt = 9 from by decide) (by omega) (by omega)) (i_in (a := 9) (show (9 : Int32).toInt = 9 from by decide) (by omega) (by omega)) dL_lay_292 (fun v103 ev103 lv103 uv103 => ?_)
                      have m104 : aI H98 h2 (9) = v103.toInt := aI_of (show (9 : Int32).toInt = 9 from by decide) ev103
                      refine q_goV (q_runS (As := [.ref h0, .ref h1, .int v103]) (rest := []) E hS98 (m_L_number l X Γ H98 hC98 h0 g0 h1 g1 v103 (a2 := v103.toInt) rfl ra gra ur tp ((kp_R hKp98 gra (ci := 4) (k := 0) rfl (by decide) rfl).trans htp) gtp _ lt1 (by omega) (by omega) (by omega)) cw_L_number cl_RL_43 rfl hl.1 rfl (Nat.zero_le _) (by decide) dL_lay_293) hS98 (fun H105 locs105 hr105 hC105 hS105 => ?_)
                      obtain ⟨hp105, hr105⟩ := hr105
                      have hKp105 := hKp98.tr (hp105.mono rfl)
                      have m106 : aI H105 h2 (0) = aI H98 h2 (0) := aI_kp hp105 g2 rfl rfl
                      have m107 : aI H105 h2 (1) = aI H98 h2 (1) := aI_kp hp105 g2 rfl rfl
                      have m108 : aI H105 h2 (2) = aI H98 h2 (2) := aI_kp hp105 g2 rfl rfl
                      obtain ⟨f105_0, f105_1⟩ := hr105
                      have lt1 := f105_0
                      refine lv_aload_n hx hb dL_lay_296 rfl (lv_at hl 1 rfl) ?_
                      refine lv_aload_n hx hb dL_lay_297 rfl (lv_at hl 2 rfl) ?_
                      refine q_ldcS E hS105 (i := 2) (by decide) dL_lay_298 ?_
                      refine q_goV (q_runS (As := [.ref h0, .ref h1, .ref (skd X 2)]) (rest := []) E hS105 (m_L_say l X Γ H105 hC105 h0 g0 h1 g1 2 (by decide) ra gra ur tp ((kp_R hKp105 gra (ci := 4) (k := 0) rfl (by decide) rfl).trans htp) gtp _ lt1 (by omega)) cw_L_say cl_RL_48 rfl hl.1 rfl (Nat.zero_le _) (by decide) dL_lay_300) hS105 (fun H110 locs110 hr110 hC110 hS110 => ?_)
                      obtain ⟨hp110, hr110⟩ := hr110
                      have hKp110 := hKp105.tr (hp110.mono rfl)
                      have m111 : aI H110 h2 (0) = aI H105 h2 (0) := aI_kp hp110 g2 rfl rfl
                      have m112 : aI H110 h2 (1) = aI H105 h2 (1) := aI_kp hp110 g2 rfl rfl
                      have m113 : aI H110 h2 (2) = aI H105 h2 (2) := aI_kp hp110 g2 rfl rfl
                      obtain ⟨f110_0, f110_1⟩ := hr110
                      have lx3 := LX.ai f110_0 tx (by omega) (by omega) (by omega)
                      obtain ⟨txt, lt, tx⟩ := lx3
                      refine lv_aload_n hx hb dL_lay_303 rfl (lv_at hl 1 rfl) ?_
                      refine lv_aload_n hx hb dL_lay_304 rfl (lv_at hl 2 rfl) ?_
                      refine q_goI (q_runS (As := [.ref h0, .ref h1]) (rest := []) E hS110 (m_L_load l X Γ H110 hC110 h0 g0 h1 g1 ra gra ur tp ((kp_R hKp110 gra (ci := 4) (k := 0) rfl (by decide) rfl).trans htp) gtp _ lt (by omega)) cw_L_load cl_RL_84 rfl hl.1 rfl (Nat.zero_le _) (by decide) dL_lay_305) hS110 (fun v115 H115 locs115 hr115 hC115 hS115 => ?_)
                      obtain ⟨hp115, hr115⟩ := hr115
                      have hKp115 := hKp110.tr (hp115.mono rfl)
                      have m116 : aI H115 h2 (0) = aI H110 h2 (0) := aI_kp hp115 g2 rfl rfl
                      have m117 : aI H115 h2 (1) = aI H110 h2 (1) := aI_kp hp115 g2 rfl rfl
                      have m118 : aI H115 h2 (2) = aI H110 h2 (2) := aI_kp hp115 g2 rfl rfl
                      have f115_0 := hr115
                      obtain ⟨b9, hb9, kd, vl, w3, pos, N, htk, hyy⟩ := f115_0
                      obtain ⟨T9, ht1, ht2, ht3⟩ := tx.fin htk hb9 (by omega) (by omega) (by omega)
                      have hyq : v115.toInt = w9 * h9 ∧ YD0 X Γ H115 h0 w9 h9 s9 := TX.out ht1 ht2 ht3 hyy
                      refine lv_aload_n hx hb dL_lay_308 rfl (lv_at hl 3 rfl) ?_
                      refine lv_iconst (v := 0) hx hb dL_lay_309 rfl ?_
                      refine q_iald E hC115 g2 rfl rfl (rl_91_0 (show (0 : Int32).toInt = 0 from by decide) (by omega) (by omega)) (i_in (a := 0) (show (0 : Int32).toInt = 0 from by decide) (by omega) (by omega)) dL_lay_310 (fun v120 ev120 lv120 uv120 => ?_)
                      have m121 : aI H115 h2 (0) = v120.toInt := aI_of (show (0 : Int32).toInt = 0 from by decide) ev120
                      refine lv_aload_n hx hb dL_lay_311 rfl (lv_at hl 3 rfl) ?_
                      refine lv_iconst (v := 1) hx hb dL_lay_312 rfl ?_
                      refine q_iald E hC115 g2 rfl rfl (rl_91_1 (show (1 : Int32).toInt = 1 from by decide) (by omega) (by omega)) (i_in (a := 1) (show (1 : Int32).toInt = 1 from by decide) (by omega) (by omega)) dL_lay_313 (fun v122 ev122 lv122 uv122 => ?_)
                      have m123 : aI H115 h2 (1) = v122.toInt := aI_of (show (1 : Int32).toInt = 1 from by decide) ev122
                      refine lv_imul hx hb dL_lay_314 (lv_topi (fun v124 ev124 => ?_))
                      have hml := mul_small ev124 (a := w9) (b := h9) (by omega) (by omega) ⟨by omega, by omega, by omega, by omega⟩
                      have c125 := i_rng v115; rw [show v115.toInt = v115.toInt from rfl] at c125
                      have c126 := i_rng v124; rw [show v124.toInt = v124.toInt from rfl] at c126
                      refine q_icmp_ne hx hb (a := v115.toInt) (b := v124.toInt) rfl rfl (tgt := 322) dL_lay_315 rfl (fun c127 => ?_) (fun c127 => ?_)
                      · refine lv_iconst (v := 0) hx hb dL_lay_322 rfl ?_
                        exact ret 0 H115 locs115 _ _ dL_lay_323 (Or.inl rfl) ⟨hKp115, Or.inr ⟨rfl, by omega⟩⟩ hC115 hS115
                      · refine lv_iconst (v := 1) hx hb dL_lay_318 rfl ?_
                        refine lv_goto (tgt := 323) hx hb dL_lay_319 rfl ?_
                        exact ret 1 H115 locs115 _ _ dL_lay_323 (Or.inr rfl) ⟨hKp115, Or.inl ⟨rfl, by rw [hw9, hh9, hs9]; exact hyq.2⟩⟩ hC115 hS115
                  · refine lv_aload_n hx hb dL_lay_262 rfl (lv_at hl 1 rfl) ?_
                    refine lv_aload_n hx hb dL_lay_263 rfl (lv_at hl 2 rfl) ?_
                    refine q_ldcS E hS62 (i := 13) (by decide) dL_lay_264 ?_
                    refine q_goV (q_runS (As := [.ref h0, .ref h1, .ref (skd X 13)]) (rest := []) E hS62 (m_L_say l X Γ H62 hC62 h0 g0 h1 g1 13 (by decide) ra gra ur tp ((kp_R hKp62 gra (ci := 4) (k := 0) rfl (by decide) rfl).trans htp) gtp _ lt (by omega)) cw_L_say cl_RL_48 rfl hl.1 rfl (Nat.zero_le _) (by decide) dL_lay_266) hS62 (fun H128 locs128 hr128 hC128 hS128 => ?_)
                    obtain ⟨hp128, hr128⟩ := hr128
                    have hKp128 := hKp62.tr (hp128.mono rfl)
                    have m129 : aI H128 h2 (0) = aI H62 h2 (0) := aI_kp hp128 g2 rfl rfl
                    have m130 : aI H128 h2 (1) = aI H62 h2 (1) := aI_kp hp128 g2 rfl rfl
                    have m131 : aI H128 h2 (2) = aI H62 h2 (2) := aI_kp hp128 g2 rfl rfl
                    obtain ⟨f128_0, f128_1⟩ := hr128
                    have lx3 := LX.as f128_0 tx (by omega)
                    obtain ⟨txt, lt, tx⟩ := lx3
                    refine lv_aload_n hx hb dL_lay_269 rfl (lv_at hl 3 rfl) ?_
                    refine lv_iconst (v := 5) hx hb dL_lay_270 rfl ?_
                    refine q_iald E hC128 g2 rfl rfl (rl_91_4 (show (5 : Int32).toInt = 5 from by decide) (by omega) (by omega)) (i_in (a := 5) (show (5 : Int32).toInt = 5 from by decide) (by omega) (by omega)) dL_lay_271 (fun v133 ev133 lv133 uv133 => ?_)
                    have m134 : aI H128 h2 (5) = v133.toInt := aI_of (show (5 : Int32).toInt = 5 from by decide) ev133
                    refine lv_iconst (v := 3) hx hb dL_lay_272 rfl ?_
                    refine lv_ishr hx hb dL_lay_273 (lv_topi (fun v135 ev135 => ?_))
                    refine lv_iconst (v := 1) hx hb dL_lay_274 rfl ?_
                    refine lv_iand hx hb dL_lay_275 (lv_topi (fun v136 ev136 => ?_))
                    have bv136 := i_andc ev136 (show (1 : Int32).toInt = 1 from by decide) (by decide)
                    refine lv_iconst (v := 1) hx hb dL_lay_276 rfl ?_
                    refine q_icmp_ne hx hb (a := v136.toInt) (b := 1) rfl (by decide) (tgt := 303) dL_lay_277 rfl (fun c137 => ?_) (fun c137 => ?_)
                    · refine lv_aload_n hx hb dL_lay_303 rfl (lv_at hl 1 rfl) ?_
                      refine lv_aload_n hx hb dL_lay_304 rfl (lv_at hl 2 rfl) ?_
                      refine q_goI (q_runS (As := [.ref h0, .ref h1]) (rest := []) E hS128 (m_L_load l X Γ H128 hC128 h0 g0 h1 g1 ra gra ur tp ((kp_R hKp128 gra (ci := 4) (k := 0) rfl (by decide) rfl).trans htp) gtp _ lt (by omega)) cw_L_load cl_RL_84 rfl hl.1 rfl (Nat.zero_le _) (by decide) dL_lay_305) hS128 (fun v138 H138 locs138 hr138 hC138 hS138 => ?_)
                      obtain ⟨hp138, hr138⟩ := hr138
                      have hKp138 := hKp128.tr (hp138.mono rfl)
                      have m139 : aI H138 h2 (0) = aI H128 h2 (0) := aI_kp hp138 g2 rfl rfl
                      have m140 : aI H138 h2 (1) = aI H128 h2 (1) := aI_kp hp138 g2 rfl rfl
                      have m141 : aI H138 h2 (2) = aI H128 h2 (2) := aI_kp hp138 g2 rfl rfl
                      have f138_0 := hr138
                      obtain ⟨b9, hb9, kd, vl, w3, pos, N, htk, hyy⟩ := f138_0
                      obtain ⟨T9, ht1, ht2, ht3⟩ := tx.fin htk hb9 (by omega) (by omega) (by omega)
                      have hyq : v138.toInt = w9 * h9 ∧ YD0 X Γ H138 h0 w9 h9 s9 := TX.out ht1 ht2 ht3 hyy
                      refine lv_aload_n hx hb dL_lay_308 rfl (lv_at hl 3 rfl) ?_
                      refine lv_iconst (v := 0) hx hb dL_lay_309 rfl ?_
                      refine q_iald E hC138 g2 rfl rfl (rl_91_0 (show (0 : Int32).toInt = 0 from by decide) (by omega) (by omega)) (i_in (a := 0) (show (0 : Int32).toInt = 0 from by decide) (by omega) (by omega)) dL_lay_310 (fun v143 ev143 lv143 uv143 => ?_)
                      have m144 : aI H138 h2 (0) = v143.toInt := aI_of (show (0 : Int32).toInt = 0 from by decide) ev143
                      refine lv_aload_n hx hb dL_lay_311 rfl (lv_at hl 3 rfl) ?_
                      refine lv_iconst (v := 1) hx hb dL_lay_312 rfl ?_
                      refine q_iald E hC138 g2 rfl rfl (rl_91_1 (show (1 : Int32).toInt = 1 from by decide) (by omega) (by omega)) (i_in (a := 1) (show (1 : Int32).toInt = 1 from by decide) (by omega) (by omega)) dL_lay_313 (fun v145 ev145 lv145 uv145 => ?_)
                      have m146 : aI H138 h2 (1) = v145.toInt := aI_of (show (1 : Int32).toInt = 1 from by decide) ev145
                      refine lv_imul hx hb dL_lay_314 (lv_topi (fun v147 ev147 => ?_))
                      have hml := mul_small ev147 (a := w9) (b := h9) (by omega) (by omega) ⟨by omega, by omega, by omega, by omega⟩
                      have c148 := i_rng v138; rw [show v138.toInt = v138.toInt from rfl] at c148
                      have c149 := i_rng v147; rw [show v147.toInt = v147.toInt from rfl] at c149
                      refine q_icmp_ne hx hb (a := v138.toInt) (b := v147.toInt) rfl rfl (tgt := 322) dL_lay_315 rfl (fun c150 => ?_) (fun c150 => ?_)
                      · refine lv_iconst (v := 0) hx hb dL_lay_322 rfl ?_
                        exact ret 0 H138 locs138 _ _ dL_lay_323 (Or.inl rfl) ⟨hKp138, Or.inr ⟨rfl, by omega⟩⟩ hC138 hS138
                      · refine lv_iconst (v := 1) hx hb dL_lay_318 rfl ?_
                        refine lv_goto (tgt := 323) hx hb dL_lay_319 rfl ?_
                        exact ret 1 H138 locs138 _ _ dL_lay_323 (Or.inr rfl) ⟨hKp138, Or.inl ⟨rfl, by rw [hw9, hh9, hs9]; exact hyq.2⟩⟩ hC138 hS138
                    · refine lv_aload_n hx hb dL_lay_280 rfl (lv_at hl 1 rfl) ?_
                      refine lv_aload_n hx hb dL_lay_281 rfl (lv_at hl 2 rfl) ?_
                      refine q_ldcS E hS128 (i := 14) (by decide) dL_lay_282 ?_
                      refine q_goV (q_runS (As := [.ref h0, .ref h1, .ref (skd X 14)]) (rest := []) E hS128 (m_L_say l X Γ H128 hC128 h0 g0 h1 g1 14 (by decide) ra gra ur tp ((kp_R hKp128 gra (ci := 4) (k := 0) rfl (by decide) rfl).trans htp) gtp _ lt (by omega)) cw_L_say cl_RL_48 rfl hl.1 rfl (Nat.zero_le _) (by decide) dL_lay_284) hS128 (fun H151 locs151 hr151 hC151 hS151 => ?_)
                      obtain ⟨hp151, hr151⟩ := hr151
                      have hKp151 := hKp128.tr (hp151.mono rfl)
                      have m152 : aI H151 h2 (0) = aI H128 h2 (0) := aI_kp hp151 g2 rfl rfl
                      have m153 : aI H151 h2 (1) = aI H128 h2 (1) := aI_kp hp151 g2 rfl rfl
                      have m154 : aI H151 h2 (2) = aI H128 h2 (2) := aI_kp hp151 g2 rfl rfl
                      obtain ⟨f151_0, f151_1⟩ := hr151
                      have lt1 := f151_0
                      refine lv_aload_n hx hb dL_lay_287 rfl (lv_at hl 1 rfl) ?_
                      refine lv_aload_n hx hb dL_lay_288 rfl (lv_at hl 2 rfl) ?_
                      refine lv_aload_n hx hb dL_lay_289 rfl (lv_at hl 3 rfl) ?_
                      refine lv_bipush (v := 9) hx hb dL_lay_290 rfl ?_
                      refine q_iald E hC151 g2 rfl rfl (rl_91_8 (show (9 : Int32).toInt = 9 from by decide) (by omega) (by omega)) (i_in (a := 9) (show (9 : Int32).toInt = 9 from by decide) (by omega) (by omega)) dL_lay_292 (fun v156 ev156 lv156 uv156 => ?_)
                      have m157 : aI H151 h2 (9) = v156.toInt := aI_of (show (9 : Int32).toInt = 9 from by decide) ev156
                      refine q_goV (q_runS (As := [.ref h0, .ref h1, .int v156]) (rest := []) E hS151 (m_L_number l X Γ H151 hC151 h0 g0 h1 g1 v156 (a2 := v156.toInt) rfl ra gra ur tp ((kp_R hKp151 gra (ci := 4) (k := 0) rfl (by decide) rfl).trans htp) gtp _ lt1 (by omega) (by omega) (by omega)) cw_L_number cl_RL_43 rfl hl.1 rfl (Nat.zero_le _) (by decide) dL_lay_293) hS151 (fun H158 locs158 hr158 hC158 hS158 => ?_)
                      obtain ⟨hp158, hr158⟩ := hr158
                      have hKp158 := hKp151.tr (hp158.mono rfl)
                      have m159 : aI H158 h2 (0) = aI H151 h2 (0) := aI_kp hp158 g2 rfl rfl
                      have m160 : aI H158 h2 (1) = aI H151 h2 (1) := aI_kp hp158 g2 rfl rfl
                      have m161 : aI H158 h2 (2) = aI H151 h2 (2) := aI_kp hp158 g2 rfl rfl
                      obtain ⟨f158_0, f158_1⟩ := hr158
                      have lt1 := f158_0
                      refine lv_aload_n hx hb dL_lay_296 rfl (lv_at hl 1 rfl) ?_
                      refine lv_aload_n hx hb dL_lay_297 rfl (lv_at hl 2 rfl) ?_
                      refine q_ldcS E hS158 (i := 2) (by decide) dL_lay_298 ?_
                      refine q_goV (q_runS (As := [.ref h0, .ref h1, .ref (skd X 2)]) (rest := []) E hS158 (m_L_say l X Γ H158 hC158 h0 g0 h1 g1 2 (by decide) ra gra ur tp ((kp_R hKp158 gra (ci := 4) (k := 0) rfl (by decide) rfl).trans htp) gtp _ lt1 (by omega)) cw_L_say cl_RL_48 rfl hl.1 rfl (Nat.zero_le _) (by decide) dL_lay_300) hS158 (fun H163 locs163 hr163 hC163 hS163 => ?_)
                      obtain ⟨hp163, hr163⟩ := hr163
                      have hKp163 := hKp158.tr (hp163.mono rfl)
                      have m164 : aI H163 h2 (0) = aI H158 h2 (0) := aI_kp hp163 g2 rfl rfl
                      have m165 : aI H163 h2 (1) = aI H158 h2 (1) := aI_kp hp163 g2 rfl rfl
                      have m166 : aI H163 h2 (2) = aI H158 h2 (2) := aI_kp hp163 g2 rfl rfl
                      obtain ⟨f163_0, f163_1⟩ := hr163
                      have lx3 := LX.ai f163_0 tx (by omega) (by omega) (by omega)
                      obtain ⟨txt, lt, tx⟩ := lx3
                      refine lv_aload_n hx hb dL_lay_303 rfl (lv_at hl 1 rfl) ?_
                      refine lv_aload_n hx hb dL_lay_304 rfl (lv_at hl 2 rfl) ?_
                      refine q_goI (q_runS (As := [.ref h0, .ref h1]) (rest := []) E hS163 (m_L_load l X Γ H163 hC163 h0 g0 h1 g1 ra gra ur tp ((kp_R hKp163 gra (ci := 4) (k := 0) rfl (by decide) rfl).trans htp) gtp _ lt (by omega)) cw_L_load cl_RL_84 rfl hl.1 rfl (Nat.zero_le _) (by decide) dL_lay_305) hS163 (fun v168 H168 locs168 hr168 hC168 hS168 => ?_)
                      obtain ⟨hp168, hr168⟩ := hr168
                      have hKp168 := hKp163.tr (hp168.mono rfl)
                      have m169 : aI H168 h2 (0) = aI H163 h2 (0) := aI_kp hp168 g2 rfl rfl
                      have m170 : aI H168 h2 (1) = aI H163 h2 (1) := aI_kp hp168 g2 rfl rfl
                      have m171 : aI H168 h2 (2) = aI H163 h2 (2) := aI_kp hp168 g2 rfl rfl
                      have f168_0 := hr168
                      obtain ⟨b9, hb9, kd, vl, w3, pos, N, htk, hyy⟩ := f168_0
                      obtain ⟨T9, ht1, ht2, ht3⟩ := tx.fin htk hb9 (by omega) (by omega) (by omega)
                      have hyq : v168.toInt = w9 * h9 ∧ YD0 X Γ H168 h0 w9 h9 s9 := TX.out ht1 ht2 ht3 hyy
                      refine lv_aload_n hx hb dL_lay_308 rfl (lv_at hl 3 rfl) ?_
                      refine lv_iconst (v := 0) hx hb dL_lay_309 rfl ?_
                      refine q_iald E hC168 g2 rfl rfl (rl_91_0 (show (0 : Int32).toInt = 0 from by decide) (by omega) (by omega)) (i_in (a := 0) (show (0 : Int32).toInt = 0 from by decide) (by omega) (by omega)) dL_lay_310 (fun v173 ev173 lv173 uv173 => ?_)
                      have m174 : aI H168 h2 (0) = v173.toInt := aI_of (show (0 : Int32).toInt = 0 from by decide) ev173
                      refine lv_aload_n hx hb dL_lay_311 rfl (lv_at hl 3 rfl) ?_
                      refine lv_iconst (v := 1) hx hb dL_lay_312 rfl ?_
                      refine q_iald E hC168 g2 rfl rfl (rl_91_1 (show (1 : Int32).toInt = 1 from by decide) (by omega) (by omega)) (i_in (a := 1) (show (1 : Int32).toInt = 1 from by decide) (by omega) (by omega)) dL_lay_313 (fun v175 ev175 lv175 uv175 => ?_)
                      have m176 : aI H168 h2 (1) = v175.toInt := aI_of (show (1 : Int32).toInt = 1 from by decide) ev175
                      refine lv_imul hx hb dL_lay_314 (lv_topi (fun v177 ev177 => ?_))
                      have hml := mul_small ev177 (a := w9) (b := h9) (by omega) (by omega) ⟨by omega, by omega, by omega, by omega⟩
                      have c178 := i_rng v168; rw [show v168.toInt = v168.toInt from rfl] at c178
                      have c179 := i_rng v177; rw [show v177.toInt = v177.toInt from rfl] at c179
                      refine q_icmp_ne hx hb (a := v168.toInt) (b := v177.toInt) rfl rfl (tgt := 322) dL_lay_315 rfl (fun c180 => ?_) (fun c180 => ?_)
                      · refine lv_iconst (v := 0) hx hb dL_lay_322 rfl ?_
                        exact ret 0 H168 locs168 _ _ dL_lay_323 (Or.inl rfl) ⟨hKp168, Or.inr ⟨rfl, by omega⟩⟩ hC168 hS168
                      · refine lv_iconst (v := 1) hx hb dL_lay_318 rfl ?_
                        refine lv_goto (tgt := 323) hx hb dL_lay_319 rfl ?_
                        exact ret 1 H168 locs168 _ _ dL_lay_323 (Or.inr rfl) ⟨hKp168, Or.inl ⟨rfl, by rw [hw9, hh9, hs9]; exact hyq.2⟩⟩ hC168 hS168
                · refine lv_aload_n hx hb dL_lay_228 rfl (lv_at hl 1 rfl) ?_
                  refine lv_aload_n hx hb dL_lay_229 rfl (lv_at hl 2 rfl) ?_
                  refine q_ldcS E hS62 (i := 12) (by decide) dL_lay_230 ?_
                  refine q_goV (q_runS (As := [.ref h0, .ref h1, .ref (skd X 12)]) (rest := []) E hS62 (m_L_say l X Γ H62 hC62 h0 g0 h1 g1 12 (by decide) ra gra ur tp ((kp_R hKp62 gra (ci := 4) (k := 0) rfl (by decide) rfl).trans htp) gtp _ lt (by omega)) cw_L_say cl_RL_48 rfl hl.1 rfl (Nat.zero_le _) (by decide) dL_lay_232) hS62 (fun H181 locs181 hr181 hC181 hS181 => ?_)
                  obtain ⟨hp181, hr181⟩ := hr181
                  have hKp181 := hKp62.tr (hp181.mono rfl)
                  have m182 : aI H181 h2 (0) = aI H62 h2 (0) := aI_kp hp181 g2 rfl rfl
                  have m183 : aI H181 h2 (1) = aI H62 h2 (1) := aI_kp hp181 g2 rfl rfl
                  have m184 : aI H181 h2 (2) = aI H62 h2 (2) := aI_kp hp181 g2 rfl rfl
                  obtain ⟨f181_0, f181_1⟩ := hr181
                  have lt1 := f181_0
                  refine lv_aload_n hx hb dL_lay_235 rfl (lv_at hl 1 rfl) ?_
                  refine lv_aload_n hx hb dL_lay_236 rfl (lv_at hl 2 rfl) ?_
                  refine lv_aload_n hx hb dL_lay_237 rfl (lv_at hl 3 rfl) ?_
                  refine lv_bipush (v := 7) hx hb dL_lay_238 rfl ?_
                  refine q_iald E hC181 g2 rfl rfl (rl_91_6 (show (7 : Int32).toInt = 7 from by decide) (by omega) (by omega)) (i_in (a := 7) (show (7 : Int32).toInt = 7 from by decide) (by omega) (by omega)) dL_lay_240 (fun v186 ev186 lv186 uv186 => ?_)
                  have m187 : aI H181 h2 (7) = v186.toInt := aI_of (show (7 : Int32).toInt = 7 from by decide) ev186
                  refine q_goV (q_runS (As := [.ref h0, .ref h1, .int v186]) (rest := []) E hS181 (m_L_number l X Γ H181 hC181 h0 g0 h1 g1 v186 (a2 := v186.toInt) rfl ra gra ur tp ((kp_R hKp181 gra (ci := 4) (k := 0) rfl (by decide) rfl).trans htp) gtp _ lt1 (by omega) (by omega) (by omega)) cw_L_number cl_RL_43 rfl hl.1 rfl (Nat.zero_le _) (by decide) dL_lay_241) hS181 (fun H188 locs188 hr188 hC188 hS188 => ?_)
                  obtain ⟨hp188, hr188⟩ := hr188
                  have hKp188 := hKp181.tr (hp188.mono rfl)
                  have m189 : aI H188 h2 (0) = aI H181 h2 (0) := aI_kp hp188 g2 rfl rfl
                  have m190 : aI H188 h2 (1) = aI H181 h2 (1) := aI_kp hp188 g2 rfl rfl
                  have m191 : aI H188 h2 (2) = aI H181 h2 (2) := aI_kp hp188 g2 rfl rfl
                  obtain ⟨f188_0, f188_1⟩ := hr188
                  have lt1 := f188_0
                  refine lv_aload_n hx hb dL_lay_244 rfl (lv_at hl 1 rfl) ?_
                  refine lv_aload_n hx hb dL_lay_245 rfl (lv_at hl 2 rfl) ?_
                  refine q_ldcS E hS188 (i := 2) (by decide) dL_lay_246 ?_
                  refine q_goV (q_runS (As := [.ref h0, .ref h1, .ref (skd X 2)]) (rest := []) E hS188 (m_L_say l X Γ H188 hC188 h0 g0 h1 g1 2 (by decide) ra gra ur tp ((kp_R hKp188 gra (ci := 4) (k := 0) rfl (by decide) rfl).trans htp) gtp _ lt1 (by omega)) cw_L_say cl_RL_48 rfl hl.1 rfl (Nat.zero_le _) (by decide) dL_lay_248) hS188 (fun H193 locs193 hr193 hC193 hS193 => ?_)
                  obtain ⟨hp193, hr193⟩ := hr193
                  have hKp193 := hKp188.tr (hp193.mono rfl)
                  have m194 : aI H193 h2 (0) = aI H188 h2 (0) := aI_kp hp193 g2 rfl rfl
                  have m195 : aI H193 h2 (1) = aI H188 h2 (1) := aI_kp hp193 g2 rfl rfl
                  have m196 : aI H193 h2 (2) = aI H188 h2 (2) := aI_kp hp193 g2 rfl rfl
                  obtain ⟨f193_0, f193_1⟩ := hr193
                  have lx3 := LX.ab f193_0 tx (by omega) (by omega) (by omega)
                  obtain ⟨txt, lt, tx⟩ := lx3
                  refine lv_aload_n hx hb dL_lay_251 rfl (lv_at hl 3 rfl) ?_
                  refine lv_iconst (v := 5) hx hb dL_lay_252 rfl ?_
                  refine q_iald E hC193 g2 rfl rfl (rl_91_4 (show (5 : Int32).toInt = 5 from by decide) (by omega) (by omega)) (i_in (a := 5) (show (5 : Int32).toInt = 5 from by decide) (by omega) (by omega)) dL_lay_253 (fun v198 ev198 lv198 uv198 => ?_)
                  have m199 : aI H193 h2 (5) = v198.toInt := aI_of (show (5 : Int32).toInt = 5 from by decide) ev198
                  refine lv_iconst (v := 2) hx hb dL_lay_254 rfl ?_
                  refine lv_ishr hx hb dL_lay_255 (lv_topi (fun v200 ev200 => ?_))
                  refine lv_iconst (v := 1) hx hb dL_lay_256 rfl ?_
                  refine lv_iand hx hb dL_lay_257 (lv_topi (fun v201 ev201 => ?_))
                  have bv201 := i_andc ev201 (show (1 : Int32).toInt = 1 from by decide) (by decide)
                  refine lv_iconst (v := 1) hx hb dL_lay_258 rfl ?_
                  refine q_icmp_ne hx hb (a := v201.toInt) (b := 1) rfl (by decide) (tgt := 269) dL_lay_259 rfl (fun c202 => ?_) (fun c202 => ?_)
                  · refine lv_aload_n hx hb dL_lay_269 rfl (lv_at hl 3 rfl) ?_
                    refine lv_iconst (v := 5) hx hb dL_lay_270 rfl ?_
                    refine q_iald E hC193 g2 rfl rfl (rl_91_4 (show (5 : Int32).toInt = 5 from by decide) (by omega) (by omega)) (i_in (a := 5) (show (5 : Int32).toInt = 5 from by decide) (by omega) (by omega)) dL_lay_271 (fun v203 ev203 lv203 uv203 => ?_)
                    have m204 : aI H193 h2 (5) = v203.toInt := aI_of (show (5 : Int32).toInt = 5 from by decide) ev203
                    refine lv_iconst (v := 3) hx hb dL_lay_272 rfl ?_
                    refine lv_ishr hx hb dL_lay_273 (lv_topi (fun v205 ev205 => ?_))
                    refine lv_iconst (v := 1) hx hb dL_lay_274 rfl ?_
                    refine lv_iand hx hb dL_lay_275 (lv_topi (fun v206 ev206 => ?_))
                    have bv206 := i_andc ev206 (show (1 : Int32).toInt = 1 from by decide) (by decide)
                    refine lv_iconst (v := 1) hx hb dL_lay_276 rfl ?_
                    refine q_icmp_ne hx hb (a := v206.toInt) (b := 1) rfl (by decide) (tgt := 303) dL_lay_277 rfl (fun c207 => ?_) (fun c207 => ?_)
                    · refine lv_aload_n hx hb dL_lay_303 rfl (lv_at hl 1 rfl) ?_
                      refine lv_aload_n hx hb dL_lay_304 rfl (lv_at hl 2 rfl) ?_
                      refine q_goI (q_runS (As := [.ref h0, .ref h1]) (rest := []) E hS193 (m_L_load l X Γ H193 hC193 h0 g0 h1 g1 ra gra ur tp ((kp_R hKp193 gra (ci := 4) (k := 0) rfl (by decide) rfl).trans htp) gtp _ lt (by omega)) cw_L_load cl_RL_84 rfl hl.1 rfl (Nat.zero_le _) (by decide) dL_lay_305) hS193 (fun v208 H208 locs208 hr208 hC208 hS208 => ?_)
                      obtain ⟨hp208, hr208⟩ := hr208
                      have hKp208 := hKp193.tr (hp208.mono rfl)
                      have m209 : aI H208 h2 (0) = aI H193 h2 (0) := aI_kp hp208 g2 rfl rfl
                      have m210 : aI H208 h2 (1) = aI H193 h2 (1) := aI_kp hp208 g2 rfl rfl
                      have m211 : aI H208 h2 (2) = aI H193 h2 (2) := aI_kp hp208 g2 rfl rfl
                      have f208_0 := hr208
                      obtain ⟨b9, hb9, kd, vl, w3, pos, N, htk, hyy⟩ := f208_0
                      obtain ⟨T9, ht1, ht2, ht3⟩ := tx.fin htk hb9 (by omega) (by omega) (by omega)
                      have hyq : v208.toInt = w9 * h9 ∧ YD0 X Γ H208 h0 w9 h9 s9 := TX.out ht1 ht2 ht3 hyy
                      refine lv_aload_n hx hb dL_lay_308 rfl (lv_at hl 3 rfl) ?_
                      refine lv_iconst (v := 0) hx hb dL_lay_309 rfl ?_
                      refine q_iald E hC208 g2 rfl rfl (rl_91_0 (show (0 : Int32).toInt = 0 from by decide) (by omega) (by omega)) (i_in (a := 0) (show (0 : Int32).toInt = 0 from by decide) (by omega) (by omega)) dL_lay_310 (fun v213 ev213 lv213 uv213 => ?_)
                      have m214 : aI H208 h2 (0) = v213.toInt := aI_of (show (0 : Int32).toInt = 0 from by decide) ev213
                      refine lv_aload_n hx hb dL_lay_311 rfl (lv_at hl 3 rfl) ?_
                      refine lv_iconst (v := 1) hx hb dL_lay_312 rfl ?_
                      refine q_iald E hC208 g2 rfl rfl (rl_91_1 (show (1 : Int32).toInt = 1 from by decide) (by omega) (by omega)) (i_in (a := 1) (show (1 : Int32).toInt = 1 from by decide) (by omega) (by omega)) dL_lay_313 (fun v215 ev215 lv215 uv215 => ?_)
                      have m216 : aI H208 h2 (1) = v215.toInt := aI_of (show (1 : Int32).toInt = 1 from by decide) ev215
                      refine lv_imul hx hb dL_lay_314 (lv_topi (fun v217 ev217 => ?_))
                      have hml := mul_small ev217 (a := w9) (b := h9) (by omega) (by omega) ⟨by omega, by omega, by omega, by omega⟩
                      have c218 := i_rng v208; rw [show v208.toInt = v208.toInt from rfl] at c218
                      have c219 := i_rng v217; rw [show v217.toInt = v217.toInt from rfl] at c219
                      refine q_icmp_ne hx hb (a := v208.toInt) (b := v217.toInt) rfl rfl (tgt := 322) dL_lay_315 rfl (fun c220 => ?_) (fun c220 => ?_)
                      · refine lv_iconst (v := 0) hx hb dL_lay_322 rfl ?_
                        exact ret 0 H208 locs208 _ _ dL_lay_323 (Or.inl rfl) ⟨hKp208, Or.inr ⟨rfl, by omega⟩⟩ hC208 hS208
                      · refine lv_iconst (v := 1) hx hb dL_lay_318 rfl ?_
                        refine lv_goto (tgt := 323) hx hb dL_lay_319 rfl ?_
                        exact ret 1 H208 locs208 _ _ dL_lay_323 (Or.inr rfl) ⟨hKp208, Or.inl ⟨rfl, by rw [hw9, hh9, hs9]; exact hyq.2⟩⟩ hC208 hS208
                    · refine lv_aload_n hx hb dL_lay_280 rfl (lv_at hl 1 rfl) ?_
                      refine lv_aload_n hx hb dL_lay_281 rfl (lv_at hl 2 rfl) ?_
                      refine q_ldcS E hS193 (i := 14) (by decide) dL_lay_282 ?_
                      refine q_goV (q_runS (As := [.ref h0, .ref h1, .ref (skd X 14)]) (rest := []) E hS193 (m_L_say l X Γ H193 hC193 h0 g0 h1 g1 14 (by decide) ra gra ur tp ((kp_R hKp193 gra (ci := 4) (k := 0) rfl (by decide) rfl).trans htp) gtp _ lt (by omega)) cw_L_say cl_RL_48 rfl hl.1 rfl (Nat.zero_le _) (by decide) dL_lay_284) hS193 (fun H221 locs221 hr221 hC221 hS221 => ?_)
                      obtain ⟨hp221, hr221⟩ := hr221
                      have hKp221 := hKp193.tr (hp221.mono rfl)
                      have m222 : aI H221 h2 (0) = aI H193 h2 (0) := aI_kp hp221 g2 rfl rfl
                      have m223 : aI H221 h2 (1) = aI H193 h2 (1) := aI_kp hp221 g2 rfl rfl
                      have m224 : aI H221 h2 (2) = aI H193 h2 (2) := aI_kp hp221 g2 rfl rfl
                      obtain ⟨f221_0, f221_1⟩ := hr221
                      have lt1 := f221_0
                      refine lv_aload_n hx hb dL_lay_287 rfl (lv_at hl 1 rfl) ?_
                      refine lv_aload_n hx hb dL_lay_288 rfl (lv_at hl 2 rfl) ?_
                      refine lv_aload_n hx hb dL_lay_289 rfl (lv_at hl 3 rfl) ?_
                      refine lv_bipush (v := 9) hx hb dL_lay_290 rfl ?_
                      refine q_iald E hC221 g2 rfl rfl (rl_91_8 (show (9 : Int32).toInt = 9 from by decide) (by omega) (by omega)) (i_in (a := 9) (show (9 : Int32).toInt = 9 from by decide) (by omega) (by omega)) dL_lay_292 (fun v226 ev226 lv226 uv226 => ?_)
                      have m227 : aI H221 h2 (9) = v226.toInt := aI_of (show (9 : Int32).toInt = 9 from by decide) ev226
                      refine q_goV (q_runS (As := [.ref h0, .ref h1, .int v226]) (rest := []) E hS221 (m_L_number l X Γ H221 hC221 h0 g0 h1 g1 v226 (a2 := v226.toInt) rfl ra gra ur tp ((kp_R hKp221 gra (ci := 4) (k := 0) rfl (by decide) rfl).trans htp) gtp _ lt1 (by omega) (by omega) (by omega)) cw_L_number cl_RL_43 rfl hl.1 rfl (Nat.zero_le _) (by decide) dL_lay_293) hS221 (fun H228 locs228 hr228 hC228 hS228 => ?_)
                      obtain ⟨hp228, hr228⟩ := hr228
                      have hKp228 := hKp221.tr (hp228.mono rfl)
                      have m229 : aI H228 h2 (0) = aI H221 h2 (0) := aI_kp hp228 g2 rfl rfl
                      have m230 : aI H228 h2 (1) = aI H221 h2 (1) := aI_kp hp228 g2 rfl rfl
                      have m231 : aI H228 h2 (2) = aI H221 h2 (2) := aI_kp hp228 g2 rfl rfl
                      obtain ⟨f228_0, f228_1⟩ := hr228
                      have lt1 := f228_0
                      refine lv_aload_n hx hb dL_lay_296 rfl (lv_at hl 1 rfl) ?_
                      refine lv_aload_n hx hb dL_lay_297 rfl (lv_at hl 2 rfl) ?_
                      refine q_ldcS E hS228 (i := 2) (by decide) dL_lay_298 ?_
                      refine q_goV (q_runS (As := [.ref h0, .ref h1, .ref (skd X 2)]) (rest := []) E hS228 (m_L_say l X Γ H228 hC228 h0 g0 h1 g1 2 (by decide) ra gra ur tp ((kp_R hKp228 gra (ci := 4) (k := 0) rfl (by decide) rfl).trans htp) gtp _ lt1 (by omega)) cw_L_say cl_RL_48 rfl hl.1 rfl (Nat.zero_le _) (by decide) dL_lay_300) hS228 (fun H233 locs233 hr233 hC233 hS233 => ?_)
                      obtain ⟨hp233, hr233⟩ := hr233
                      have hKp233 := hKp228.tr (hp233.mono rfl)
                      have m234 : aI H233 h2 (0) = aI H228 h2 (0) := aI_kp hp233 g2 rfl rfl
                      have m235 : aI H233 h2 (1) = aI H228 h2 (1) := aI_kp hp233 g2 rfl rfl
                      have m236 : aI H233 h2 (2) = aI H228 h2 (2) := aI_kp hp233 g2 rfl rfl
                      obtain ⟨f233_0, f233_1⟩ := hr233
                      have lx3 := LX.ai f233_0 tx (by omega) (by omega) (by omega)
                      obtain ⟨txt, lt, tx⟩ := lx3
                      refine lv_aload_n hx hb dL_lay_303 rfl (lv_at hl 1 rfl) ?_
                      refine lv_aload_n hx hb dL_lay_304 rfl (lv_at hl 2 rfl) ?_
                      refine q_goI (q_runS (As := [.ref h0, .ref h1]) (rest := []) E hS233 (m_L_load l X Γ H233 hC233 h0 g0 h1 g1 ra gra ur tp ((kp_R hKp233 gra (ci := 4) (k := 0) rfl (by decide) rfl).trans htp) gtp _ lt (by omega)) cw_L_load cl_RL_84 rfl hl.1 rfl (Nat.zero_le _) (by decide) dL_lay_305) hS233 (fun v238 H238 locs238 hr238 hC238 hS238 => ?_)
                      obtain ⟨hp238, hr238⟩ := hr238
                      have hKp238 := hKp233.tr (hp238.mono rfl)
                      have m239 : aI H238 h2 (0) = aI H233 h2 (0) := aI_kp hp238 g2 rfl rfl
                      have m240 : aI H238 h2 (1) = aI H233 h2 (1) := aI_kp hp238 g2 rfl rfl
                      have m241 : aI H238 h2 (2) = aI H233 h2 (2) := aI_kp hp238 g2 rfl rfl
                      have f238_0 := hr238
                      obtain ⟨b9, hb9, kd, vl, w3, pos, N, htk, hyy⟩ := f238_0
                      obtain ⟨T9, ht1, ht2, ht3⟩ := tx.fin htk hb9 (by omega) (by omega) (by omega)
                      have hyq : v238.toInt = w9 * h9 ∧ YD0 X Γ H238 h0 w9 h9 s9 := TX.out ht1 ht2 ht3 hyy
                      refine lv_aload_n hx hb dL_lay_308 rfl (lv_at hl 3 rfl) ?_
                      refine lv_iconst (v := 0) hx hb dL_lay_309 rfl ?_
                      refine q_iald E hC238 g2 rfl rfl (rl_91_0 (show (0 : Int32).toInt = 0 from by decide) (by omega) (by omega)) (i_in (a := 0) (show (0 : Int32).toInt = 0 from by decide) (by omega) (by omega)) dL_lay_310 (fun v243 ev243 lv243 uv243 => ?_)
                      have m244 : aI H238 h2 (0) = v243.toInt := aI_of (show (0 : Int32).toInt = 0 from by decide) ev243
                      refine lv_aload_n hx hb dL_lay_311 rfl (lv_at hl 3 rfl) ?_
                      refine lv_iconst (v := 1) hx hb dL_lay_312 rfl ?_
                      refine q_iald E hC238 g2 rfl rfl (rl_91_1 (show (1 : Int32).toInt = 1 from by decide) (by omega) (by omega)) (i_in (a := 1) (show (1 : Int32).toInt = 1 from by decide) (by omega) (by omega)) dL_lay_313 (fun v245 ev245 lv245 uv245 => ?_)
                      have m246 : aI H238 h2 (1) = v245.toInt := aI_of (show (1 : Int32).toInt = 1 from by decide) ev245
                      refine lv_imul hx hb dL_lay_314 (lv_topi (fun v247 ev247 => ?_))
                      have hml := mul_small ev247 (a := w9) (b := h9) (by omega) (by omega) ⟨by omega, by omega, by omega, by omega⟩
                      have c248 := i_rng v238; rw [show v238.toInt = v238.toInt from rfl] at c248
                      have c249 := i_rng v247; rw [show v247.toInt = v247.toInt from rfl] at c249
                      refine q_icmp_ne hx hb (a := v238.toInt) (b := v247.toInt) rfl rfl (tgt := 322) dL_lay_315 rfl (fun c250 => ?_) (fun c250 => ?_)
                      · refine lv_iconst (v := 0) hx hb dL_lay_322 rfl ?_
                        exact ret 0 H238 locs238 _ _ dL_lay_323 (Or.inl rfl) ⟨hKp238, Or.inr ⟨rfl, by omega⟩⟩ hC238 hS238
                      · refine lv_iconst (v := 1) hx hb dL_lay_318 rfl ?_
                        refine lv_goto (tgt := 323) hx hb dL_lay_319 rfl ?_
                        exact ret 1 H238 locs238 _ _ dL_lay_323 (Or.inr rfl) ⟨hKp238, Or.inl ⟨rfl, by rw [hw9, hh9, hs9]; exact hyq.2⟩⟩ hC238 hS238
                  · refine lv_aload_n hx hb dL_lay_262 rfl (lv_at hl 1 rfl) ?_
                    refine lv_aload_n hx hb dL_lay_263 rfl (lv_at hl 2 rfl) ?_
                    refine q_ldcS E hS193 (i := 13) (by decide) dL_lay_264 ?_
                    refine q_goV (q_runS (As := [.ref h0, .ref h1, .ref (skd X 13)]) (rest := []) E hS193 (m_L_say l X Γ H193 hC193 h0 g0 h1 g1 13 (by decide) ra gra ur tp ((kp_R hKp193 gra (ci := 4) (k := 0) rfl (by decide) rfl).trans htp) gtp _ lt (by omega)) cw_L_say cl_RL_48 rfl hl.1 rfl (Nat.zero_le _) (by decide) dL_lay_266) hS193 (fun H251 locs251 hr251 hC251 hS251 => ?_)
                    obtain ⟨hp251, hr251⟩ := hr251
                    have hKp251 := hKp193.tr (hp251.mono rfl)
                    have m252 : aI H251 h2 (0) = aI H193 h2 (0) := aI_kp hp251 g2 rfl rfl
                    have m253 : aI H251 h2 (1) = aI H193 h2 (1) := aI_kp hp251 g2 rfl rfl
                    have m254 : aI H251 h2 (2) = aI H193 h2 (2) := aI_kp hp251 g2 rfl rfl
                    obtain ⟨f251_0, f251_1⟩ := hr251
                    have lx3 := LX.as f251_0 tx (by omega)
                    obtain ⟨txt, lt, tx⟩ := lx3
                    refine lv_aload_n hx hb dL_lay_269 rfl (lv_at hl 3 rfl) ?_
                    refine lv_iconst (v := 5) hx hb dL_lay_270 rfl ?_
                    refine q_iald E hC251 g2 rfl rfl (rl_91_4 (show (5 : Int32).toInt = 5 from by decide) (by omega) (by omega)) (i_in (a := 5) (show (5 : Int32).toInt = 5 from by decide) (by omega) (by omega)) dL_lay_271 (fun v256 ev256 lv256 uv256 => ?_)
                    have m257 : aI H251 h2 (5) = v256.toInt := aI_of (show (5 : Int32).toInt = 5 from by decide) ev256
                    refine lv_iconst (v := 3) hx hb dL_lay_272 rfl ?_
                    refine lv_ishr hx hb dL_lay_273 (lv_topi (fun v258 ev258 => ?_))
                    refine lv_iconst (v := 1) hx hb dL_lay_274 rfl ?_
                    refine lv_iand hx hb dL_lay_275 (lv_topi (fun v259 ev259 => ?_))
                    have bv259 := i_andc ev259 (show (1 : Int32).toInt = 1 from by decide) (by decide)
                    refine lv_iconst (v := 1) hx hb dL_lay_276 rfl ?_
                    refine q_icmp_ne hx hb (a := v259.toInt) (b := 1) rfl (by decide) (tgt := 303) dL_lay_277 rfl (fun c260 => ?_) (fun c260 => ?_)
                    · refine lv_aload_n hx hb dL_lay_303 rfl (lv_at hl 1 rfl) ?_
                      refine lv_aload_n hx hb dL_lay_304 rfl (lv_at hl 2 rfl) ?_
                      refine q_goI (q_runS (As := [.ref h0, .ref h1]) (rest := []) E hS251 (m_L_load l X Γ H251 hC251 h0 g0 h1 g1 ra gra ur tp ((kp_R hKp251 gra (ci := 4) (k := 0) rfl (by decide) rfl).trans htp) gtp _ lt (by omega)) cw_L_load cl_RL_84 rfl hl.1 rfl (Nat.zero_le _) (by decide) dL_lay_305) hS251 (fun v261 H261 locs261 hr261 hC261 hS261 => ?_)
                      obtain ⟨hp261, hr261⟩ := hr261
                      have hKp261 := hKp251.tr (hp261.mono rfl)
                      have m262 : aI H261 h2 (0) = aI H251 h2 (0) := aI_kp hp261 g2 rfl rfl
                      have m263 : aI H261 h2 (1) = aI H251 h2 (1) := aI_kp hp261 g2 rfl rfl
                      have m264 : aI H261 h2 (2) = aI H251 h2 (2) := aI_kp hp261 g2 rfl rfl
                      have f261_0 := hr261
                      obtain ⟨b9, hb9, kd, vl, w3, pos, N, htk, hyy⟩ := f261_0
                      obtain ⟨T9, ht1, ht2, ht3⟩ := tx.fin htk hb9 (by omega) (by omega) (by omega)
                      have hyq : v261.toInt = w9 * h9 ∧ YD0 X Γ H261 h0 w9 h9 s9 := TX.out ht1 ht2 ht3 hyy
                      refine lv_aload_n hx hb dL_lay_308 rfl (lv_at hl 3 rfl) ?_
                      refine lv_iconst (v := 0) hx hb dL_lay_309 rfl ?_
                      refine q_iald E hC261 g2 rfl rfl (rl_91_0 (show (0 : Int32).toInt = 0 from by decide) (by omega) (by omega)) (i_in (a := 0) (show (0 : Int32).toInt = 0 from by decide) (by omega) (by omega)) dL_lay_310 (fun v266 ev266 lv266 uv266 => ?_)
                      have m267 : aI H261 h2 (0) = v266.toInt := aI_of (show (0 : Int32).toInt = 0 from by decide) ev266
                      refine lv_aload_n hx hb dL_lay_311 rfl (lv_at hl 3 rfl) ?_
                      refine lv_iconst (v := 1) hx hb dL_lay_312 rfl ?_
                      refine q_iald E hC261 g2 rfl rfl (rl_91_1 (show (1 : Int32).toInt = 1 from by decide) (by omega) (by omega)) (i_in (a := 1) (show (1 : Int32).toInt = 1 from by decide) (by omega) (by omega)) dL_lay_313 (fun v268 ev268 lv268 uv268 => ?_)
                      have m269 : aI H261 h2 (1) = v268.toInt := aI_of (show (1 : Int32).toInt = 1 from by decide) ev268
                      refine lv_imul hx hb dL_lay_314 (lv_topi (fun v270 ev270 => ?_))
                      have hml := mul_small ev270 (a := w9) (b := h9) (by omega) (by omega) ⟨by omega, by omega, by omega, by omega⟩
                      have c271 := i_rng v261; rw [show v261.toInt = v261.toInt from rfl] at c271
                      have c272 := i_rng v270; rw [show v270.toInt = v270.toInt from rfl] at c272
                      refine q_icmp_ne hx hb (a := v261.toInt) (b := v270.toInt) rfl rfl (tgt := 322) dL_lay_315 rfl (fun c273 => ?_) (fun c273 => ?_)
                      · refine lv_iconst (v := 0) hx hb dL_lay_322 rfl ?_
                        exact ret 0 H261 locs261 _ _ dL_lay_323 (Or.inl rfl) ⟨hKp261, Or.inr ⟨rfl, by omega⟩⟩ hC261 hS261
                      · refine lv_iconst (v := 1) hx hb dL_lay_318 rfl ?_
                        refine lv_goto (tgt := 323) hx hb dL_lay_319 rfl ?_
                        exact ret 1 H261 locs261 _ _ dL_lay_323 (Or.inr rfl) ⟨hKp261, Or.inl ⟨rfl, by rw [hw9, hh9, hs9]; exact hyq.2⟩⟩ hC261 hS261
                    · refine lv_aload_n hx hb dL_lay_280 rfl (lv_at hl 1 rfl) ?_
                      refine lv_aload_n hx hb dL_lay_281 rfl (lv_at hl 2 rfl) ?_
                      refine q_ldcS E hS251 (i := 14) (by decide) dL_lay_282 ?_
                      refine q_goV (q_runS (As := [.ref h0, .ref h1, .ref (skd X 14)]) (rest := []) E hS251 (m_L_say l X Γ H251 hC251 h0 g0 h1 g1 14 (by decide) ra gra ur tp ((kp_R hKp251 gra (ci := 4) (k := 0) rfl (by decide) rfl).trans htp) gtp _ lt (by omega)) cw_L_say cl_RL_48 rfl hl.1 rfl (Nat.zero_le _) (by decide) dL_lay_284) hS251 (fun H274 locs274 hr274 hC274 hS274 => ?_)
                      obtain ⟨hp274, hr274⟩ := hr274
                      have hKp274 := hKp251.tr (hp274.mono rfl)
                      have m275 : aI H274 h2 (0) = aI H251 h2 (0) := aI_kp hp274 g2 rfl rfl
                      have m276 : aI H274 h2 (1) = aI H251 h2 (1) := aI_kp hp274 g2 rfl rfl
                      have m277 : aI H274 h2 (2) = aI H251 h2 (2) := aI_kp hp274 g2 rfl rfl
                      obtain ⟨f274_0, f274_1⟩ := hr274
                      have lt1 := f274_0
                      refine lv_aload_n hx hb dL_lay_287 rfl (lv_at hl 1 rfl) ?_
                      refine lv_aload_n hx hb dL_lay_288 rfl (lv_at hl 2 rfl) ?_
                      refine lv_aload_n hx hb dL_lay_289 rfl (lv_at hl 3 rfl) ?_
                      refine lv_bipush (v := 9) hx hb dL_lay_290 rfl ?_
                      refine q_iald E hC274 g2 rfl rfl (rl_91_8 (show (9 : Int32).toInt = 9 from by decide) (by omega) (by omega)) (i_in (a := 9) (show (9 : Int32).toInt = 9 from by decide) (by omega) (by omega)) dL_lay_292 (fun v279 ev279 lv279 uv279 => ?_)
                      have m280 : aI H274 h2 (9) = v279.toInt := aI_of (show (9 : Int32).toInt = 9 from by decide) ev279
                      refine q_goV (q_runS (As := [.ref h0, .ref h1, .int v279]) (rest := []) E hS274 (m_L_number l X Γ H274 hC274 h0 g0 h1 g1 v279 (a2 := v279.toInt) rfl ra gra ur tp ((kp_R hKp274 gra (ci := 4) (k := 0) rfl (by decide) rfl).trans htp) gtp _ lt1 (by omega) (by omega) (by omega)) cw_L_number cl_RL_43 rfl hl.1 rfl (Nat.zero_le _) (by decide) dL_lay_293) hS274 (fun H281 locs281 hr281 hC281 hS281 => ?_)
                      obtain ⟨hp281, hr281⟩ := hr281
                      have hKp281 := hKp274.tr (hp281.mono rfl)
                      have m282 : aI H281 h2 (0) = aI H274 h2 (0) := aI_kp hp281 g2 rfl rfl
                      have m283 : aI H281 h2 (1) = aI H274 h2 (1) := aI_kp hp281 g2 rfl rfl
                      have m284 : aI H281 h2 (2) = aI H274 h2 (2) := aI_kp hp281 g2 rfl rfl
                      obtain ⟨f281_0, f281_1⟩ := hr281
                      have lt1 := f281_0
                      refine lv_aload_n hx hb dL_lay_296 rfl (lv_at hl 1 rfl) ?_
                      refine lv_aload_n hx hb dL_lay_297 rfl (lv_at hl 2 rfl) ?_
                      refine q_ldcS E hS281 (i := 2) (by decide) dL_lay_298 ?_
                      refine q_goV (q_runS (As := [.ref h0, .ref h1, .ref (skd X 2)]) (rest := []) E hS281 (m_L_say l X Γ H281 hC281 h0 g0 h1 g1 2 (by decide) ra gra ur tp ((kp_R hKp281 gra (ci := 4) (k := 0) rfl (by decide) rfl).trans htp) gtp _ lt1 (by omega)) cw_L_say cl_RL_48 rfl hl.1 rfl (Nat.zero_le _) (by decide) dL_lay_300) hS281 (fun H286 locs286 hr286 hC286 hS286 => ?_)
                      obtain ⟨hp286, hr286⟩ := hr286
                      have hKp286 := hKp281.tr (hp286.mono rfl)
                      have m287 : aI H286 h2 (0) = aI H281 h2 (0) := aI_kp hp286 g2 rfl rfl
                      have m288 : aI H286 h2 (1) = aI H281 h2 (1) := aI_kp hp286 g2 rfl rfl
                      have m289 : aI H286 h2 (2) = aI H281 h2 (2) := aI_kp hp286 g2 rfl rfl
                      obtain ⟨f286_0, f286_1⟩ := hr286
                      have lx3 := LX.ai f286_0 tx (by omega) (by omega) (by omega)
                      obtain ⟨txt, lt, tx⟩ := lx3
                      refine lv_aload_n hx hb dL_lay_303 rfl (lv_at hl 1 rfl) ?_
                      refine lv_aload_n hx hb dL_lay_304 rfl (lv_at hl 2 rfl) ?_
                      refine q_goI (q_runS (As := [.ref h0, .ref h1]) (rest := []) E hS286 (m_L_load l X Γ H286 hC286 h0 g0 h1 g1 ra gra ur tp ((kp_R hKp286 gra (ci := 4) (k := 0) rfl (by decide) rfl).trans htp) gtp _ lt (by omega)) cw_L_load cl_RL_84 rfl hl.1 rfl (Nat.zero_le _) (by decide) dL_lay_305) hS286 (fun v291 H291 locs291 hr291 hC291 hS291 => ?_)
                      obtain ⟨hp291, hr291⟩ := hr291
                      have hKp291 := hKp286.tr (hp291.mono rfl)
                      have m292 : aI H291 h2 (0) = aI H286 h2 (0) := aI_kp hp291 g2 rfl rfl
                      have m293 : aI H291 h2 (1) = aI H286 h2 (1) := aI_kp hp291 g2 rfl rfl
                      have m294 : aI H291 h2 (2) = aI H286 h2 (2) := aI_kp hp291 g2 rfl rfl
                      have f291_0 := hr291
                      obtain ⟨b9, hb9, kd, vl, w3, pos, N, htk, hyy⟩ := f291_0
                      obtain ⟨T9, ht1, ht2, ht3⟩ := tx.fin htk hb9 (by omega) (by omega) (by omega)
                      have hyq : v291.toInt = w9 * h9 ∧ YD0 X Γ H291 h0 w9 h9 s9 := TX.out ht1 ht2 ht3 hyy
                      refine lv_aload_n hx hb dL_lay_308 rfl (lv_at hl 3 rfl) ?_
                      refine lv_iconst (v := 0) hx hb dL_lay_309 rfl ?_
                      refine q_iald E hC291 g2 rfl rfl (rl_91_0 (show (0 : Int32).toInt = 0 from by decide) (by omega) (by omega)) (i_in (a := 0) (show (0 : Int32).toInt = 0 from by decide) (by omega) (by omega)) dL_lay_310 (fun v296 ev296 lv296 uv296 => ?_)
                      have m297 : aI H291 h2 (0) = v296.toInt := aI_of (show (0 : Int32).toInt = 0 from by decide) ev296
                      refine lv_aload_n hx hb dL_lay_311 rfl (lv_at hl 3 rfl) ?_
                      refine lv_iconst (v := 1) hx hb dL_lay_312 rfl ?_
                      refine q_iald E hC291 g2 rfl rfl (rl_91_1 (show (1 : Int32).toInt = 1 from by decide) (by omega) (by omega)) (i_in (a := 1) (show (1 : Int32).toInt = 1 from by decide) (by omega) (by omega)) dL_lay_313 (fun v298 ev298 lv298 uv298 => ?_)
                      have m299 : aI H291 h2 (1) = v298.toInt := aI_of (show (1 : Int32).toInt = 1 from by decide) ev298
                      refine lv_imul hx hb dL_lay_314 (lv_topi (fun v300 ev300 => ?_))
                      have hml := mul_small ev300 (a := w9) (b := h9) (by omega) (by omega) ⟨by omega, by omega, by omega, by omega⟩
                      have c301 := i_rng v291; rw [show v291.toInt = v291.toInt from rfl] at c301
                      have c302 := i_rng v300; rw [show v300.toInt = v300.toInt from rfl] at c302
                      refine q_icmp_ne hx hb (a := v291.toInt) (b := v300.toInt) rfl rfl (tgt := 322) dL_lay_315 rfl (fun c303 => ?_) (fun c303 => ?_)
                      · refine lv_iconst (v := 0) hx hb dL_lay_322 rfl ?_
                        exact ret 0 H291 locs291 _ _ dL_lay_323 (Or.inl rfl) ⟨hKp291, Or.inr ⟨rfl, by omega⟩⟩ hC291 hS291
                      · refine lv_iconst (v := 1) hx hb dL_lay_318 rfl ?_
                        refine lv_goto (tgt := 323) hx hb dL_lay_319 rfl ?_
                        exact ret 1 H291 locs291 _ _ dL_lay_323 (Or.inr rfl) ⟨hKp291, Or.inl ⟨rfl, by rw [hw9, hh9, hs9]; exact hyq.2⟩⟩ hC291 hS291
              · refine lv_aload_n hx hb dL_lay_194 rfl (lv_at hl 1 rfl) ?_
                refine lv_aload_n hx hb dL_lay_195 rfl (lv_at hl 2 rfl) ?_
                refine q_ldcS E hS62 (i := 11) (by decide) dL_lay_196 ?_
                refine q_goV (q_runS (As := [.ref h0, .ref h1, .ref (skd X 11)]) (rest := []) E hS62 (m_L_say l X Γ H62 hC62 h0 g0 h1 g1 11 (by decide) ra gra ur tp ((kp_R hKp62 gra (ci := 4) (k := 0) rfl (by decide) rfl).trans htp) gtp _ lt (by omega)) cw_L_say cl_RL_48 rfl hl.1 rfl (Nat.zero_le _) (by decide) dL_lay_198) hS62 (fun H304 locs304 hr304 hC304 hS304 => ?_)
                obtain ⟨hp304, hr304⟩ := hr304
                have hKp304 := hKp62.tr (hp304.mono rfl)
                have m305 : aI H304 h2 (0) = aI H62 h2 (0) := aI_kp hp304 g2 rfl rfl
                have m306 : aI H304 h2 (1) = aI H62 h2 (1) := aI_kp hp304 g2 rfl rfl
                have m307 : aI H304 h2 (2) = aI H62 h2 (2) := aI_kp hp304 g2 rfl rfl
                obtain ⟨f304_0, f304_1⟩ := hr304
                have lt1 := f304_0
                refine lv_aload_n hx hb dL_lay_201 rfl (lv_at hl 1 rfl) ?_
                refine lv_aload_n hx hb dL_lay_202 rfl (lv_at hl 2 rfl) ?_
                refine lv_aload_n hx hb dL_lay_203 rfl (lv_at hl 3 rfl) ?_
                refine lv_bipush (v := 6) hx hb dL_lay_204 rfl ?_
                refine q_iald E hC304 g2 rfl rfl (rl_91_5 (show (6 : Int32).toInt = 6 from by decide) (by omega) (by omega)) (i_in (a := 6) (show (6 : Int32).toInt = 6 from by decide) (by omega) (by omega)) dL_lay_206 (fun v309 ev309 lv309 uv309 => ?_)
                have m310 : aI H304 h2 (6) = v309.toInt := aI_of (show (6 : Int32).toInt = 6 from by decide) ev309
                refine q_goV (q_runS (As := [.ref h0, .ref h1, .int v309]) (rest := []) E hS304 (m_L_number l X Γ H304 hC304 h0 g0 h1 g1 v309 (a2 := v309.toInt) rfl ra gra ur tp ((kp_R hKp304 gra (ci := 4) (k := 0) rfl (by decide) rfl).trans htp) gtp _ lt1 (by omega) (by omega) (by omega)) cw_L_number cl_RL_43 rfl hl.1 rfl (Nat.zero_le _) (by decide) dL_lay_207) hS304 (fun H311 locs311 hr311 hC311 hS311 => ?_)
                obtain ⟨hp311, hr311⟩ := hr311
                have hKp311 := hKp304.tr (hp311.mono rfl)
                have m312 : aI H311 h2 (0) = aI H304 h2 (0) := aI_kp hp311 g2 rfl rfl
                have m313 : aI H311 h2 (1) = aI H304 h2 (1) := aI_kp hp311 g2 rfl rfl
                have m314 : aI H311 h2 (2) = aI H304 h2 (2) := aI_kp hp311 g2 rfl rfl
                obtain ⟨f311_0, f311_1⟩ := hr311
                have lt1 := f311_0
                refine lv_aload_n hx hb dL_lay_210 rfl (lv_at hl 1 rfl) ?_
                refine lv_aload_n hx hb dL_lay_211 rfl (lv_at hl 2 rfl) ?_
                refine q_ldcS E hS311 (i := 2) (by decide) dL_lay_212 ?_
                refine q_goV (q_runS (As := [.ref h0, .ref h1, .ref (skd X 2)]) (rest := []) E hS311 (m_L_say l X Γ H311 hC311 h0 g0 h1 g1 2 (by decide) ra gra ur tp ((kp_R hKp311 gra (ci := 4) (k := 0) rfl (by decide) rfl).trans htp) gtp _ lt1 (by omega)) cw_L_say cl_RL_48 rfl hl.1 rfl (Nat.zero_le _) (by decide) dL_lay_214) hS311 (fun H316 locs316 hr316 hC316 hS316 => ?_)
                obtain ⟨hp316, hr316⟩ := hr316
                have hKp316 := hKp311.tr (hp316.mono rfl)
                have m317 : aI H316 h2 (0) = aI H311 h2 (0) := aI_kp hp316 g2 rfl rfl
                have m318 : aI H316 h2 (1) = aI H311 h2 (1) := aI_kp hp316 g2 rfl rfl
                have m319 : aI H316 h2 (2) = aI H311 h2 (2) := aI_kp hp316 g2 rfl rfl
                obtain ⟨f316_0, f316_1⟩ := hr316
                have lx3 := LX.aw f316_0 tx (by omega) (by omega)
                obtain ⟨txt, lt, tx⟩ := lx3
                refine lv_aload_n hx hb dL_lay_217 rfl (lv_at hl 3 rfl) ?_
                refine lv_iconst (v := 5) hx hb dL_lay_218 rfl ?_
                refine q_iald E hC316 g2 rfl rfl (rl_91_4 (show (5 : Int32).toInt = 5 from by decide) (by omega) (by omega)) (i_in (a := 5) (show (5 : Int32).toInt = 5 from by decide) (by omega) (by omega)) dL_lay_219 (fun v321 ev321 lv321 uv321 => ?_)
                have m322 : aI H316 h2 (5) = v321.toInt := aI_of (show (5 : Int32).toInt = 5 from by decide) ev321
                refine lv_iconst (v := 1) hx hb dL_lay_220 rfl ?_
                refine lv_ishr hx hb dL_lay_221 (lv_topi (fun v323 ev323 => ?_))
                refine lv_iconst (v := 1) hx hb dL_lay_222 rfl ?_
                refine lv_iand hx hb dL_lay_223 (lv_topi (fun v324 ev324 => ?_))
                have bv324 := i_andc ev324 (show (1 : Int32).toInt = 1 from by decide) (by decide)
                refine lv_iconst (v := 1) hx hb dL_lay_224 rfl ?_
                refine q_icmp_ne hx hb (a := v324.toInt) (b := 1) rfl (by decide) (tgt := 251) dL_lay_225 rfl (fun c325 => ?_) (fun c325 => ?_)
                · refine lv_aload_n hx hb dL_lay_251 rfl (lv_at hl 3 rfl) ?_
                  refine lv_iconst (v := 5) hx hb dL_lay_252 rfl ?_
                  refine q_iald E hC316 g2 rfl rfl (rl_91_4 (show (5 : Int32).toInt = 5 from by decide) (by omega) (by omega)) (i_in (a := 5) (show (5 : Int32).toInt = 5 from by decide) (by omega) (by omega)) dL_lay_253 (fun v326 ev326 lv326 uv326 => ?_)
                  have m327 : aI H316 h2 (5) = v326.toInt := aI_of (show (5 : Int32).toInt = 5 from by decide) ev326
                  refine lv_iconst (v := 2) hx hb dL_lay_254 rfl ?_
                  refine lv_ishr hx hb dL_lay_255 (lv_topi (fun v328 ev328 => ?_))
                  refine lv_iconst (v := 1) hx hb dL_lay_256 rfl ?_
                  refine lv_iand hx hb dL_lay_257 (lv_topi (fun v329 ev329 => ?_))
                  have bv329 := i_andc ev329 (show (1 : Int32).toInt = 1 from by decide) (by decide)
                  refine lv_iconst (v := 1) hx hb dL_lay_258 rfl ?_
                  refine q_icmp_ne hx hb (a := v329.toInt) (b := 1) rfl (by decide) (tgt := 269) dL_lay_259 rfl (fun c330 => ?_) (fun c330 => ?_)
                  · refine lv_aload_n hx hb dL_lay_269 rfl (lv_at hl 3 rfl) ?_
                    refine lv_iconst (v := 5) hx hb dL_lay_270 rfl ?_
                    refine q_iald E hC316 g2 rfl rfl (rl_91_4 (show (5 : Int32).toInt = 5 from by decide) (by omega) (by omega)) (i_in (a := 5) (show (5 : Int32).toInt = 5 from by decide) (by omega) (by omega)) dL_lay_271 (fun v331 ev331 lv331 uv331 => ?_)
                    have m332 : aI H316 h2 (5) = v331.toInt := aI_of (show (5 : Int32).toInt = 5 from by decide) ev331
                    refine lv_iconst (v := 3) hx hb dL_lay_272 rfl ?_
                    refine lv_ishr hx hb dL_lay_273 (lv_topi (fun v333 ev333 => ?_))
                    refine lv_iconst (v := 1) hx hb dL_lay_274 rfl ?_
                    refine lv_iand hx hb dL_lay_275 (lv_topi (fun v334 ev334 => ?_))
                    have bv334 := i_andc ev334 (show (1 : Int32).toInt = 1 from by decide) (by decide)
                    refine lv_iconst (v := 1) hx hb dL_lay_276 rfl ?_
                    refine q_icmp_ne hx hb (a := v334.toInt) (b := 1) rfl (by decide) (tgt := 303) dL_lay_277 rfl (fun c335 => ?_) (fun c335 => ?_)
                    · refine lv_aload_n hx hb dL_lay_303 rfl (lv_at hl 1 rfl) ?_
                      refine lv_aload_n hx hb dL_lay_304 rfl (lv_at hl 2 rfl) ?_
                      refine q_goI (q_runS (As := [.ref h0, .ref h1]) (rest := []) E hS316 (m_L_load l X Γ H316 hC316 h0 g0 h1 g1 ra gra ur tp ((kp_R hKp316 gra (ci := 4) (k := 0) rfl (by decide) rfl).trans htp) gtp _ lt (by omega)) cw_L_load cl_RL_84 rfl hl.1 rfl (Nat.zero_le _) (by decide) dL_lay_305) hS316 (fun v336 H336 locs336 hr336 hC336 hS336 => ?_)
                      obtain ⟨hp336, hr336⟩ := hr336
                      have hKp336 := hKp316.tr (hp336.mono rfl)
                      have m337 : aI H336 h2 (0) = aI H316 h2 (0) := aI_kp hp336 g2 rfl rfl
                      have m338 : aI H336 h2 (1) = aI H316 h2 (1) := aI_kp hp336 g2 rfl rfl
                      have m339 : aI H336 h2 (2) = aI H316 h2 (2) := aI_kp hp336 g2 rfl rfl
                      have f336_0 := hr336
                      obtain ⟨b9, hb9, kd, vl, w3, pos, N, htk, hyy⟩ := f336_0
                      obtain ⟨T9, ht1, ht2, ht3⟩ := tx.fin htk hb9 (by omega) (by omega) (by omega)
                      have hyq : v336.toInt = w9 * h9 ∧ YD0 X Γ H336 h0 w9 h9 s9 := TX.out ht1 ht2 ht3 hyy
                      refine lv_aload_n hx hb dL_lay_308 rfl (lv_at hl 3 rfl) ?_
                      refine lv_iconst (v := 0) hx hb dL_lay_309 rfl ?_
                      refine q_iald E hC336 g2 rfl rfl (rl_91_0 (show (0 : Int32).toInt = 0 from by decide) (by omega) (by omega)) (i_in (a := 0) (show (0 : Int32).toInt = 0 from by decide) (by omega) (by omega)) dL_lay_310 (fun v341 ev341 lv341 uv341 => ?_)
                      have m342 : aI H336 h2 (0) = v341.toInt := aI_of (show (0 : Int32).toInt = 0 from by decide) ev341
                      refine lv_aload_n hx hb dL_lay_311 rfl (lv_at hl 3 rfl) ?_
                      refine lv_iconst (v := 1) hx hb dL_lay_312 rfl ?_
                      refine q_iald E hC336 g2 rfl rfl (rl_91_1 (show (1 : Int32).toInt = 1 from by decide) (by omega) (by omega)) (i_in (a := 1) (show (1 : Int32).toInt = 1 from by decide) (by omega) (by omega)) dL_lay_313 (fun v343 ev343 lv343 uv343 => ?_)
                      have m344 : aI H336 h2 (1) = v343.toInt := aI_of (show (1 : Int32).toInt = 1 from by decide) ev343
                      refine lv_imul hx hb dL_lay_314 (lv_topi (fun v345 ev345 => ?_))
                      have hml := mul_small ev345 (a := w9) (b := h9) (by omega) (by omega) ⟨by omega, by omega, by omega, by omega⟩
                      have c346 := i_rng v336; rw [show v336.toInt = v336.toInt from rfl] at c346
                      have c347 := i_rng v345; rw [show v345.toInt = v345.toInt from rfl] at c347
                      refine q_icmp_ne hx hb (a := v336.toInt) (b := v345.toInt) rfl rfl (tgt := 322) dL_lay_315 rfl (fun c348 => ?_) (fun c348 => ?_)
                      · refine lv_iconst (v := 0) hx hb dL_lay_322 rfl ?_
                        exact ret 0 H336 locs336 _ _ dL_lay_323 (Or.inl rfl) ⟨hKp336, Or.inr ⟨rfl, by omega⟩⟩ hC336 hS336
                      · refine lv_iconst (v := 1) hx hb dL_lay_318 rfl ?_
                        refine lv_goto (tgt := 323) hx hb dL_lay_319 rfl ?_
                        exact ret 1 H336 locs336 _ _ dL_lay_323 (Or.inr rfl) ⟨hKp336, Or.inl ⟨rfl, by rw [hw9, hh9, hs9]; exact hyq.2⟩⟩ hC336 hS336
                    · refine lv_aload_n hx hb dL_lay_280 rfl (lv_at hl 1 rfl) ?_
                      refine lv_aload_n hx hb dL_lay_281 rfl (lv_at hl 2 rfl) ?_
                      refine q_ldcS E hS316 (i := 14) (by decide) dL_lay_282 ?_
                      refine q_goV (q_runS (As := [.ref h0, .ref h1, .ref (skd X 14)]) (rest := []) E hS316 (m_L_say l X Γ H316 hC316 h0 g0 h1 g1 14 (by decide) ra gra ur tp ((kp_R hKp316 gra (ci := 4) (k := 0) rfl (by decide) rfl).trans htp) gtp _ lt (by omega)) cw_L_say cl_RL_48 rfl hl.1 rfl (Nat.zero_le _) (by decide) dL_lay_284) hS316 (fun H349 locs349 hr349 hC349 hS349 => ?_)
                      obtain ⟨hp349, hr349⟩ := hr349
                      have hKp349 := hKp316.tr (hp349.mono rfl)
                      have m350 : aI H349 h2 (0) = aI H316 h2 (0) := aI_kp hp349 g2 rfl rfl
                      have m351 : aI H349 h2 (1) = aI H316 h2 (1) := aI_kp hp349 g2 rfl rfl
                      have m352 : aI H349 h2 (2) = aI H316 h2 (2) := aI_kp hp349 g2 rfl rfl
                      obtain ⟨f349_0, f349_1⟩ := hr349
                      have lt1 := f349_0
                      refine lv_aload_n hx hb dL_lay_287 rfl (lv_at hl 1 rfl) ?_
                      refine lv_aload_n hx hb dL_lay_288 rfl (lv_at hl 2 rfl) ?_
                      refine lv_aload_n hx hb dL_lay_289 rfl (lv_at hl 3 rfl) ?_
                      refine lv_bipush (v := 9) hx hb dL_lay_290 rfl ?_
                      refine q_iald E hC349 g2 rfl rfl (rl_91_8 (show (9 : Int32).toInt = 9 from by decide) (by omega) (by omega)) (i_in (a := 9) (show (9 : Int32).toInt = 9 from by decide) (by omega) (by omega)) dL_lay_292 (fun v354 ev354 lv354 uv354 => ?_)
                      have m355 : aI H349 h2 (9) = v354.toInt := aI_of (show (9 : Int32).toInt = 9 from by decide) ev354
                      refine q_goV (q_runS (As := [.ref h0, .ref h1, .int v354]) (rest := []) E hS349 (m_L_number l X Γ H349 hC349 h0 g0 h1 g1 v354 (a2 := v354.toInt) rfl ra gra ur tp ((kp_R hKp349 gra (ci := 4) (k := 0) rfl (by decide) rfl).trans htp) gtp _ lt1 (by omega) (by omega) (by omega)) cw_L_number cl_RL_43 rfl hl.1 rfl (Nat.zero_le _) (by decide) dL_lay_293) hS349 (fun H356 locs356 hr356 hC356 hS356 => ?_)
                      obtain ⟨hp356, hr356⟩ := hr356
                      have hKp356 := hKp349.tr (hp356.mono rfl)
                      have m357 : aI H356 h2 (0) = aI H349 h2 (0) := aI_kp hp356 g2 rfl rfl
                      have m358 : aI H356 h2 (1) = aI H349 h2 (1) := aI_kp hp356 g2 rfl rfl
                      have m359 : aI H356 h2 (2) = aI H349 h2 (2) := aI_kp hp356 g2 rfl rfl
                      obtain ⟨f356_0, f356_1⟩ := hr356
                      have lt1 := f356_0
                      refine lv_aload_n hx hb dL_lay_296 rfl (lv_at hl 1 rfl) ?_
                      refine lv_aload_n hx hb dL_lay_297 rfl (lv_at hl 2 rfl) ?_
                      refine q_ldcS E hS356 (i := 2) (by decide) dL_lay_298 ?_
                      refine q_goV (q_runS (As := [.ref h0, .ref h1, .ref (skd X 2)]) (rest := []) E hS356 (m_L_say l X Γ H356 hC356 h0 g0 h1 g1 2 (by decide) ra gra ur tp ((kp_R hKp356 gra (ci := 4) (k := 0) rfl (by decide) rfl).trans htp) gtp _ lt1 (by omega)) cw_L_say cl_RL_48 rfl hl.1 rfl (Nat.zero_le _) (by decide) dL_lay_300) hS356 (fun H361 locs361 hr361 hC361 hS361 => ?_)
                      obtain ⟨hp361, hr361⟩ := hr361
                      have hKp361 := hKp356.tr (hp361.mono rfl)
                      have m362 : aI H361 h2 (0) = aI H356 h2 (0) := aI_kp hp361 g2 rfl rfl
                      have m363 : aI H361 h2 (1) = aI H356 h2 (1) := aI_kp hp361 g2 rfl rfl
                      have m364 : aI H361 h2 (2) = aI H356 h2 (2) := aI_kp hp361 g2 rfl rfl
                      obtain ⟨f361_0, f361_1⟩ := hr361
                      have lx3 := LX.ai f361_0 tx (by omega) (by omega) (by omega)
                      obtain ⟨txt, lt, tx⟩ := lx3
                      refine lv_aload_n hx hb dL_lay_303 rfl (lv_at hl 1 rfl) ?_
                      refine lv_aload_n hx hb dL_lay_304 rfl (lv_at hl 2 rfl) ?_
                      refine q_goI (q_runS (As := [.ref h0, .ref h1]) (rest := []) E hS361 (m_L_load l X Γ H361 hC361 h0 g0 h1 g1 ra gra ur tp ((kp_R hKp361 gra (ci := 4) (k := 0) rfl (by decide) rfl).trans htp) gtp _ lt (by omega)) cw_L_load cl_RL_84 rfl hl.1 rfl (Nat.zero_le _) (by decide) dL_lay_305) hS361 (fun v366 H366 locs366 hr366 hC366 hS366 => ?_)
                      obtain ⟨hp366, hr366⟩ := hr366
                      have hKp366 := hKp361.tr (hp366.mono rfl)
                      have m367 : aI H366 h2 (0) = aI H361 h2 (0) := aI_kp hp366 g2 rfl rfl
                      have m368 : aI H366 h2 (1) = aI H361 h2 (1) := aI_kp hp366 g2 rfl rfl
                      have m369 : aI H366 h2 (2) = aI H361 h2 (2) := aI_kp hp366 g2 rfl rfl
                      have f366_0 := hr366
                      obtain ⟨b9, hb9, kd, vl, w3, pos, N, htk, hyy⟩ := f366_0
                      obtain ⟨T9, ht1, ht2, ht3⟩ := tx.fin htk hb9 (by omega) (by omega) (by omega)
                      have hyq : v366.toInt = w9 * h9 ∧ YD0 X Γ H366 h0 w9 h9 s9 := TX.out ht1 ht2 ht3 hyy
                      refine lv_aload_n hx hb dL_lay_308 rfl (lv_at hl 3 rfl) ?_
                      refine lv_iconst (v := 0) hx hb dL_lay_309 rfl ?_
                      refine q_iald E hC366 g2 rfl rfl (rl_91_0 (show (0 : Int32).toInt = 0 from by decide) (by omega) (by omega)) (i_in (a := 0) (show (0 : Int32).toInt = 0 from by decide) (by omega) (by omega)) dL_lay_310 (fun v371 ev371 lv371 uv371 => ?_)
                      have m372 : aI H366 h2 (0) = v371.toInt := aI_of (show (0 : Int32).toInt = 0 from by decide) ev371
                      refine lv_aload_n hx hb dL_lay_311 rfl (lv_at hl 3 rfl) ?_
                      refine lv_iconst (v := 1) hx hb dL_lay_312 rfl ?_
                      refine q_iald E hC366 g2 rfl rfl (rl_91_1 (show (1 : Int32).toInt = 1 from by decide) (by omega) (by omega)) (i_in (a := 1) (show (1 : Int32).toInt = 1 from by decide) (by omega) (by omega)) dL_lay_313 (fun v373 ev373 lv373 uv373 => ?_)
                      have m374 : aI H366 h2 (1) = v373.toInt := aI_of (show (1 : Int32).toInt = 1 from by decide) ev373
                      refine lv_imul hx hb dL_lay_314 (lv_topi (fun v375 ev375 => ?_))
                      have hml := mul_small ev375 (a := w9) (b := h9) (by omega) (by omega) ⟨by omega, by omega, by omega, by omega⟩
                      have c376 := i_rng v366; rw [show v366.toInt = v366.toInt from rfl] at c376
                      have c377 := i_rng v375; rw [show v375.toInt = v375.toInt from rfl] at c377
                      refine q_icmp_ne hx hb (a := v366.toInt) (b := v375.toInt) rfl rfl (tgt := 322) dL_lay_315 rfl (fun c378 => ?_) (fun c378 => ?_)
                      · refine lv_iconst (v := 0) hx hb dL_lay_322 rfl ?_
                        exact ret 0 H366 locs366 _ _ dL_lay_323 (Or.inl rfl) ⟨hKp366, Or.inr ⟨rfl, by omega⟩⟩ hC366 hS366
                      · refine lv_iconst (v := 1) hx hb dL_lay_318 rfl ?_
                        refine lv_goto (tgt := 323) hx hb dL_lay_319 rfl ?_
                        exact ret 1 H366 locs366 _ _ dL_lay_323 (Or.inr rfl) ⟨hKp366, Or.inl ⟨rfl, by rw [hw9, hh9, hs9]; exact hyq.2⟩⟩ hC366 hS366
                  · refine lv_aload_n hx hb dL_lay_262 rfl (lv_at hl 1 rfl) ?_
                    refine lv_aload_n hx hb dL_lay_263 rfl (lv_at hl 2 rfl) ?_
                    refine q_ldcS E hS316 (i := 13) (by decide) dL_lay_264 ?_
                    refine q_goV (q_runS (As := [.ref h0, .ref h1, .ref (skd X 13)]) (rest := []) E hS316 (m_L_say l X Γ H316 hC316 h0 g0 h1 g1 13 (by decide) ra gra ur tp ((kp_R hKp316 gra (ci := 4) (k := 0) rfl (by decide) rfl).trans htp) gtp _ lt (by omega)) cw_L_say cl_RL_48 rfl hl.1 rfl (Nat.zero_le _) (by decide) dL_lay_266) hS316 (fun H379 locs379 hr379 hC379 hS379 => ?_)
                    obtain ⟨hp379, hr379⟩ := hr379
                    have hKp379 := hKp316.tr (hp379.mono rfl)
                    have m380 : aI H379 h2 (0) = aI H316 h2 (0) := aI_kp hp379 g2 rfl rfl
                    have m381 : aI H379 h2 (1) = aI H316 h2 (1) := aI_kp hp379 g2 rfl rfl
                    have m382 : aI H379 h2 (2) = aI H316 h2 (2) := aI_kp hp379 g2 rfl rfl
                    obtain ⟨f379_0, f379_1⟩ := hr379
                    have lx3 := LX.as f379_0 tx (by omega)
                    obtain ⟨txt, lt, tx⟩ := lx3
                    refine lv_aload_n hx hb dL_lay_269 rfl (lv_at hl 3 rfl) ?_
                    refine lv_iconst (v := 5) hx hb dL_lay_270 rfl ?_
                    refine q_iald E hC379 g2 rfl rfl (rl_91_4 (show (5 : Int32).toInt = 5 from by decide) (by omega) (by omega)) (i_in (a := 5) (show (5 : Int32).toInt = 5 from by decide) (by omega) (by omega)) dL_lay_271 (fun v384 ev384 lv384 uv384 => ?_)
                    have m385 : aI H379 h2 (5) = v384.toInt := aI_of (show (5 : Int32).toInt = 5 from by decide) ev384
                    refine lv_iconst (v := 3) hx hb dL_lay_272 rfl ?_
                    refine lv_ishr hx hb dL_lay_273 (lv_topi (fun v386 ev386 => ?_))
                    refine lv_iconst (v := 1) hx hb dL_lay_274 rfl ?_
                    refine lv_iand hx hb dL_lay_275 (lv_topi (fun v387 ev387 => ?_))
                    have bv387 := i_andc ev387 (show (1 : Int32).toInt = 1 from by decide) (by decide)
                    refine lv_iconst (v := 1) hx hb dL_lay_276 rfl ?_
                    refine q_icmp_ne hx hb (a := v387.toInt) (b := 1) rfl (by decide) (tgt := 303) dL_lay_277 rfl (fun c388 => ?_) (fun c388 => ?_)
                    · refine lv_aload_n hx hb dL_lay_303 rfl (lv_at hl 1 rfl) ?_
                      refine lv_aload_n hx hb dL_lay_304 rfl (lv_at hl 2 rfl) ?_
                      refine q_goI (q_runS (As := [.ref h0, .ref h1]) (rest := []) E hS379 (m_L_load l X Γ H379 hC379 h0 g0 h1 g1 ra gra ur tp ((kp_R hKp379 gra (ci := 4) (k := 0) rfl (by decide) rfl).trans htp) gtp _ lt (by omega)) cw_L_load cl_RL_84 rfl hl.1 rfl (Nat.zero_le _) (by decide) dL_lay_305) hS379 (fun v389 H389 locs389 hr389 hC389 hS389 => ?_)
                      obtain ⟨hp389, hr389⟩ := hr389
                      have hKp389 := hKp379.tr (hp389.mono rfl)
                      have m390 : aI H389 h2 (0) = aI H379 h2 (0) := aI_kp hp389 g2 rfl rfl
                      have m391 : aI H389 h2 (1) = aI H379 h2 (1) := aI_kp hp389 g2 rfl rfl
                      have m392 : aI H389 h2 (2) = aI H379 h2 (2) := aI_kp hp389 g2 rfl rfl
                      have f389_0 := hr389
                      obtain ⟨b9, hb9, kd, vl, w3, pos, N, htk, hyy⟩ := f389_0
                      obtain ⟨T9, ht1, ht2, ht3⟩ := tx.fin htk hb9 (by omega) (by omega) (by omega)
                      have hyq : v389.toInt = w9 * h9 ∧ YD0 X Γ H389 h0 w9 h9 s9 := TX.out ht1 ht2 ht3 hyy
                      refine lv_aload_n hx hb dL_lay_308 rfl (lv_at hl 3 rfl) ?_
                      refine lv_iconst (v := 0) hx hb dL_lay_309 rfl ?_
                      refine q_iald E hC389 g2 rfl rfl (rl_91_0 (show (0 : Int32).toInt = 0 from by decide) (by omega) (by omega)) (i_in (a := 0) (show (0 : Int32).toInt = 0 from by decide) (by omega) (by omega)) dL_lay_310 (fun v394 ev394 lv394 uv394 => ?_)
                      have m395 : aI H389 h2 (0) = v394.toInt := aI_of (show (0 : Int32).toInt = 0 from by decide) ev394
                      refine lv_aload_n hx hb dL_lay_311 rfl (lv_at hl 3 rfl) ?_
                      refine lv_iconst (v := 1) hx hb dL_lay_312 rfl ?_
                      refine q_iald E hC389 g2 rfl rfl (rl_91_1 (show (1 : Int32).toInt = 1 from by decide) (by omega) (by omega)) (i_in (a := 1) (show (1 : Int32).toInt = 1 from by decide) (by omega) (by omega)) dL_lay_313 (fun v396 ev396 lv396 uv396 => ?_)
                      have m397 : aI H389 h2 (1) = v396.toInt := aI_of (show (1 : Int32).toInt = 1 from by decide) ev396
                      refine lv_imul hx hb dL_lay_314 (lv_topi (fun v398 ev398 => ?_))
                      have hml := mul_small ev398 (a := w9) (b := h9) (by omega) (by omega) ⟨by omega, by omega, by omega, by omega⟩
                      have c399 := i_rng v389; rw [show v389.toInt = v389.toInt from rfl] at c399
                      have c400 := i_rng v398; rw [show v398.toInt = v398.toInt from rfl] at c400
                      refine q_icmp_ne hx hb (a := v389.toInt) (b := v398.toInt) rfl rfl (tgt := 322) dL_lay_315 rfl (fun c401 => ?_) (fun c401 => ?_)
                      · refine lv_iconst (v := 0) hx hb dL_lay_322 rfl ?_
                        exact ret 0 H389 locs389 _ _ dL_lay_323 (Or.inl rfl) ⟨hKp389, Or.inr ⟨rfl, by omega⟩⟩ hC389 hS389
                      · refine lv_iconst (v := 1) hx hb dL_lay_318 rfl ?_
                        refine lv_goto (tgt := 323) hx hb dL_lay_319 rfl ?_
                        exact ret 1 H389 locs389 _ _ dL_lay_323 (Or.inr rfl) ⟨hKp389, Or.inl ⟨rfl, by rw [hw9, hh9, hs9]; exact hyq.2⟩⟩ hC389 hS389
                    · refine lv_aload_n hx hb dL_lay_280 rfl (lv_at hl 1 rfl) ?_
                      refine lv_aload_n hx hb dL_lay_281 rfl (lv_at hl 2 rfl) ?_
                      refine q_ldcS E hS379 (i := 14) (by decide) dL_lay_282 ?_
                      refine q_goV (q_runS (As := [.ref h0, .ref h1, .ref (skd X 14)]) (rest := []) E hS379 (m_L_say l X Γ H379 hC379 h0 g0 h1 g1 14 (by decide) ra gra ur tp ((kp_R hKp379 gra (ci := 4) (k := 0) rfl (by decide) rfl).trans htp) gtp _ lt (by omega)) cw_L_say cl_RL_48 rfl hl.1 rfl (Nat.zero_le _) (by decide) dL_lay_284) hS379 (fun H402 locs402 hr402 hC402 hS402 => ?_)
                      obtain ⟨hp402, hr402⟩ := hr402
                      have hKp402 := hKp379.tr (hp402.mono rfl)
                      have m403 : aI H402 h2 (0) = aI H379 h2 (0) := aI_kp hp402 g2 rfl rfl
                      have m404 : aI H402 h2 (1) = aI H379 h2 (1) := aI_kp hp402 g2 rfl rfl
                      have m405 : aI H402 h2 (2) = aI H379 h2 (2) := aI_kp hp402 g2 rfl rfl
                      obtain ⟨f402_0, f402_1⟩ := hr402
                      have lt1 := f402_0
                      refine lv_aload_n hx hb dL_lay_287 rfl (lv_at hl 1 rfl) ?_
                      refine lv_aload_n hx hb dL_lay_288 rfl (lv_at hl 2 rfl) ?_
                      refine lv_aload_n hx hb dL_lay_289 rfl (lv_at hl 3 rfl) ?_
                      refine lv_bipush (v := 9) hx hb dL_lay_290 rfl ?_
                      refine q_iald E hC402 g2 rfl rfl (rl_91_8 (show (9 : Int32).toInt = 9 from by decide) (by omega) (by omega)) (i_in (a := 9) (show (9 : Int32).toInt = 9 from by decide) (by omega) (by omega)) dL_lay_292 (fun v407 ev407 lv407 uv407 => ?_)
                      have m408 : aI H402 h2 (9) = v407.toInt := aI_of (show (9 : Int32).toInt = 9 from by decide) ev407
                      refine q_goV (q_runS (As := [.ref h0, .ref h1, .int v407]) (rest := []) E hS402 (m_L_number l X Γ H402 hC402 h0 g0 h1 g1 v407 (a2 := v407.toInt) rfl ra gra ur tp ((kp_R hKp402 gra (ci := 4) (k := 0) rfl (by decide) rfl).trans htp) gtp _ lt1 (by omega) (by omega) (by omega)) cw_L_number cl_RL_43 rfl hl.1 rfl (Nat.zero_le _) (by decide) dL_lay_293) hS402 (fun H409 locs409 hr409 hC409 hS409 => ?_)
                      obtain ⟨hp409, hr409⟩ := hr409
                      have hKp409 := hKp402.tr (hp409.mono rfl)
                      have m410 : aI H409 h2 (0) = aI H402 h2 (0) := aI_kp hp409 g2 rfl rfl
                      have m411 : aI H409 h2 (1) = aI H402 h2 (1) := aI_kp hp409 g2 rfl rfl
                      have m412 : aI H409 h2 (2) = aI H402 h2 (2) := aI_kp hp409 g2 rfl rfl
                      obtain ⟨f409_0, f409_1⟩ := hr409
                      have lt1 := f409_0
                      refine lv_aload_n hx hb dL_lay_296 rfl (lv_at hl 1 rfl) ?_
                      refine lv_aload_n hx hb dL_lay_297 rfl (lv_at hl 2 rfl) ?_
                      refine q_ldcS E hS409 (i := 2) (by decide) dL_lay_298 ?_
                      refine q_goV (q_runS (As := [.ref h0, .ref h1, .ref (skd X 2)]) (rest := []) E hS409 (m_L_say l X Γ H409 hC409 h0 g0 h1 g1 2 (by decide) ra gra ur tp ((kp_R hKp409 gra (ci := 4) (k := 0) rfl (by decide) rfl).trans htp) gtp _ lt1 (by omega)) cw_L_say cl_RL_48 rfl hl.1 rfl (Nat.zero_le _) (by decide) dL_lay_300) hS409 (fun H414 locs414 hr414 hC414 hS414 => ?_)
                      obtain ⟨hp414, hr414⟩ := hr414
                      have hKp414 := hKp409.tr (hp414.mono rfl)
                      have m415 : aI H414 h2 (0) = aI H409 h2 (0) := aI_kp hp414 g2 rfl rfl
                      have m416 : aI H414 h2 (1) = aI H409 h2 (1) := aI_kp hp414 g2 rfl rfl
                      have m417 : aI H414 h2 (2) = aI H409 h2 (2) := aI_kp hp414 g2 rfl rfl
                      obtain ⟨f414_0, f414_1⟩ := hr414
                      have lx3 := LX.ai f414_0 tx (by omega) (by omega) (by omega)
                      obtain ⟨txt, lt, tx⟩ := lx3
                      refine lv_aload_n hx hb dL_lay_303 rfl (lv_at hl 1 rfl) ?_
                      refine lv_aload_n hx hb dL_lay_304 rfl (lv_at hl 2 rfl) ?_
                      refine q_goI (q_runS (As := [.ref h0, .ref h1]) (rest := []) E hS414 (m_L_load l X Γ H414 hC414 h0 g0 h1 g1 ra gra ur tp ((kp_R hKp414 gra (ci := 4) (k := 0) rfl (by decide) rfl).trans htp) gtp _ lt (by omega)) cw_L_load cl_RL_84 rfl hl.1 rfl (Nat.zero_le _) (by decide) dL_lay_305) hS414 (fun v419 H419 locs419 hr419 hC419 hS419 => ?_)
                      obtain ⟨hp419, hr419⟩ := hr419
                      have hKp419 := hKp414.tr (hp419.mono rfl)
                      have m420 : aI H419 h2 (0) = aI H414 h2 (0) := aI_kp hp419 g2 rfl rfl
                      have m421 : aI H419 h2 (1) = aI H414 h2 (1) := aI_kp hp419 g2 rfl rfl
                      have m422 : aI H419 h2 (2) = aI H414 h2 (2) := aI_kp hp419 g2 rfl rfl
                      have f419_0 := hr419
                      obtain ⟨b9, hb9, kd, vl, w3, pos, N, htk, hyy⟩ := f419_0
                      obtain ⟨T9, ht1, ht2, ht3⟩ := tx.fin htk hb9 (by omega) (by omega) (by omega)
                      have hyq : v419.toInt = w9 * h9 ∧ YD0 X Γ H419 h0 w9 h9 s9 := TX.out ht1 ht2 ht3 hyy
                      refine lv_aload_n hx hb dL_lay_308 rfl (lv_at hl 3 rfl) ?_
                      refine lv_iconst (v := 0) hx hb dL_lay_309 rfl ?_
                      refine q_iald E hC419 g2 rfl rfl (rl_91_0 (show (0 : Int32).toInt = 0 from by decide) (by omega) (by omega)) (i_in (a := 0) (show (0 : Int32).toInt = 0 from by decide) (by omega) (by omega)) dL_lay_310 (fun v424 ev424 lv424 uv424 => ?_)
                      have m425 : aI H419 h2 (0) = v424.toInt := aI_of (show (0 : Int32).toInt = 0 from by decide) ev424
                      refine lv_aload_n hx hb dL_lay_311 rfl (lv_at hl 3 rfl) ?_
                      refine lv_iconst (v := 1) hx hb dL_lay_312 rfl ?_
                      refine q_iald E hC419 g2 rfl rfl (rl_91_1 (show (1 : Int32).toInt = 1 from by decide) (by omega) (by omega)) (i_in (a := 1) (show (1 : Int32).toInt = 1 from by decide) (by omega) (by omega)) dL_lay_313 (fun v426 ev426 lv426 uv426 => ?_)
                      have m427 : aI H419 h2 (1) = v426.toInt := aI_of (show (1 : Int32).toInt = 1 from by decide) ev426
                      refine lv_imul hx hb dL_lay_314 (lv_topi (fun v428 ev428 => ?_))
                      have hml := mul_small ev428 (a := w9) (b := h9) (by omega) (by omega) ⟨by omega, by omega, by omega, by omega⟩
                      have c429 := i_rng v419; rw [show v419.toInt = v419.toInt from rfl] at c429
                      have c430 := i_rng v428; rw [show v428.toInt = v428.toInt from rfl] at c430
                      refine q_icmp_ne hx hb (a := v419.toInt) (b := v428.toInt) rfl rfl (tgt := 322) dL_lay_315 rfl (fun c431 => ?_) (fun c431 => ?_)
                      · refine lv_iconst (v := 0) hx hb dL_lay_322 rfl ?_
                        exact ret 0 H419 locs419 _ _ dL_lay_323 (Or.inl rfl) ⟨hKp419, Or.inr ⟨rfl, by omega⟩⟩ hC419 hS419
                      · refine lv_iconst (v := 1) hx hb dL_lay_318 rfl ?_
                        refine lv_goto (tgt := 323) hx hb dL_lay_319 rfl ?_
                        exact ret 1 H419 locs419 _ _ dL_lay_323 (Or.inr rfl) ⟨hKp419, Or.inl ⟨rfl, by rw [hw9, hh9, hs9]; exact hyq.2⟩⟩ hC419 hS419
                · refine lv_aload_n hx hb dL_lay_228 rfl (lv_at hl 1 rfl) ?_
                  refine lv_aload_n hx hb dL_lay_229 rfl (lv_at hl 2 rfl) ?_
                  refine q_ldcS E hS316 (i := 12) (by decide) dL_lay_230 ?_
                  refine q_goV (q_runS (As := [.ref h0, .ref h1, .ref (skd X 12)]) (rest := []) E hS316 (m_L_say l X Γ H316 hC316 h0 g0 h1 g1 12 (by decide) ra gra ur tp ((kp_R hKp316 gra (ci := 4) (k := 0) rfl (by decide) rfl).trans htp) gtp _ lt (by omega)) cw_L_say cl_RL_48 rfl hl.1 rfl (Nat.zero_le _) (by decide) dL_lay_232) hS316 (fun H432 locs432 hr432 hC432 hS432 => ?_)
                  obtain ⟨hp432, hr432⟩ := hr432
                  have hKp432 := hKp316.tr (hp432.mono rfl)
                  have m433 : aI H432 h2 (0) = aI H316 h2 (0) := aI_kp hp432 g2 rfl rfl
                  have m434 : aI H432 h2 (1) = aI H316 h2 (1) := aI_kp hp432 g2 rfl rfl
                  have m435 : aI H432 h2 (2) = aI H316 h2 (2) := aI_kp hp432 g2 rfl rfl
                  obtain ⟨f432_0, f432_1⟩ := hr432
                  have lt1 := f432_0
                  refine lv_aload_n hx hb dL_lay_235 rfl (lv_at hl 1 rfl) ?_
                  refine lv_aload_n hx hb dL_lay_236 rfl (lv_at hl 2 rfl) ?_
                  refine lv_aload_n hx hb dL_lay_237 rfl (lv_at hl 3 rfl) ?_
                  refine lv_bipush (v := 7) hx hb dL_lay_238 rfl ?_
                  refine q_iald E hC432 g2 rfl rfl (rl_91_6 (show (7 : Int32).toInt = 7 from by decide) (by omega) (by omega)) (i_in (a := 7) (show (7 : Int32).toInt = 7 from by decide) (by omega) (by omega)) dL_lay_240 (fun v437 ev437 lv437 uv437 => ?_)
                  have m438 : aI H432 h2 (7) = v437.toInt := aI_of (show (7 : Int32).toInt = 7 from by decide) ev437
                  refine q_goV (q_runS (As := [.ref h0, .ref h1, .int v437]) (rest := []) E hS432 (m_L_number l X Γ H432 hC432 h0 g0 h1 g1 v437 (a2 := v437.toInt) rfl ra gra ur tp ((kp_R hKp432 gra (ci := 4) (k := 0) rfl (by decide) rfl).trans htp) gtp _ lt1 (by omega) (by omega) (by omega)) cw_L_number cl_RL_43 rfl hl.1 rfl (Nat.zero_le _) (by decide) dL_lay_241) hS432 (fun H439 locs439 hr439 hC439 hS439 => ?_)
                  obtain ⟨hp439, hr439⟩ := hr439
                  have hKp439 := hKp432.tr (hp439.mono rfl)
                  have m440 : aI H439 h2 (0) = aI H432 h2 (0) := aI_kp hp439 g2 rfl rfl
                  have m441 : aI H439 h2 (1) = aI H432 h2 (1) := aI_kp hp439 g2 rfl rfl
                  have m442 : aI H439 h2 (2) = aI H432 h2 (2) := aI_kp hp439 g2 rfl rfl
                  obtain ⟨f439_0, f439_1⟩ := hr439
                  have lt1 := f439_0
                  refine lv_aload_n hx hb dL_lay_244 rfl (lv_at hl 1 rfl) ?_
                  refine lv_aload_n hx hb dL_lay_245 rfl (lv_at hl 2 rfl) ?_
                  refine q_ldcS E hS439 (i := 2) (by decide) dL_lay_246 ?_
                  refine q_goV (q_runS (As := [.ref h0, .ref h1, .ref (skd X 2)]) (rest := []) E hS439 (m_L_say l X Γ H439 hC439 h0 g0 h1 g1 2 (by decide) ra gra ur tp ((kp_R hKp439 gra (ci := 4) (k := 0) rfl (by decide) rfl).trans htp) gtp _ lt1 (by omega)) cw_L_say cl_RL_48 rfl hl.1 rfl (Nat.zero_le _) (by decide) dL_lay_248) hS439 (fun H444 locs444 hr444 hC444 hS444 => ?_)
                  obtain ⟨hp444, hr444⟩ := hr444
                  have hKp444 := hKp439.tr (hp444.mono rfl)
                  have m445 : aI H444 h2 (0) = aI H439 h2 (0) := aI_kp hp444 g2 rfl rfl
                  have m446 : aI H444 h2 (1) = aI H439 h2 (1) := aI_kp hp444 g2 rfl rfl
                  have m447 : aI H444 h2 (2) = aI H439 h2 (2) := aI_kp hp444 g2 rfl rfl
                  obtain ⟨f444_0, f444_1⟩ := hr444
                  have lx3 := LX.ab f444_0 tx (by omega) (by omega) (by omega)
                  obtain ⟨txt, lt, tx⟩ := lx3
                  refine lv_aload_n hx hb dL_lay_251 rfl (lv_at hl 3 rfl) ?_
                  refine lv_iconst (v := 5) hx hb dL_lay_252 rfl ?_
                  refine q_iald E hC444 g2 rfl rfl (rl_91_4 (show (5 : Int32).toInt = 5 from by decide) (by omega) (by omega)) (i_in (a := 5) (show (5 : Int32).toInt = 5 from by decide) (by omega) (by omega)) dL_lay_253 (fun v449 ev449 lv449 uv449 => ?_)
                  have m450 : aI H444 h2 (5) = v449.toInt := aI_of (show (5 : Int32).toInt = 5 from by decide) ev449
                  refine lv_iconst (v := 2) hx hb dL_lay_254 rfl ?_
                  refine lv_ishr hx hb dL_lay_255 (lv_topi (fun v451 ev451 => ?_))
                  refine lv_iconst (v := 1) hx hb dL_lay_256 rfl ?_
                  refine lv_iand hx hb dL_lay_257 (lv_topi (fun v452 ev452 => ?_))
                  have bv452 := i_andc ev452 (show (1 : Int32).toInt = 1 from by decide) (by decide)
                  refine lv_iconst (v := 1) hx hb dL_lay_258 rfl ?_
                  refine q_icmp_ne hx hb (a := v452.toInt) (b := 1) rfl (by decide) (tgt := 269) dL_lay_259 rfl (fun c453 => ?_) (fun c453 => ?_)
                  · refine lv_aload_n hx hb dL_lay_269 rfl (lv_at hl 3 rfl) ?_
                    refine lv_iconst (v := 5) hx hb dL_lay_270 rfl ?_
                    refine q_iald E hC444 g2 rfl rfl (rl_91_4 (show (5 : Int32).toInt = 5 from by decide) (by omega) (by omega)) (i_in (a := 5) (show (5 : Int32).toInt = 5 from by decide) (by omega) (by omega)) dL_lay_271 (fun v454 ev454 lv454 uv454 => ?_)
                    have m455 : aI H444 h2 (5) = v454.toInt := aI_of (show (5 : Int32).toInt = 5 from by decide) ev454
                    refine lv_iconst (v := 3) hx hb dL_lay_272 rfl ?_
                    refine lv_ishr hx hb dL_lay_273 (lv_topi (fun v456 ev456 => ?_))
                    refine lv_iconst (v := 1) hx hb dL_lay_274 rfl ?_
                    refine lv_iand hx hb dL_lay_275 (lv_topi (fun v457 ev457 => ?_))
                    have bv457 := i_andc ev457 (show (1 : Int32).toInt = 1 from by decide) (by decide)
                    refine lv_iconst (v := 1) hx hb dL_lay_276 rfl ?_
                    refine q_icmp_ne hx hb (a := v457.toInt) (b := 1) rfl (by decide) (tgt := 303) dL_lay_277 rfl (fun c458 => ?_) (fun c458 => ?_)
                    · refine lv_aload_n hx hb dL_lay_303 rfl (lv_at hl 1 rfl) ?_
                      refine lv_aload_n hx hb dL_lay_304 rfl (lv_at hl 2 rfl) ?_
                      refine q_goI (q_runS (As := [.ref h0, .ref h1]) (rest := []) E hS444 (m_L_load l X Γ H444 hC444 h0 g0 h1 g1 ra gra ur tp ((kp_R hKp444 gra (ci := 4) (k := 0) rfl (by decide) rfl).trans htp) gtp _ lt (by omega)) cw_L_load cl_RL_84 rfl hl.1 rfl (Nat.zero_le _) (by decide) dL_lay_305) hS444 (fun v459 H459 locs459 hr459 hC459 hS459 => ?_)
                      obtain ⟨hp459, hr459⟩ := hr459
                      have hKp459 := hKp444.tr (hp459.mono rfl)
                      have m460 : aI H459 h2 (0) = aI H444 h2 (0) := aI_kp hp459 g2 rfl rfl
                      have m461 : aI H459 h2 (1) = aI H444 h2 (1) := aI_kp hp459 g2 rfl rfl
                      have m462 : aI H459 h2 (2) = aI H444 h2 (2) := aI_kp hp459 g2 rfl rfl
                      have f459_0 := hr459
                      obtain ⟨b9, hb9, kd, vl, w3, pos, N, htk, hyy⟩ := f459_0
                      obtain ⟨T9, ht1, ht2, ht3⟩ := tx.fin htk hb9 (by omega) (by omega) (by omega)
                      have hyq : v459.toInt = w9 * h9 ∧ YD0 X Γ H459 h0 w9 h9 s9 := TX.out ht1 ht2 ht3 hyy
                      refine lv_aload_n hx hb dL_lay_308 rfl (lv_at hl 3 rfl) ?_
                      refine lv_iconst (v := 0) hx hb dL_lay_309 rfl ?_
                      refine q_iald E hC459 g2 rfl rfl (rl_91_0 (show (0 : Int32).toInt = 0 from by decide) (by omega) (by omega)) (i_in (a := 0) (show (0 : Int32).toInt = 0 from by decide) (by omega) (by omega)) dL_lay_310 (fun v464 ev464 lv464 uv464 => ?_)
                      have m465 : aI H459 h2 (0) = v464.toInt := aI_of (show (0 : Int32).toInt = 0 from by decide) ev464
                      refine lv_aload_n hx hb dL_lay_311 rfl (lv_at hl 3 rfl) ?_
                      refine lv_iconst (v := 1) hx hb dL_lay_312 rfl ?_
                      refine q_iald E hC459 g2 rfl rfl (rl_91_1 (show (1 : Int32).toInt = 1 from by decide) (by omega) (by omega)) (i_in (a := 1) (show (1 : Int32).toInt = 1 from by decide) (by omega) (by omega)) dL_lay_313 (fun v466 ev466 lv466 uv466 => ?_)
                      have m467 : aI H459 h2 (1) = v466.toInt := aI_of (show (1 : Int32).toInt = 1 from by decide) ev466
                      refine lv_imul hx hb dL_lay_314 (lv_topi (fun v468 ev468 => ?_))
                      have hml := mul_small ev468 (a := w9) (b := h9) (by omega) (by omega) ⟨by omega, by omega, by omega, by omega⟩
                      have c469 := i_rng v459; rw [show v459.toInt = v459.toInt from rfl] at c469
                      have c470 := i_rng v468; rw [show v468.toInt = v468.toInt from rfl] at c470
                      refine q_icmp_ne hx hb (a := v459.toInt) (b := v468.toInt) rfl rfl (tgt := 322) dL_lay_315 rfl (fun c471 => ?_) (fun c471 => ?_)
                      · refine lv_iconst (v := 0) hx hb dL_lay_322 rfl ?_
                        exact ret 0 H459 locs459 _ _ dL_lay_323 (Or.inl rfl) ⟨hKp459, Or.inr ⟨rfl, by omega⟩⟩ hC459 hS459
                      · refine lv_iconst (v := 1) hx hb dL_lay_318 rfl ?_
                        refine lv_goto (tgt := 323) hx hb dL_lay_319 rfl ?_
                        exact ret 1 H459 locs459 _ _ dL_lay_323 (Or.inr rfl) ⟨hKp459, Or.inl ⟨rfl, by rw [hw9, hh9, hs9]; exact hyq.2⟩⟩ hC459 hS459
                    · refine lv_aload_n hx hb dL_lay_280 rfl (lv_at hl 1 rfl) ?_
                      refine lv_aload_n hx hb dL_lay_281 rfl (lv_at hl 2 rfl) ?_
                      refine q_ldcS E hS444 (i := 14) (by decide) dL_lay_282 ?_
                      refine q_goV (q_runS (As := [.ref h0, .ref h1, .ref (skd X 14)]) (rest := []) E hS444 (m_L_say l X Γ H444 hC444 h0 g0 h1 g1 14 (by decide) ra gra ur tp ((kp_R hKp444 gra (ci := 4) (k := 0) rfl (by decide) rfl).trans htp) gtp _ lt (by omega)) cw_L_say cl_RL_48 rfl hl.1 rfl (Nat.zero_le _) (by decide) dL_lay_284) hS444 (fun H472 locs472 hr472 hC472 hS472 => ?_)
                      obtain ⟨hp472, hr472⟩ := hr472
                      have hKp472 := hKp444.tr (hp472.mono rfl)
                      have m473 : aI H472 h2 (0) = aI H444 h2 (0) := aI_kp hp472 g2 rfl rfl
                      have m474 : aI H472 h2 (1) = aI H444 h2 (1) := aI_kp hp472 g2 rfl rfl
                      have m475 : aI H472 h2 (2) = aI H444 h2 (2) := aI_kp hp472 g2 rfl rfl
                      obtain ⟨f472_0, f472_1⟩ := hr472
                      have lt1 := f472_0
                      refine lv_aload_n hx hb dL_lay_287 rfl (lv_at hl 1 rfl) ?_
                      refine lv_aload_n hx hb dL_lay_288 rfl (lv_at hl 2 rfl) ?_
                      refine lv_aload_n hx hb dL_lay_289 rfl (lv_at hl 3 rfl) ?_
                      refine lv_bipush (v := 9) hx hb dL_lay_290 rfl ?_
                      refine q_iald E hC472 g2 rfl rfl (rl_91_8 (show (9 : Int32).toInt = 9 from by decide) (by omega) (by omega)) (i_in (a := 9) (show (9 : Int32).toInt = 9 from by decide) (by omega) (by omega)) dL_lay_292 (fun v477 ev477 lv477 uv477 => ?_)
                      have m478 : aI H472 h2 (9) = v477.toInt := aI_of (show (9 : Int32).toInt = 9 from by decide) ev477
                      refine q_goV (q_runS (As := [.ref h0, .ref h1, .int v477]) (rest := []) E hS472 (m_L_number l X Γ H472 hC472 h0 g0 h1 g1 v477 (a2 := v477.toInt) rfl ra gra ur tp ((kp_R hKp472 gra (ci := 4) (k := 0) rfl (by decide) rfl).trans htp) gtp _ lt1 (by omega) (by omega) (by omega)) cw_L_number cl_RL_43 rfl hl.1 rfl (Nat.zero_le _) (by decide) dL_lay_293) hS472 (fun H479 locs479 hr479 hC479 hS479 => ?_)
                      obtain ⟨hp479, hr479⟩ := hr479
                      have hKp479 := hKp472.tr (hp479.mono rfl)
                      have m480 : aI H479 h2 (0) = aI H472 h2 (0) := aI_kp hp479 g2 rfl rfl
                      have m481 : aI H479 h2 (1) = aI H472 h2 (1) := aI_kp hp479 g2 rfl rfl
                      have m482 : aI H479 h2 (2) = aI H472 h2 (2) := aI_kp hp479 g2 rfl rfl
                      obtain ⟨f479_0, f479_1⟩ := hr479
                      have lt1 := f479_0
                      refine lv_aload_n hx hb dL_lay_296 rfl (lv_at hl 1 rfl) ?_
                      refine lv_aload_n hx hb dL_lay_297 rfl (lv_at hl 2 rfl) ?_
                      refine q_ldcS E hS479 (i := 2) (by decide) dL_lay_298 ?_
                      refine q_goV (q_runS (As := [.ref h0, .ref h1, .ref (skd X 2)]) (rest := []) E hS479 (m_L_say l X Γ H479 hC479 h0 g0 h1 g1 2 (by decide) ra gra ur tp ((kp_R hKp479 gra (ci := 4) (k := 0) rfl (by decide) rfl).trans htp) gtp _ lt1 (by omega)) cw_L_say cl_RL_48 rfl hl.1 rfl (Nat.zero_le _) (by decide) dL_lay_300) hS479 (fun H484 locs484 hr484 hC484 hS484 => ?_)
                      obtain ⟨hp484, hr484⟩ := hr484
                      have hKp484 := hKp479.tr (hp484.mono rfl)
                      have m485 : aI H484 h2 (0) = aI H479 h2 (0) := aI_kp hp484 g2 rfl rfl
                      have m486 : aI H484 h2 (1) = aI H479 h2 (1) := aI_kp hp484 g2 rfl rfl
                      have m487 : aI H484 h2 (2) = aI H479 h2 (2) := aI_kp hp484 g2 rfl rfl
                      obtain ⟨f484_0, f484_1⟩ := hr484
                      have lx3 := LX.ai f484_0 tx (by omega) (by omega) (by omega)
                      obtain ⟨txt, lt, tx⟩ := lx3
                      refine lv_aload_n hx hb dL_lay_303 rfl (lv_at hl 1 rfl) ?_
                      refine lv_aload_n hx hb dL_lay_304 rfl (lv_at hl 2 rfl) ?_
                      refine q_goI (q_runS (As := [.ref h0, .ref h1]) (rest := []) E hS484 (m_L_load l X Γ H484 hC484 h0 g0 h1 g1 ra gra ur tp ((kp_R hKp484 gra (ci := 4) (k := 0) rfl (by decide) rfl).trans htp) gtp _ lt (by omega)) cw_L_load cl_RL_84 rfl hl.1 rfl (Nat.zero_le _) (by decide) dL_lay_305) hS484 (fun v489 H489 locs489 hr489 hC489 hS489 => ?_)
                      obtain ⟨hp489, hr489⟩ := hr489
                      have hKp489 := hKp484.tr (hp489.mono rfl)
                      have m490 : aI H489 h2 (0) = aI H484 h2 (0) := aI_kp hp489 g2 rfl rfl
                      have m491 : aI H489 h2 (1) = aI H484 h2 (1) := aI_kp hp489 g2 rfl rfl
                      have m492 : aI H489 h2 (2) = aI H484 h2 (2) := aI_kp hp489 g2 rfl rfl
                      have f489_0 := hr489
                      obtain ⟨b9, hb9, kd, vl, w3, pos, N, htk, hyy⟩ := f489_0
                      obtain ⟨T9, ht1, ht2, ht3⟩ := tx.fin htk hb9 (by omega) (by omega) (by omega)
                      have hyq : v489.toInt = w9 * h9 ∧ YD0 X Γ H489 h0 w9 h9 s9 := TX.out ht1 ht2 ht3 hyy
                      refine lv_aload_n hx hb dL_lay_308 rfl (lv_at hl 3 rfl) ?_
                      refine lv_iconst (v := 0) hx hb dL_lay_309 rfl ?_
                      refine q_iald E hC489 g2 rfl rfl (rl_91_0 (show (0 : Int32).toInt = 0 from by decide) (by omega) (by omega)) (i_in (a := 0) (show (0 : Int32).toInt = 0 from by decide) (by omega) (by omega)) dL_lay_310 (fun v494 ev494 lv494 uv494 => ?_)
                      have m495 : aI H489 h2 (0) = v494.toInt := aI_of (show (0 : Int32).toInt = 0 from by decide) ev494
                      refine lv_aload_n hx hb dL_lay_311 rfl (lv_at hl 3 rfl) ?_
                      refine lv_iconst (v := 1) hx hb dL_lay_312 rfl ?_
                      refine q_iald E hC489 g2 rfl rfl (rl_91_1 (show (1 : Int32).toInt = 1 from by decide) (by omega) (by omega)) (i_in (a := 1) (show (1 : Int32).toInt = 1 from by decide) (by omega) (by omega)) dL_lay_313 (fun v496 ev496 lv496 uv496 => ?_)
                      have m497 : aI H489 h2 (1) = v496.toInt := aI_of (show (1 : Int32).toInt = 1 from by decide) ev496
                      refine lv_imul hx hb dL_lay_314 (lv_topi (fun v498 ev498 => ?_))
                      have hml := mul_small ev498 (a := w9) (b := h9) (by omega) (by omega) ⟨by omega, by omega, by omega, by omega⟩
                      have c499 := i_rng v489; rw [show v489.toInt = v489.toInt from rfl] at c499
                      have c500 := i_rng v498; rw [show v498.toInt = v498.toInt from rfl] at c500
                      refine q_icmp_ne hx hb (a := v489.toInt) (b := v498.toInt) rfl rfl (tgt := 322) dL_lay_315 rfl (fun c501 => ?_) (fun c501 => ?_)
                      · refine lv_iconst (v := 0) hx hb dL_lay_322 rfl ?_
                        exact ret 0 H489 locs489 _ _ dL_lay_323 (Or.inl rfl) ⟨hKp489, Or.inr ⟨rfl, by omega⟩⟩ hC489 hS489
                      · refine lv_iconst (v := 1) hx hb dL_lay_318 rfl ?_
                        refine lv_goto (tgt := 323) hx hb dL_lay_319 rfl ?_
                        exact ret 1 H489 locs489 _ _ dL_lay_323 (Or.inr rfl) ⟨hKp489, Or.inl ⟨rfl, by rw [hw9, hh9, hs9]; exact hyq.2⟩⟩ hC489 hS489
                  · refine lv_aload_n hx hb dL_lay_262 rfl (lv_at hl 1 rfl) ?_
                    refine lv_aload_n hx hb dL_lay_263 rfl (lv_at hl 2 rfl) ?_
                    refine q_ldcS E hS444 (i := 13) (by decide) dL_lay_264 ?_
                    refine q_goV (q_runS (As := [.ref h0, .ref h1, .ref (skd X 13)]) (rest := []) E hS444 (m_L_say l X Γ H444 hC444 h0 g0 h1 g1 13 (by decide) ra gra ur tp ((kp_R hKp444 gra (ci := 4) (k := 0) rfl (by decide) rfl).trans htp) gtp _ lt (by omega)) cw_L_say cl_RL_48 rfl hl.1 rfl (Nat.zero_le _) (by decide) dL_lay_266) hS444 (fun H502 locs502 hr502 hC502 hS502 => ?_)
                    obtain ⟨hp502, hr502⟩ := hr502
                    have hKp502 := hKp444.tr (hp502.mono rfl)
                    have m503 : aI H502 h2 (0) = aI H444 h2 (0) := aI_kp hp502 g2 rfl rfl
                    have m504 : aI H502 h2 (1) = aI H444 h2 (1) := aI_kp hp502 g2 rfl rfl
                    have m505 : aI H502 h2 (2) = aI H444 h2 (2) := aI_kp hp502 g2 rfl rfl
                    obtain ⟨f502_0, f502_1⟩ := hr502
                    have lx3 := LX.as f502_0 tx (by omega)
                    obtain ⟨txt, lt, tx⟩ := lx3
                    refine lv_aload_n hx hb dL_lay_269 rfl (lv_at hl 3 rfl) ?_
                    refine lv_iconst (v := 5) hx hb dL_lay_270 rfl ?_
                    refine q_iald E hC502 g2 rfl rfl (rl_91_4 (show (5 : Int32).toInt = 5 from by decide) (by omega) (by omega)) (i_in (a := 5) (show (5 : Int32).toInt = 5 from by decide) (by omega) (by omega)) dL_lay_271 (fun v507 ev507 lv507 uv507 => ?_)
                    have m508 : aI H502 h2 (5) = v507.toInt := aI_of (show (5 : Int32).toInt = 5 from by decide) ev507
                    refine lv_iconst (v := 3) hx hb dL_lay_272 rfl ?_
                    refine lv_ishr hx hb dL_lay_273 (lv_topi (fun v509 ev509 => ?_))
                    refine lv_iconst (v := 1) hx hb dL_lay_274 rfl ?_
                    refine lv_iand hx hb dL_lay_275 (lv_topi (fun v510 ev510 => ?_))
                    have bv510 := i_andc ev510 (show (1 : Int32).toInt = 1 from by decide) (by decide)
                    refine lv_iconst (v := 1) hx hb dL_lay_276 rfl ?_
                    refine q_icmp_ne hx hb (a := v510.toInt) (b := 1) rfl (by decide) (tgt := 303) dL_lay_277 rfl (fun c511 => ?_) (fun c511 => ?_)
                    · refine lv_aload_n hx hb dL_lay_303 rfl (lv_at hl 1 rfl) ?_
                      refine lv_aload_n hx hb dL_lay_304 rfl (lv_at hl 2 rfl) ?_
                      refine q_goI (q_runS (As := [.ref h0, .ref h1]) (rest := []) E hS502 (m_L_load l X Γ H502 hC502 h0 g0 h1 g1 ra gra ur tp ((kp_R hKp502 gra (ci := 4) (k := 0) rfl (by decide) rfl).trans htp) gtp _ lt (by omega)) cw_L_load cl_RL_84 rfl hl.1 rfl (Nat.zero_le _) (by decide) dL_lay_305) hS502 (fun v512 H512 locs512 hr512 hC512 hS512 => ?_)
                      obtain ⟨hp512, hr512⟩ := hr512
                      have hKp512 := hKp502.tr (hp512.mono rfl)
                      have m513 : aI H512 h2 (0) = aI H502 h2 (0) := aI_kp hp512 g2 rfl rfl
                      have m514 : aI H512 h2 (1) = aI H502 h2 (1) := aI_kp hp512 g2 rfl rfl
                      have m515 : aI H512 h2 (2) = aI H502 h2 (2) := aI_kp hp512 g2 rfl rfl
                      have f512_0 := hr512
                      obtain ⟨b9, hb9, kd, vl, w3, pos, N, htk, hyy⟩ := f512_0
                      obtain ⟨T9, ht1, ht2, ht3⟩ := tx.fin htk hb9 (by omega) (by omega) (by omega)
                      have hyq : v512.toInt = w9 * h9 ∧ YD0 X Γ H512 h0 w9 h9 s9 := TX.out ht1 ht2 ht3 hyy
                      refine lv_aload_n hx hb dL_lay_308 rfl (lv_at hl 3 rfl) ?_
                      refine lv_iconst (v := 0) hx hb dL_lay_309 rfl ?_
                      refine q_iald E hC512 g2 rfl rfl (rl_91_0 (show (0 : Int32).toInt = 0 from by decide) (by omega) (by omega)) (i_in (a := 0) (show (0 : Int32).toInt = 0 from by decide) (by omega) (by omega)) dL_lay_310 (fun v517 ev517 lv517 uv517 => ?_)
                      have m518 : aI H512 h2 (0) = v517.toInt := aI_of (show (0 : Int32).toInt = 0 from by decide) ev517
                      refine lv_aload_n hx hb dL_lay_311 rfl (lv_at hl 3 rfl) ?_
                      refine lv_iconst (v := 1) hx hb dL_lay_312 rfl ?_
                      refine q_iald E hC512 g2 rfl rfl (rl_91_1 (show (1 : Int32).toInt = 1 from by decide) (by omega) (by omega)) (i_in (a := 1) (show (1 : Int32).toInt = 1 from by decide) (by omega) (by omega)) dL_lay_313 (fun v519 ev519 lv519 uv519 => ?_)
                      have m520 : aI H512 h2 (1) = v519.toInt := aI_of (show (1 : Int32).toInt = 1 from by decide) ev519
                      refine lv_imul hx hb dL_lay_314 (lv_topi (fun v521 ev521 => ?_))
                      have hml := mul_small ev521 (a := w9) (b := h9) (by omega) (by omega) ⟨by omega, by omega, by omega, by omega⟩
                      have c522 := i_rng v512; rw [show v512.toInt = v512.toInt from rfl] at c522
                      have c523 := i_rng v521; rw [show v521.toInt = v521.toInt from rfl] at c523
                      refine q_icmp_ne hx hb (a := v512.toInt) (b := v521.toInt) rfl rfl (tgt := 322) dL_lay_315 rfl (fun c524 => ?_) (fun c524 => ?_)
                      · refine lv_iconst (v := 0) hx hb dL_lay_322 rfl ?_
                        exact ret 0 H512 locs512 _ _ dL_lay_323 (Or.inl rfl) ⟨hKp512, Or.inr ⟨rfl, by omega⟩⟩ hC512 hS512
                      · refine lv_iconst (v := 1) hx hb dL_lay_318 rfl ?_
                        refine lv_goto (tgt := 323) hx hb dL_lay_319 rfl ?_
                        exact ret 1 H512 locs512 _ _ dL_lay_323 (Or.inr rfl) ⟨hKp512, Or.inl ⟨rfl, by rw [hw9, hh9, hs9]; exact hyq.2⟩⟩ hC512 hS512
                    · refine lv_aload_n hx hb dL_lay_280 rfl (lv_at hl 1 rfl) ?_
                      refine lv_aload_n hx hb dL_lay_281 rfl (lv_at hl 2 rfl) ?_
                      refine q_ldcS E hS502 (i := 14) (by decide) dL_lay_282 ?_
                      refine q_goV (q_runS (As := [.ref h0, .ref h1, .ref (skd X 14)]) (rest := []) E hS502 (m_L_say l X Γ H502 hC502 h0 g0 h1 g1 14 (by decide) ra gra ur tp ((kp_R hKp502 gra (ci := 4) (k := 0) rfl (by decide) rfl).trans htp) gtp _ lt (by omega)) cw_L_say cl_RL_48 rfl hl.1 rfl (Nat.zero_le _) (by decide) dL_lay_284) hS502 (fun H525 locs525 hr525 hC525 hS525 => ?_)
                      obtain ⟨hp525, hr525⟩ := hr525
                      have hKp525 := hKp502.tr (hp525.mono rfl)
                      have m526 : aI H525 h2 (0) = aI H502 h2 (0) := aI_kp hp525 g2 rfl rfl
                      have m527 : aI H525 h2 (1) = aI H502 h2 (1) := aI_kp hp525 g2 rfl rfl
                      have m528 : aI H525 h2 (2) = aI H502 h2 (2) := aI_kp hp525 g2 rfl rfl
                      obtain ⟨f525_0, f525_1⟩ := hr525
                      have lt1 := f525_0
                      refine lv_aload_n hx hb dL_lay_287 rfl (lv_at hl 1 rfl) ?_
                      refine lv_aload_n hx hb dL_lay_288 rfl (lv_at hl 2 rfl) ?_
                      refine lv_aload_n hx hb dL_lay_289 rfl (lv_at hl 3 rfl) ?_
                      refine lv_bipush (v := 9) hx hb dL_lay_290 rfl ?_
                      refine q_iald E hC525 g2 rfl rfl (rl_91_8 (show (9 : Int32).toInt = 9 from by decide) (by omega) (by omega)) (i_in (a := 9) (show (9 : Int32).toInt = 9 from by decide) (by omega) (by omega)) dL_lay_292 (fun v530 ev530 lv530 uv530 => ?_)
                      have m531 : aI H525 h2 (9) = v530.toInt := aI_of (show (9 : Int32).toInt = 9 from by decide) ev530
                      refine q_goV (q_runS (As := [.ref h0, .ref h1, .int v530]) (rest := []) E hS525 (m_L_number l X Γ H525 hC525 h0 g0 h1 g1 v530 (a2 := v530.toInt) rfl ra gra ur tp ((kp_R hKp525 gra (ci := 4) (k := 0) rfl (by decide) rfl).trans htp) gtp _ lt1 (by omega) (by omega) (by omega)) cw_L_number cl_RL_43 rfl hl.1 rfl (Nat.zero_le _) (by decide) dL_lay_293) hS525 (fun H532 locs532 hr532 hC532 hS532 => ?_)
                      obtain ⟨hp532, hr532⟩ := hr532
                      have hKp532 := hKp525.tr (hp532.mono rfl)
                      have m533 : aI H532 h2 (0) = aI H525 h2 (0) := aI_kp hp532 g2 rfl rfl
                      have m534 : aI H532 h2 (1) = aI H525 h2 (1) := aI_kp hp532 g2 rfl rfl
                      have m535 : aI H532 h2 (2) = aI H525 h2 (2) := aI_kp hp532 g2 rfl rfl
                      obtain ⟨f532_0, f532_1⟩ := hr532
                      have lt1 := f532_0
                      refine lv_aload_n hx hb dL_lay_296 rfl (lv_at hl 1 rfl) ?_
                      refine lv_aload_n hx hb dL_lay_297 rfl (lv_at hl 2 rfl) ?_
                      refine q_ldcS E hS532 (i := 2) (by decide) dL_lay_298 ?_
                      refine q_goV (q_runS (As := [.ref h0, .ref h1, .ref (skd X 2)]) (rest := []) E hS532 (m_L_say l X Γ H532 hC532 h0 g0 h1 g1 2 (by decide) ra gra ur tp ((kp_R hKp532 gra (ci := 4) (k := 0) rfl (by decide) rfl).trans htp) gtp _ lt1 (by omega)) cw_L_say cl_RL_48 rfl hl.1 rfl (Nat.zero_le _) (by decide) dL_lay_300) hS532 (fun H537 locs537 hr537 hC537 hS537 => ?_)
                      obtain ⟨hp537, hr537⟩ := hr537
                      have hKp537 := hKp532.tr (hp537.mono rfl)
                      have m538 : aI H537 h2 (0) = aI H532 h2 (0) := aI_kp hp537 g2 rfl rfl
                      have m539 : aI H537 h2 (1) = aI H532 h2 (1) := aI_kp hp537 g2 rfl rfl
                      have m540 : aI H537 h2 (2) = aI H532 h2 (2) := aI_kp hp537 g2 rfl rfl
                      obtain ⟨f537_0, f537_1⟩ := hr537
                      have lx3 := LX.ai f537_0 tx (by omega) (by omega) (by omega)
                      obtain ⟨txt, lt, tx⟩ := lx3
                      refine lv_aload_n hx hb dL_lay_303 rfl (lv_at hl 1 rfl) ?_
                      refine lv_aload_n hx hb dL_lay_304 rfl (lv_at hl 2 rfl) ?_
                      refine q_goI (q_runS (As := [.ref h0, .ref h1]) (rest := []) E hS537 (m_L_load l X Γ H537 hC537 h0 g0 h1 g1 ra gra ur tp ((kp_R hKp537 gra (ci := 4) (k := 0) rfl (by decide) rfl).trans htp) gtp _ lt (by omega)) cw_L_load cl_RL_84 rfl hl.1 rfl (Nat.zero_le _) (by decide) dL_lay_305) hS537 (fun v542 H542 locs542 hr542 hC542 hS542 => ?_)
                      obtain ⟨hp542, hr542⟩ := hr542
                      have hKp542 := hKp537.tr (hp542.mono rfl)
                      have m543 : aI H542 h2 (0) = aI H537 h2 (0) := aI_kp hp542 g2 rfl rfl
                      have m544 : aI H542 h2 (1) = aI H537 h2 (1) := aI_kp hp542 g2 rfl rfl
                      have m545 : aI H542 h2 (2) = aI H537 h2 (2) := aI_kp hp542 g2 rfl rfl
                      have f542_0 := hr542
                      obtain ⟨b9, hb9, kd, vl, w3, pos, N, htk, hyy⟩ := f542_0
                      obtain ⟨T9, ht1, ht2, ht3⟩ := tx.fin htk hb9 (by omega) (by omega) (by omega)
                      have hyq : v542.toInt = w9 * h9 ∧ YD0 X Γ H542 h0 w9 h9 s9 := TX.out ht1 ht2 ht3 hyy
                      refine lv_aload_n hx hb dL_lay_308 rfl (lv_at hl 3 rfl) ?_
                      refine lv_iconst (v := 0) hx hb dL_lay_309 rfl ?_
                      refine q_iald E hC542 g2 rfl rfl (rl_91_0 (show (0 : Int32).toInt = 0 from by decide) (by omega) (by omega)) (i_in (a := 0) (show (0 : Int32).toInt = 0 from by decide) (by omega) (by omega)) dL_lay_310 (fun v547 ev547 lv547 uv547 => ?_)
                      have m548 : aI H542 h2 (0) = v547.toInt := aI_of (show (0 : Int32).toInt = 0 from by decide) ev547
                      refine lv_aload_n hx hb dL_lay_311 rfl (lv_at hl 3 rfl) ?_
                      refine lv_iconst (v := 1) hx hb dL_lay_312 rfl ?_
                      refine q_iald E hC542 g2 rfl rfl (rl_91_1 (show (1 : Int32).toInt = 1 from by decide) (by omega) (by omega)) (i_in (a := 1) (show (1 : Int32).toInt = 1 from by decide) (by omega) (by omega)) dL_lay_313 (fun v549 ev549 lv549 uv549 => ?_)
                      have m550 : aI H542 h2 (1) = v549.toInt := aI_of (show (1 : Int32).toInt = 1 from by decide) ev549
                      refine lv_imul hx hb dL_lay_314 (lv_topi (fun v551 ev551 => ?_))
                      have hml := mul_small ev551 (a := w9) (b := h9) (by omega) (by omega) ⟨by omega, by omega, by omega, by omega⟩
                      have c552 := i_rng v542; rw [show v542.toInt = v542.toInt from rfl] at c552
                      have c553 := i_rng v551; rw [show v551.toInt = v551.toInt from rfl] at c553
                      refine q_icmp_ne hx hb (a := v542.toInt) (b := v551.toInt) rfl rfl (tgt := 322) dL_lay_315 rfl (fun c554 => ?_) (fun c554 => ?_)
                      · refine lv_iconst (v := 0) hx hb dL_lay_322 rfl ?_
                        exact ret 0 H542 locs542 _ _ dL_lay_323 (Or.inl rfl) ⟨hKp542, Or.inr ⟨rfl, by omega⟩⟩ hC542 hS542
                      · refine lv_iconst (v := 1) hx hb dL_lay_318 rfl ?_
                        refine lv_goto (tgt := 323) hx hb dL_lay_319 rfl ?_
                        exact ret 1 H542 locs542 _ _ dL_lay_323 (Or.inr rfl) ⟨hKp542, Or.inl ⟨rfl, by rw [hw9, hh9, hs9]; exact hyq.2⟩⟩ hC542 hS542
            · refine lv_iconst (v := 0) hx hb dL_lay_99 rfl ?_
              refine lv_istore hx hb dL_lay_100 hl (by decide) rfl (fun ls hl => ?_)
              replace hl : lv_has ls 6 [(4, .int 0), (3, .int v61), (0, .ref h0), (1, .ref h1), (2, .ref h2)] := hl
              have L102 : ∀ (n556 : Nat) (H556 : Heap) (locs556 : List Loc) (v555 : Int32) (z555 : Int) (ls : Array Slot), (4 - z555).toNat < n556 → v555.toInt = z555 → 0 ≤ z555 → LX X H556 ra tp h1 w9 h9 s9 (18 * z61 + 3 * z555) 0 → aI H556 h1 21 ≤ 53 + 228 * z61 + 57 * z555 → 0 ≤ z555 → z555 ≤ w9 → aI H556 h2 0 = w9 → aI H556 h2 1 = h9 → aI H556 h2 2 = s9 → Conf X Γ H556 → va_S (AΓ Γ) H0 H556 locs556 → Kp X Γ [37, 67, 68, 69, 71] H0 H556 → lv_has ls 6 [(4, .int v555), (3, .int v61), (0, .ref h0), (1, .ref h1), (2, .ref h2)] → W p l e (rmL 9) s m args below meth c H556 locs556 0 0 Qz (F0 m 102 ls []) := by
                intro n556
                induction n556 with
                | zero => intro H556 locs556 v555 z555 ls hm556 ev555 iv556_0 iv556_1 iv556_2 iv556_3 iv556_4 iv556_5 iv556_6 iv556_7 hC556 hS556 hKp556 hl; exact absurd hm556 (Nat.not_lt_zero _)
                | succ n556 ih556 =>
                  intro H556 locs556 v555 z555 ls hm556 ev555 iv556_0 iv556_1 iv556_2 iv556_3 iv556_4 iv556_5 iv556_6 iv556_7 hC556 hS556 hKp556 hl
                  have lx := iv556_1
                  have lx9 := lx
                  obtain ⟨txt, lt, tx⟩ := lx
                  refine lv_iload hx hb dL_lay_102 (lv_at hl 0 rfl) ?_
                  refine lv_aload_n hx hb dL_lay_104 rfl (lv_at hl 4 rfl) ?_
                  refine lv_iconst (v := 0) hx hb dL_lay_105 rfl ?_
                  refine q_iald E hC556 g2 rfl rfl (rl_91_0 (show (0 : Int32).toInt = 0 from by decide) (by omega) (by omega)) (i_in (a := 0) (show (0 : Int32).toInt = 0 from by decide) (by omega) (by omega)) dL_lay_106 (fun v557 ev557 lv557 uv557 => ?_)
                  have m558 : aI H556 h2 (0) = v557.toInt := aI_of (show (0 : Int32).toInt = 0 from by decide) ev557
                  refine q_icmp_ge hx hb (a := z555) (b := v557.toInt) ev555 rfl (tgt := 179) dL_lay_107 rfl (fun c559 => ?_) (fun c559 => ?_)
                  · obtain ⟨v560, ev560⟩ : ∃ z, z = v61 + Int32.ofInt 1 := ⟨_, rfl⟩
                    have ev560i : v560.toInt = (z61 + 1) := i_add ev560 ev61 (by decide) (by omega) (by omega)
                    refine lv_iinc hx hb dL_lay_179 hl (k := 1) rfl ev560.symm (by decide) rfl (fun ls hl => ?_)
                    replace hl : lv_has ls 6 [(3, .int v560), (4, .int v555), (0, .ref h0), (1, .ref h1), (2, .ref h2)] := hl
                    refine lv_goto (tgt := 92) hx hb dL_lay_182 rfl ?_
                    exact ih62 H556 locs556 v560 ((z61 + 1)) ls (ms_lt hm62 (by omega) (by omega)) ev560i (by omega) (LX.mono lx9 (by omega)) (by omega) (by omega) (by omega) (by omega) (by omega) (by omega) hC556 hS556 hKp556 (lv_sub hl [0, 2, 3, 4] rfl)
                  · refine lv_bipush (v := 6) hx hb dL_lay_110 rfl ?_
                    refine lv_iload_n hx hb dL_lay_112 rfl (lv_at hl 1 rfl) ?_
                    refine lv_imul hx hb dL_lay_113 (lv_topi (fun v561 ev561 => ?_))
                    have ev561i : v561.toInt = (6 * z61) := i_mul ev561 (by decide) ev61 (by omega) (by omega)
                    refine lv_iload hx hb dL_lay_114 (lv_at hl 0 rfl) ?_
                    refine lv_iadd hx hb dL_lay_116 (lv_topi (fun v562 ev562 => ?_))
                    have ev562i : v562.toInt = ((6 * z61) + z555) := i_add ev562 ev561i ev555 (by omega) (by omega)
                    refine lv_istore hx hb dL_lay_117 hl (by decide) rfl (fun ls hl => ?_)
                    replace hl : lv_has ls 6 [(5, .int v562), (4, .int v555), (3, .int v61), (0, .ref h0), (1, .ref h1), (2, .ref h2)] := hl
                    refine lv_aload_n hx hb dL_lay_119 rfl (lv_at hl 3 rfl) ?_
                    refine lv_aload_n hx hb dL_lay_120 rfl (lv_at hl 4 rfl) ?_
                    refine q_ldcS E hS556 (i := 5) (by decide) dL_lay_121 ?_
                    refine lv_iload hx hb dL_lay_123 (lv_at hl 0 rfl) ?_
                    refine q_ldcS E hS556 (i := 6) (by decide) dL_lay_125 ?_
                    refine lv_aload_n hx hb dL_lay_127 rfl (lv_at hl 5 rfl) ?_
                    refine lv_bipush (v := 10) hx hb dL_lay_128 rfl ?_
                    refine lv_iload hx hb dL_lay_130 (lv_at hl 0 rfl) ?_
                    refine lv_iadd hx hb dL_lay_132 (lv_topi (fun v563 ev563 => ?_))
                    have ev563i : v563.toInt = (10 + ((6 * z61) + z555)) := i_add ev563 (by decide) ev562i (by omega) (by omega)
                    refine q_iald E hC556 g2 rfl rfl (rl_91_9 ev563i (by omega) (by omega)) (i_in (a := (10 + ((6 * z61) + z555))) ev563i (by omega) (by omega)) dL_lay_133 (fun v564 ev564 lv564 uv564 => ?_)
                    have m565 : aI H556 h2 ((10 + ((6 * z61) + z555))) = v564.toInt := aI_of ev563i ev564
                    refine q_goV (q_runS (As := [.ref h0, .ref h1, .ref (skd X 5), .int v562, .ref (skd X 6), .int v564]) (rest := []) E hS556 (m_L_row l X Γ H556 hC556 h0 g0 h1 g1 5 (by decide) v562 (a3 := ((6 * z61) + z555)) ev562i 6 (by decide) v564 (a5 := v564.toInt) rfl ra gra ur tp ((kp_R hKp556 gra (ci := 4) (k := 0) rfl (by decide) rfl).trans htp) gtp _ lt (by omega) (by omega) (by omega) (by omega) (by omega) (by decide) (by decide)) cw_L_row cl_RL_64 rfl hl.1 rfl (Nat.zero_le _) (by decide) dL_lay_134) hS556 (fun H566 locs566 hr566 hC566 hS566 => ?_)
                    obtain ⟨hp566, hr566⟩ := hr566
                    have hKp566 := hKp556.tr (hp566.mono rfl)
                    have m567 : aI H566 h2 (0) = aI H556 h2 (0) := aI_kp hp566 g2 rfl rfl
                    have m568 : aI H566 h2 (1) = aI H556 h2 (1) := aI_kp hp566 g2 rfl rfl
                    have m569 : aI H566 h2 (2) = aI H556 h2 (2) := aI_kp hp566 g2 rfl rfl
                    obtain ⟨f566_0, f566_1⟩ := hr566
                    have lt1 := f566_0
                    refine lv_aload_n hx hb dL_lay_137 rfl (lv_at hl 3 rfl) ?_
                    refine lv_aload_n hx hb dL_lay_138 rfl (lv_at hl 4 rfl) ?_
                    refine q_ldcS E hS566 (i := 7) (by decide) dL_lay_139 ?_
                    refine lv_iload hx hb dL_lay_141 (lv_at hl 0 rfl) ?_
                    refine q_ldcS E hS566 (i := 8) (by decide) dL_lay_143 ?_
                    refine lv_aload_n hx hb dL_lay_145 rfl (lv_at hl 5 rfl) ?_
                    refine lv_bipush (v := 46) hx hb dL_lay_146 rfl ?_
                    refine lv_iload hx hb dL_lay_148 (lv_at hl 0 rfl) ?_
                    refine lv_iadd hx hb dL_lay_150 (lv_topi (fun v571 ev571 => ?_))
                    have ev571i : v571.toInt = (46 + ((6 * z61) + z555)) := i_add ev571 (by decide) ev562i (by omega) (by omega)
                    refine q_iald E hC566 g2 rfl rfl (rl_91_10 ev571i (by omega) (by omega)) (i_in (a := (46 + ((6 * z61) + z555))) ev571i (by omega) (by omega)) dL_lay_151 (fun v572 ev572 lv572 uv572 => ?_)
                    have m573 : aI H566 h2 ((46 + ((6 * z61) + z555))) = v572.toInt := aI_of ev571i ev572
                    refine q_goV (q_runS (As := [.ref h0, .ref h1, .ref (skd X 7), .int v562, .ref (skd X 8), .int v572]) (rest := []) E hS566 (m_L_row l X Γ H566 hC566 h0 g0 h1 g1 7 (by decide) v562 (a3 := ((6 * z61) + z555)) ev562i 8 (by decide) v572 (a5 := v572.toInt) rfl ra gra ur tp ((kp_R hKp566 gra (ci := 4) (k := 0) rfl (by decide) rfl).trans htp) gtp _ lt1 (by omega) (by omega) (by omega) (by omega) (by omega) (by decide) (by decide)) cw_L_row cl_RL_64 rfl hl.1 rfl (Nat.zero_le _) (by decide) dL_lay_152) hS566 (fun H574 locs574 hr574 hC574 hS574 => ?_)
                    obtain ⟨hp574, hr574⟩ := hr574
                    have hKp574 := hKp566.tr (hp574.mono rfl)
                    have m575 : aI H574 h2 (0) = aI H566 h2 (0) := aI_kp hp574 g2 rfl rfl
                    have m576 : aI H574 h2 (1) = aI H566 h2 (1) := aI_kp hp574 g2 rfl rfl
                    have m577 : aI H574 h2 (2) = aI H566 h2 (2) := aI_kp hp574 g2 rfl rfl
                    obtain ⟨f574_0, f574_1⟩ := hr574
                    have lt1 := f574_0
                    refine lv_aload_n hx hb dL_lay_155 rfl (lv_at hl 3 rfl) ?_
                    refine lv_aload_n hx hb dL_lay_156 rfl (lv_at hl 4 rfl) ?_
                    refine q_ldcS E hS574 (i := 9) (by decide) dL_lay_157 ?_
                    refine lv_iload hx hb dL_lay_159 (lv_at hl 0 rfl) ?_
                    refine q_ldcS E hS574 (i := 10) (by decide) dL_lay_161 ?_
                    refine lv_aload_n hx hb dL_lay_163 rfl (lv_at hl 5 rfl) ?_
                    refine lv_bipush (v := 82) hx hb dL_lay_164 rfl ?_
                    refine lv_iload hx hb dL_lay_166 (lv_at hl 0 rfl) ?_
                    refine lv_iadd hx hb dL_lay_168 (lv_topi (fun v579 ev579 => ?_))
                    have ev579i : v579.toInt = (82 + ((6 * z61) + z555)) := i_add ev579 (by decide) ev562i (by omega) (by omega)
                    refine q_iald E hC574 g2 rfl rfl (rl_91_11 ev579i (by omega) (by omega)) (i_in (a := (82 + ((6 * z61) + z555))) ev579i (by omega) (by omega)) dL_lay_169 (fun v580 ev580 lv580 uv580 => ?_)
                    have m581 : aI H574 h2 ((82 + ((6 * z61) + z555))) = v580.toInt := aI_of ev579i ev580
                    refine q_goV (q_runS (As := [.ref h0, .ref h1, .ref (skd X 9), .int v562, .ref (skd X 10), .int v580]) (rest := []) E hS574 (m_L_row l X Γ H574 hC574 h0 g0 h1 g1 9 (by decide) v562 (a3 := ((6 * z61) + z555)) ev562i 10 (by decide) v580 (a5 := v580.toInt) rfl ra gra ur tp ((kp_R hKp574 gra (ci := 4) (k := 0) rfl (by decide) rfl).trans htp) gtp _ lt1 (by omega) (by omega) (by omega) (by omega) (by omega) (by decide) (by decide)) cw_L_row cl_RL_64 rfl hl.1 rfl (Nat.zero_le _) (by decide) dL_lay_170) hS574 (fun H582 locs582 hr582 hC582 hS582 => ?_)
                    obtain ⟨hp582, hr582⟩ := hr582
                    have hKp582 := hKp574.tr (hp582.mono rfl)
                    have m583 : aI H582 h2 (0) = aI H574 h2 (0) := aI_kp hp582 g2 rfl rfl
                    have m584 : aI H582 h2 (1) = aI H574 h2 (1) := aI_kp hp582 g2 rfl rfl
                    have m585 : aI H582 h2 (2) = aI H574 h2 (2) := aI_kp hp582 g2 rfl rfl
                    obtain ⟨f582_0, f582_1⟩ := hr582
                    have lx2 := LX.cel (x := z555) (y := z61) (d := 18 * z61 + 3 * (z555 + 1)) f582_0 tx (by omega) (by omega) (by omega) (by omega) (by omega) (by omega) (by omega) (by omega) (by omega)
                    obtain ⟨v587, ev587⟩ : ∃ z, z = v555 + Int32.ofInt 1 := ⟨_, rfl⟩
                    have ev587i : v587.toInt = (z555 + 1) := i_add ev587 ev555 (by decide) (by omega) (by omega)
                    refine lv_iinc hx hb dL_lay_173 hl (k := 1) rfl ev587.symm (by decide) rfl (fun ls hl => ?_)
                    replace hl : lv_has ls 6 [(4, .int v587), (5, .int v562), (3, .int v61), (0, .ref h0), (1, .ref h1), (2, .ref h2)] := hl
                    refine lv_goto (tgt := 102) hx hb dL_lay_176 rfl ?_
                    exact ih556 H582 locs582 v587 ((z555 + 1)) ls (ms_lt hm556 (by omega) (by omega)) ev587i (by omega) (LX.mono lx2 (by omega)) (by omega) (by omega) (by omega) (by omega) (by omega) (by omega) hC582 hS582 hKp582 (lv_sub hl [0, 2, 3, 4, 5] rfl)
              exact L102 _ H62 locs62 0 0 ls (Nat.lt_succ_self _) (by decide) (by omega) (LX.mono lx (by omega)) (by omega) (by omega) (by omega) (by omega) (by omega) (by omega) hC62 hS62 hKp62 hl
        exact L92 _ H57 locs57 0 0 ls (Nat.lt_succ_self _) (by decide) (by omega) (LX.s2 ⟨txt, lt, tx⟩ (by omega) (by omega)) (by omega) (by omega) (by omega) (by omega) (by omega) (by omega) hC57 hS57 hKp57 hl
      · refine lv_aload_n hx hb dL_lay_51 rfl (lv_at hl 1 rfl) ?_
        refine lv_aload_n hx hb dL_lay_52 rfl (lv_at hl 2 rfl) ?_
        refine lv_iload_n hx hb dL_lay_53 rfl (lv_at hl 0 rfl) ?_
        refine q_if_ne hx hb (a := z56) ev56 (tgt := 62) dL_lay_54 rfl (fun c588 => ?_) (fun c588 => ?_)
        · refine q_ldcS E hS57 (i := 4) (by decide) dL_lay_62 ?_
          refine q_goV (q_runS (As := [.ref h0, .ref h1, .ref (skd X 4)]) (rest := []) E hS57 (m_L_say l X Γ H57 hC57 h0 g0 h1 g1 4 (by decide) ra gra ur tp ((kp_R hKp57 gra (ci := 4) (k := 0) rfl (by decide) rfl).trans htp) gtp _ lt (by omega)) cw_L_say cl_RL_48 rfl hl.1 rfl (Nat.zero_le _) (by decide) dL_lay_64) hS57 (fun H589 locs589 hr589 hC589 hS589 => ?_)
          obtain ⟨hp589, hr589⟩ := hr589
          have hKp589 := hKp57.tr (hp589.mono rfl)
          have m590 : aI H589 h2 (0) = aI H57 h2 (0) := aI_kp hp589 g2 rfl rfl
          have m591 : aI H589 h2 (1) = aI H57 h2 (1) := aI_kp hp589 g2 rfl rfl
          have m592 : aI H589 h2 (2) = aI H57 h2 (2) := aI_kp hp589 g2 rfl rfl
          obtain ⟨f589_0, f589_1⟩ := hr589
          have lt1 := f589_0
          refine lv_aload_n hx hb dL_lay_67 rfl (lv_at hl 1 rfl) ?_
          refine lv_aload_n hx hb dL_lay_68 rfl (lv_at hl 2 rfl) ?_
          refine lv_aload_n hx hb dL_lay_69 rfl (lv_at hl 3 rfl) ?_
          refine lv_iconst (v := 3) hx hb dL_lay_70 rfl ?_
          refine lv_iload_n hx hb dL_lay_71 rfl (lv_at hl 0 rfl) ?_
          refine lv_iadd hx hb dL_lay_72 (lv_topi (fun v594 ev594 => ?_))
          have ev594i : v594.toInt = (3 + z56) := i_add ev594 (by decide) ev56 (by omega) (by omega)
          refine q_iald E hC589 g2 rfl rfl (rl_91_3 ev594i (by omega) (by omega)) (i_in (a := (3 + z56)) ev594i (by omega) (by omega)) dL_lay_73 (fun v595 ev595 lv595 uv595 => ?_)
          have m596 : aI H589 h2 ((3 + z56)) = v595.toInt := aI_of ev594i ev595
          refine q_goV (q_runS (As := [.ref h0, .ref h1, .int v595]) (rest := []) E hS589 (m_L_number l X Γ H589 hC589 h0 g0 h1 g1 v595 (a2 := v595.toInt) rfl ra gra ur tp ((kp_R hKp589 gra (ci := 4) (k := 0) rfl (by decide) rfl).trans htp) gtp _ lt1 (by omega) (by omega) (by omega)) cw_L_number cl_RL_43 rfl hl.1 rfl (Nat.zero_le _) (by decide) dL_lay_74) hS589 (fun H597 locs597 hr597 hC597 hS597 => ?_)
          obtain ⟨hp597, hr597⟩ := hr597
          have hKp597 := hKp589.tr (hp597.mono rfl)
          have m598 : aI H597 h2 (0) = aI H589 h2 (0) := aI_kp hp597 g2 rfl rfl
          have m599 : aI H597 h2 (1) = aI H589 h2 (1) := aI_kp hp597 g2 rfl rfl
          have m600 : aI H597 h2 (2) = aI H589 h2 (2) := aI_kp hp597 g2 rfl rfl
          obtain ⟨f597_0, f597_1⟩ := hr597
          have lt1 := f597_0
          refine lv_aload_n hx hb dL_lay_77 rfl (lv_at hl 1 rfl) ?_
          refine lv_aload_n hx hb dL_lay_78 rfl (lv_at hl 2 rfl) ?_
          refine q_ldcS E hS597 (i := 2) (by decide) dL_lay_79 ?_
          refine q_goV (q_runS (As := [.ref h0, .ref h1, .ref (skd X 2)]) (rest := []) E hS597 (m_L_say l X Γ H597 hC597 h0 g0 h1 g1 2 (by decide) ra gra ur tp ((kp_R hKp597 gra (ci := 4) (k := 0) rfl (by decide) rfl).trans htp) gtp _ lt1 (by omega)) cw_L_say cl_RL_48 rfl hl.1 rfl (Nat.zero_le _) (by decide) dL_lay_81) hS597 (fun H602 locs602 hr602 hC602 hS602 => ?_)
          obtain ⟨hp602, hr602⟩ := hr602
          have hKp602 := hKp597.tr (hp602.mono rfl)
          have m603 : aI H602 h2 (0) = aI H597 h2 (0) := aI_kp hp602 g2 rfl rfl
          have m604 : aI H602 h2 (1) = aI H597 h2 (1) := aI_kp hp602 g2 rfl rfl
          have m605 : aI H602 h2 (2) = aI H597 h2 (2) := aI_kp hp602 g2 rfl rfl
          obtain ⟨f602_0, f602_1⟩ := hr602
          have lx2 := LX.sch (s' := z56 + 1) f602_0 tx (by omega) (by omega) (by omega) (by omega)
          obtain ⟨v607, ev607⟩ : ∃ z, z = v56 + Int32.ofInt 1 := ⟨_, rfl⟩
          have ev607i : v607.toInt = (z56 + 1) := i_add ev607 ev56 (by decide) (by omega) (by omega)
          refine lv_iinc hx hb dL_lay_84 hl (k := 0) rfl ev607.symm (by decide) rfl (fun ls hl => ?_)
          replace hl : lv_has ls 6 [(3, .int v607), (0, .ref h0), (1, .ref h1), (2, .ref h2)] := hl
          refine lv_goto (tgt := 44) hx hb dL_lay_87 rfl ?_
          exact ih57 H602 locs602 v607 ((z56 + 1)) ls (ms_lt hm57 (by omega) (by omega)) ev607i (by omega) (lx2) (by omega) (by omega) (by omega) (by omega) (by omega) (by omega) hC602 hS602 hKp602 hl
        · refine q_ldcS E hS57 (i := 3) (by decide) dL_lay_57 ?_
          refine lv_goto (tgt := 64) hx hb dL_lay_59 rfl ?_
          refine q_goV (q_runS (As := [.ref h0, .ref h1, .ref (skd X 3)]) (rest := []) E hS57 (m_L_say l X Γ H57 hC57 h0 g0 h1 g1 3 (by decide) ra gra ur tp ((kp_R hKp57 gra (ci := 4) (k := 0) rfl (by decide) rfl).trans htp) gtp _ lt (by omega)) cw_L_say cl_RL_48 rfl hl.1 rfl (Nat.zero_le _) (by decide) dL_lay_64) hS57 (fun H608 locs608 hr608 hC608 hS608 => ?_)
          obtain ⟨hp608, hr608⟩ := hr608
          have hKp608 := hKp57.tr (hp608.mono rfl)
          have m609 : aI H608 h2 (0) = aI H57 h2 (0) := aI_kp hp608 g2 rfl rfl
          have m610 : aI H608 h2 (1) = aI H57 h2 (1) := aI_kp hp608 g2 rfl rfl
          have m611 : aI H608 h2 (2) = aI H57 h2 (2) := aI_kp hp608 g2 rfl rfl
          obtain ⟨f608_0, f608_1⟩ := hr608
          have lt1 := f608_0
          refine lv_aload_n hx hb dL_lay_67 rfl (lv_at hl 1 rfl) ?_
          refine lv_aload_n hx hb dL_lay_68 rfl (lv_at hl 2 rfl) ?_
          refine lv_aload_n hx hb dL_lay_69 rfl (lv_at hl 3 rfl) ?_
          refine lv_iconst (v := 3) hx hb dL_lay_70 rfl ?_
          refine lv_iload_n hx hb dL_lay_71 rfl (lv_at hl 0 rfl) ?_
          refine lv_iadd hx hb dL_lay_72 (lv_topi (fun v613 ev613 => ?_))
          have ev613i : v613.toInt = (3 + z56) := i_add ev613 (by decide) ev56 (by omega) (by omega)
          refine q_iald E hC608 g2 rfl rfl (rl_91_3 ev613i (by omega) (by omega)) (i_in (a := (3 + z56)) ev613i (by omega) (by omega)) dL_lay_73 (fun v614 ev614 lv614 uv614 => ?_)
          have m615 : aI H608 h2 ((3 + z56)) = v614.toInt := aI_of ev613i ev614
          refine q_goV (q_runS (As := [.ref h0, .ref h1, .int v614]) (rest := []) E hS608 (m_L_number l X Γ H608 hC608 h0 g0 h1 g1 v614 (a2 := v614.toInt) rfl ra gra ur tp ((kp_R hKp608 gra (ci := 4) (k := 0) rfl (by decide) rfl).trans htp) gtp _ lt1 (by omega) (by omega) (by omega)) cw_L_number cl_RL_43 rfl hl.1 rfl (Nat.zero_le _) (by decide) dL_lay_74) hS608 (fun H616 locs616 hr616 hC616 hS616 => ?_)
          obtain ⟨hp616, hr616⟩ := hr616
          have hKp616 := hKp608.tr (hp616.mono rfl)
          have m617 : aI H616 h2 (0) = aI H608 h2 (0) := aI_kp hp616 g2 rfl rfl
          have m618 : aI H616 h2 (1) = aI H608 h2 (1) := aI_kp hp616 g2 rfl rfl
          have m619 : aI H616 h2 (2) = aI H608 h2 (2) := aI_kp hp616 g2 rfl rfl
          obtain ⟨f616_0, f616_1⟩ := hr616
          have lt1 := f616_0
          refine lv_aload_n hx hb dL_lay_77 rfl (lv_at hl 1 rfl) ?_
          refine lv_aload_n hx hb dL_lay_78 rfl (lv_at hl 2 rfl) ?_
          refine q_ldcS E hS616 (i := 2) (by decide) dL_lay_79 ?_
          refine q_goV (q_runS (As := [.ref h0, .ref h1, .ref (skd X 2)]) (rest := []) E hS616 (m_L_say l X Γ H616 hC616 h0 g0 h1 g1 2 (by decide) ra gra ur tp ((kp_R hKp616 gra (ci := 4) (k := 0) rfl (by decide) rfl).trans htp) gtp _ lt1 (by omega)) cw_L_say cl_RL_48 rfl hl.1 rfl (Nat.zero_le _) (by decide) dL_lay_81) hS616 (fun H621 locs621 hr621 hC621 hS621 => ?_)
          obtain ⟨hp621, hr621⟩ := hr621
          have hKp621 := hKp616.tr (hp621.mono rfl)
          have m622 : aI H621 h2 (0) = aI H616 h2 (0) := aI_kp hp621 g2 rfl rfl
          have m623 : aI H621 h2 (1) = aI H616 h2 (1) := aI_kp hp621 g2 rfl rfl
          have m624 : aI H621 h2 (2) = aI H616 h2 (2) := aI_kp hp621 g2 rfl rfl
          obtain ⟨f621_0, f621_1⟩ := hr621
          have lx2 := LX.sch (s' := z56 + 1) f621_0 tx (by omega) (by omega) (by omega) (by omega)
          obtain ⟨v626, ev626⟩ : ∃ z, z = v56 + Int32.ofInt 1 := ⟨_, rfl⟩
          have ev626i : v626.toInt = (z56 + 1) := i_add ev626 ev56 (by decide) (by omega) (by omega)
          refine lv_iinc hx hb dL_lay_84 hl (k := 0) rfl ev626.symm (by decide) rfl (fun ls hl => ?_)
          replace hl : lv_has ls 6 [(3, .int v626), (0, .ref h0), (1, .ref h1), (2, .ref h2)] := hl
          refine lv_goto (tgt := 44) hx hb dL_lay_87 rfl ?_
          exact ih57 H621 locs621 v626 ((z56 + 1)) ls (ms_lt hm57 (by omega) (by omega)) ev626i (by omega) (lx2) (by omega) (by omega) (by omega) (by omega) (by omega) (by omega) hC621 hS621 hKp621 hl
  exact L44 _ H51 locs51 0 0 ls (Nat.lt_succ_self _) (by decide) (by omega) (lx) (by omega) (by omega) (by omega) (by omega) (by omega) (by omega) hC51 hS51 hKp51 hl
set_option maxRecDepth 100000 in
set_option maxHeartbeats 8000000 in
theorem m_L_draw (l : Launch) (X : xW) (Γ : Nat → Option Nat) (H0 : Heap) (hC0 : Conf X Γ H0) (p1 : Int32) {a1 : Int} (e1 : p1.toInt = a1) (p2 : Int32) {a2 : Int} (e2 : p2.toInt = a2) (h3 : Nat) (g3 : Γ h3 = some 91) (hsl9 : sln X ≤ 260) (r0 : a1 = 3) (r1 : a2 = 25) : Ctr l X Γ yL_draw cL_draw 10 none 0 [.ref (sad X), .int p1, .int p2, .ref h3] H0 (QV X Γ (fun H1 => Kp X Γ [3, 29, 31, 32, 33, 34, 37, 39, 40, 50, 51, 52, 53, 54, 55, 56, 57, 58, 59, 60, 61, 62, 63, 65, 67, 68, 69, 70, 72] H0 H1 ∧ ((aI H1 h3 0 = 2 ∨ aI H1 h3 0 = 4) ∧ (1 ≤ aI H1 h3 1) ∧ (aI H1 h3 1 ≤ 3) ∧ (aI H1 h3 2 = 1 ∨ aI H1 h3 2 = 2)))) := by
  refine q_enterV (own := "SnowFortsLaw") (by decide) rfl (Nat.le_of_ble_eq_true rfl) ?_
  intro p e s m args below meth c ls Qz E hl ret hS0
  have hx := E.1; have hb := E.2.1
  have hKp0 : Kp X Γ [3, 29, 31, 32, 33, 34, 37, 39, 40, 50, 51, 52, 53, 54, 55, 56, 57, 58, 59, 60, 61, 62, 63, 65, 67, 68, 69, 70, 72] H0 H0 := Kp.rf
  have hl : lv_has ls 10 [(0, .ref (sad X)), (1, .int p1), (2, .int p2), (3, .ref h3)] := hl
  refine lv_aload_n hx hb dL_draw_0 rfl (lv_at hl 0 rfl) ?_
  refine q_lenX E hS0 dL_draw_1 ?_
  have J14 : ∀ (v21 : Int32) (z21 : Int), v21.toInt = z21 → W p l e (rmL 0) s m args below meth c H0 [] 0 0 Qz (F0 m 14 ls [.int v21]) := by
    intro v21 z21 ev21
    refine lv_istore hx hb dL_draw_14 hl (by decide) rfl (fun ls hl => ?_)
    replace hl : lv_has ls 10 [(4, .int v21), (0, .ref (sad X)), (1, .int p1), (2, .int p2), (3, .ref h3)] := hl
    refine lv_aload_n hx hb dL_draw_16 rfl (lv_at hl 4 rfl) ?_
    refine lv_iconst (v := 0) hx hb dL_draw_17 rfl ?_
    refine lv_iconst (v := 2) hx hb dL_draw_18 rfl ?_
    refine lv_iconst (v := 2) hx hb dL_draw_19 rfl ?_
    refine lv_iload hx hb dL_draw_20 (lv_at hl 0 rfl) ?_
    refine lv_iconst (v := 3) hx hb dL_draw_22 rfl ?_
    refine lv_iand hx hb dL_draw_23 (lv_topi (fun v22 ev22 => ?_))
    have bv22 := i_andc ev22 (show (3 : Int32).toInt = 3 from by decide) (by decide)
    refine lv_iconst (v := 2) hx hb dL_draw_24 rfl ?_
    refine lv_irem hx hb dL_draw_25 (by decide) (lv_topi (fun v23 ev23 => ?_))
    have ev23i : v23.toInt = (v22.toInt % 2) := i_rem ev23 rfl (by decide) (by omega) (by decide)
    refine lv_imul hx hb dL_draw_26 (lv_topi (fun v24 ev24 => ?_))
    have ev24i : v24.toInt = (2 * (v22.toInt % 2)) := i_mul ev24 (by decide) ev23i (by omega) (by omega)
    refine lv_iadd hx hb dL_draw_27 (lv_topi (fun v25 ev25 => ?_))
    have ev25i : v25.toInt = (2 + (2 * (v22.toInt % 2))) := i_add ev25 (by decide) ev24i (by omega) (by omega)
    refine q_iast E hC0 hS0 g3 (by decide) rfl rfl (i_in (a := 0) (show (0 : Int32).toInt = 0 from by decide) (by omega) (by omega)) (rs_91_0 (show (0 : Int32).toInt = 0 from by decide) (by omega) (by omega) (tv_I ev25i (by omega) (by omega))) dL_draw_28 (fun H26 locs26 hC26 hS26 U26 => ?_)
    have hKp26 := Kp.upA g3 rfl (by decide) rfl U26 hKp0
    have m27 : aI H26 h3 (0) = (2 + (2 * (v22.toInt % 2))) := aI_up U26 (show (0 : Int32).toInt = 0 from by decide) ev25i
    have m29 : aI H26 h3 (1) = aI H0 h3 (1) := aI_un U26 (show (0 : Int32).toInt = 0 from by decide) (by omega)
    have m30 : aI H26 h3 (2) = aI H0 h3 (2) := aI_un U26 (show (0 : Int32).toInt = 0 from by decide) (by omega)
    refine lv_aload_n hx hb dL_draw_29 rfl (lv_at hl 4 rfl) ?_
    refine lv_iconst (v := 1) hx hb dL_draw_30 rfl ?_
    refine lv_iconst (v := 1) hx hb dL_draw_31 rfl ?_
    refine lv_iload hx hb dL_draw_32 (lv_at hl 0 rfl) ?_
    refine lv_iconst (v := 2) hx hb dL_draw_34 rfl ?_
    refine lv_ishr hx hb dL_draw_35 (lv_topi (fun v31 ev31 => ?_))
    refine lv_bipush (v := 7) hx hb dL_draw_36 rfl ?_
    refine lv_iand hx hb dL_draw_38 (lv_topi (fun v32 ev32 => ?_))
    have bv32 := i_andc ev32 (show (7 : Int32).toInt = 7 from by decide) (by decide)
    refine lv_iload_n hx hb dL_draw_39 rfl (lv_at hl 2 rfl) ?_
    refine lv_irem hx hb dL_draw_40 (i_nz e1 (by omega)) (lv_topi (fun v33 ev33 => ?_))
    have ev33b : 0 ≤ v33.toInt ∧ v33.toInt < a1 := by rw [i_rem ev33 rfl e1 (by omega) (by omega)]; exact ⟨Int.emod_nonneg _ (by omega), Int.emod_lt_of_pos _ (by omega)⟩
    refine lv_iadd hx hb dL_draw_41 (lv_topi (fun v34 ev34 => ?_))
    have ev34i : v34.toInt = (1 + v33.toInt) := i_add ev34 (by decide) rfl (by omega) (by omega)
    refine q_iast E hC26 hS26 g3 (by decide) rfl rfl (i_in (a := 1) (show (1 : Int32).toInt = 1 from by decide) (by omega) (by omega)) (rs_91_1 (show (1 : Int32).toInt = 1 from by decide) (by omega) (by omega) (tv_I ev34i (by omega) (by omega))) dL_draw_42 (fun H35 locs35 hC35 hS35 U35 => ?_)
    have hKp35 := Kp.upA g3 rfl (by decide) rfl U35 hKp26
    have m36 : aI H35 h3 (1) = (1 + v33.toInt) := aI_up U35 (show (1 : Int32).toInt = 1 from by decide) ev34i
    have m37 : aI H35 h3 (0) = aI H26 h3 (0) := aI_un U35 (show (1 : Int32).toInt = 1 from by decide) (by omega)
    have m39 : aI H35 h3 (2) = aI H26 h3 (2) := aI_un U35 (show (1 : Int32).toInt = 1 from by decide) (by omega)
    refine lv_aload_n hx hb dL_draw_43 rfl (lv_at hl 4 rfl) ?_
    refine lv_iconst (v := 2) hx hb dL_draw_44 rfl ?_
    refine lv_iload hx hb dL_draw_45 (lv_at hl 0 rfl) ?_
    refine lv_iconst (v := 5) hx hb dL_draw_47 rfl ?_
    refine lv_ishr hx hb dL_draw_48 (lv_topi (fun v40 ev40 => ?_))
    refine lv_bipush (v := 7) hx hb dL_draw_49 rfl ?_
    refine lv_iand hx hb dL_draw_51 (lv_topi (fun v41 ev41 => ?_))
    have bv41 := i_andc ev41 (show (7 : Int32).toInt = 7 from by decide) (by decide)
    have J60 : ∀ (v42 : Int32) (z42 : Int), v42.toInt = z42 → 1 ≤ z42 → z42 ≤ 2 → W p l e (rmL 0) s m args below meth c H35 locs35 0 0 Qz (F0 m 60 ls [.int v42, .int 2, .ref h3]) := by
      intro v42 z42 ev42 lv42 uv42
      refine q_iast E hC35 hS35 g3 (by decide) rfl rfl (i_in (a := 2) (show (2 : Int32).toInt = 2 from by decide) (by omega) (by omega)) (rs_91_2 (show (2 : Int32).toInt = 2 from by decide) (by omega) (by omega) (tv_I ev42 (by omega) (by omega))) dL_draw_60 (fun H43 locs43 hC43 hS43 U43 => ?_)
      have hKp43 := Kp.upA g3 rfl (by decide) rfl U43 hKp35
      have m44 : aI H43 h3 (2) = z42 := aI_up U43 (show (2 : Int32).toInt = 2 from by decide) ev42
      have m45 : aI H43 h3 (0) = aI H35 h3 (0) := aI_un U43 (show (2 : Int32).toInt = 2 from by decide) (by omega)
      have m46 : aI H43 h3 (1) = aI H35 h3 (1) := aI_un U43 (show (2 : Int32).toInt = 2 from by decide) (by omega)
      refine lv_aload_n hx hb dL_draw_61 rfl (lv_at hl 4 rfl) ?_
      refine lv_iconst (v := 3) hx hb dL_draw_62 rfl ?_
      refine lv_iload hx hb dL_draw_63 (lv_at hl 0 rfl) ?_
      refine lv_bipush (v := 8) hx hb dL_draw_65 rfl ?_
      refine lv_ishr hx hb dL_draw_67 (lv_topi (fun v48 ev48 => ?_))
      refine lv_bipush (v := 63) hx hb dL_draw_68 rfl ?_
      refine lv_iand hx hb dL_draw_70 (lv_topi (fun v49 ev49 => ?_))
      have bv49 := i_andc ev49 (show (63 : Int32).toInt = 63 from by decide) (by decide)
      refine lv_bipush (v := 41) hx hb dL_draw_71 rfl ?_
      refine lv_irem hx hb dL_draw_73 (by decide) (lv_topi (fun v50 ev50 => ?_))
      have ev50i : v50.toInt = (v49.toInt % 41) := i_rem ev50 rfl (by decide) (by omega) (by decide)
      refine q_iast E hC43 hS43 g3 (by decide) rfl rfl (i_in (a := 3) (show (3 : Int32).toInt = 3 from by decide) (by omega) (by omega)) (rs_91_3 (show (3 : Int32).toInt = 3 from by decide) (by omega) (by omega) (tv_I ev50i (by omega) (by omega))) dL_draw_74 (fun H51 locs51 hC51 hS51 U51 => ?_)
      have hKp51 := Kp.upA g3 rfl (by decide) rfl U51 hKp43
      have m52 : aI H51 h3 (3) = (v49.toInt % 41) := aI_up U51 (show (3 : Int32).toInt = 3 from by decide) ev50i
      have m53 : aI H51 h3 (0) = aI H43 h3 (0) := aI_un U51 (show (3 : Int32).toInt = 3 from by decide) (by omega)
      have m54 : aI H51 h3 (1) = aI H43 h3 (1) := aI_un U51 (show (3 : Int32).toInt = 3 from by decide) (by omega)
      have m55 : aI H51 h3 (2) = aI H43 h3 (2) := aI_un U51 (show (3 : Int32).toInt = 3 from by decide) (by omega)
      refine lv_aload_n hx hb dL_draw_75 rfl (lv_at hl 4 rfl) ?_
      refine lv_iconst (v := 4) hx hb dL_draw_76 rfl ?_
      refine lv_iload hx hb dL_draw_77 (lv_at hl 0 rfl) ?_
      refine lv_bipush (v := 14) hx hb dL_draw_79 rfl ?_
      refine lv_ishr hx hb dL_draw_81 (lv_topi (fun v56 ev56 => ?_))
      refine lv_bipush (v := 63) hx hb dL_draw_82 rfl ?_
      refine lv_iand hx hb dL_draw_84 (lv_topi (fun v57 ev57 => ?_))
      have bv57 := i_andc ev57 (show (63 : Int32).toInt = 63 from by decide) (by decide)
      refine lv_bipush (v := 41) hx hb dL_draw_85 rfl ?_
      refine lv_irem hx hb dL_draw_87 (by decide) (lv_topi (fun v58 ev58 => ?_))
      have ev58i : v58.toInt = (v57.toInt % 41) := i_rem ev58 rfl (by decide) (by omega) (by decide)
      refine q_iast E hC51 hS51 g3 (by decide) rfl rfl (i_in (a := 4) (show (4 : Int32).toInt = 4 from by decide) (by omega) (by omega)) (rs_91_3 (show (4 : Int32).toInt = 4 from by decide) (by omega) (by omega) (tv_I ev58i (by omega) (by omega))) dL_draw_88 (fun H59 locs59 hC59 hS59 U59 => ?_)
      have hKp59 := Kp.upA g3 rfl (by decide) rfl U59 hKp51
      have m60 : aI H59 h3 (4) = (v57.toInt % 41) := aI_up U59 (show (4 : Int32).toInt = 4 from by decide) ev58i
      have m61 : aI H59 h3 (0) = aI H51 h3 (0) := aI_un U59 (show (4 : Int32).toInt = 4 from by decide) (by omega)
      have m62 : aI H59 h3 (1) = aI H51 h3 (1) := aI_un U59 (show (4 : Int32).toInt = 4 from by decide) (by omega)
      have m63 : aI H59 h3 (2) = aI H51 h3 (2) := aI_un U59 (show (4 : Int32).toInt = 4 from by decide) (by omega)
      refine lv_aload_n hx hb dL_draw_89 rfl (lv_at hl 1 rfl) ?_
      refine q_lenX E hS59 dL_draw_90 ?_
      refine lv_iconst (v := 2) hx hb dL_draw_91 rfl ?_
      have J103 : ∀ (v64 : Int32) (z64 : Int), v64.toInt = z64 → W p l e (rmL 0) s m args below meth c H59 locs59 0 0 Qz (F0 m 103 ls [.int v64]) := by
        intro v64 z64 ev64
        refine lv_istore hx hb dL_draw_103 hl (by decide) rfl (fun ls hl => ?_)
        replace hl : lv_has ls 10 [(5, .int v64), (4, .int v21), (0, .ref (sad X)), (1, .int p1), (2, .int p2), (3, .ref h3)] := hl
        refine lv_aload_n hx hb dL_draw_105 rfl (lv_at hl 5 rfl) ?_
        refine lv_iconst (v := 5) hx hb dL_draw_106 rfl ?_
        refine lv_iload hx hb dL_draw_107 (lv_at hl 0 rfl) ?_
        refine lv_bipush (v := 15) hx hb dL_draw_109 rfl ?_
        refine lv_iand hx hb dL_draw_111 (lv_topi (fun v65 ev65 => ?_))
        have bv65 := i_andc ev65 (show (15 : Int32).toInt = 15 from by decide) (by decide)
        refine q_iast E hC59 hS59 g3 (by decide) rfl rfl (i_in (a := 5) (show (5 : Int32).toInt = 5 from by decide) (by omega) (by omega)) (rs_91_4 (show (5 : Int32).toInt = 5 from by decide) (by omega) (by omega) (tv_I rfl (by omega) (by omega))) dL_draw_112 (fun H66 locs66 hC66 hS66 U66 => ?_)
        have hKp66 := Kp.upA g3 rfl (by decide) rfl U66 hKp59
        have m67 : aI H66 h3 (5) = v65.toInt := aI_up U66 (show (5 : Int32).toInt = 5 from by decide) rfl
        have m68 : aI H66 h3 (0) = aI H59 h3 (0) := aI_un U66 (show (5 : Int32).toInt = 5 from by decide) (by omega)
        have m69 : aI H66 h3 (1) = aI H59 h3 (1) := aI_un U66 (show (5 : Int32).toInt = 5 from by decide) (by omega)
        have m70 : aI H66 h3 (2) = aI H59 h3 (2) := aI_un U66 (show (5 : Int32).toInt = 5 from by decide) (by omega)
        refine lv_aload_n hx hb dL_draw_113 rfl (lv_at hl 5 rfl) ?_
        refine lv_bipush (v := 6) hx hb dL_draw_114 rfl ?_
        refine lv_iload hx hb dL_draw_116 (lv_at hl 0 rfl) ?_
        refine lv_iconst (v := 4) hx hb dL_draw_118 rfl ?_
        refine lv_ishr hx hb dL_draw_119 (lv_topi (fun v71 ev71 => ?_))
        refine lv_bipush (v := 7) hx hb dL_draw_120 rfl ?_
        refine lv_iand hx hb dL_draw_122 (lv_topi (fun v72 ev72 => ?_))
        have bv72 := i_andc ev72 (show (7 : Int32).toInt = 7 from by decide) (by decide)
        refine q_iast E hC66 hS66 g3 (by decide) rfl rfl (i_in (a := 6) (show (6 : Int32).toInt = 6 from by decide) (by omega) (by omega)) (rs_91_5 (show (6 : Int32).toInt = 6 from by decide) (by omega) (by omega) (tv_I rfl (by omega) (by omega))) dL_draw_123 (fun H73 locs73 hC73 hS73 U73 => ?_)
        have hKp73 := Kp.upA g3 rfl (by decide) rfl U73 hKp66
        have m74 : aI H73 h3 (6) = v72.toInt := aI_up U73 (show (6 : Int32).toInt = 6 from by decide) rfl
        have m75 : aI H73 h3 (0) = aI H66 h3 (0) := aI_un U73 (show (6 : Int32).toInt = 6 from by decide) (by omega)
        have m76 : aI H73 h3 (1) = aI H66 h3 (1) := aI_un U73 (show (6 : Int32).toInt = 6 from by decide) (by omega)
        have m77 : aI H73 h3 (2) = aI H66 h3 (2) := aI_un U73 (show (6 : Int32).toInt = 6 from by decide) (by omega)
        refine lv_aload_n hx hb dL_draw_124 rfl (lv_at hl 5 rfl) ?_
        refine lv_bipush (v := 7) hx hb dL_draw_125 rfl ?_
        refine lv_iload hx hb dL_draw_127 (lv_at hl 0 rfl) ?_
        refine lv_bipush (v := 7) hx hb dL_draw_129 rfl ?_
        refine lv_ishr hx hb dL_draw_131 (lv_topi (fun v78 ev78 => ?_))
        refine lv_bipush (v := 15) hx hb dL_draw_132 rfl ?_
        refine lv_iand hx hb dL_draw_134 (lv_topi (fun v79 ev79 => ?_))
        have bv79 := i_andc ev79 (show (15 : Int32).toInt = 15 from by decide) (by decide)
        refine q_iast E hC73 hS73 g3 (by decide) rfl rfl (i_in (a := 7) (show (7 : Int32).toInt = 7 from by decide) (by omega) (by omega)) (rs_91_6 (show (7 : Int32).toInt = 7 from by decide) (by omega) (by omega) (tv_I rfl (by omega) (by omega))) dL_draw_135 (fun H80 locs80 hC80 hS80 U80 => ?_)
        have hKp80 := Kp.upA g3 rfl (by decide) rfl U80 hKp73
        have m81 : aI H80 h3 (7) = v79.toInt := aI_up U80 (show (7 : Int32).toInt = 7 from by decide) rfl
        have m82 : aI H80 h3 (0) = aI H73 h3 (0) := aI_un U80 (show (7 : Int32).toInt = 7 from by decide) (by omega)
        have m83 : aI H80 h3 (1) = aI H73 h3 (1) := aI_un U80 (show (7 : Int32).toInt = 7 from by decide) (by omega)
        have m84 : aI H80 h3 (2) = aI H73 h3 (2) := aI_un U80 (show (7 : Int32).toInt = 7 from by decide) (by omega)
        refine lv_aload_n hx hb dL_draw_136 rfl (lv_at hl 5 rfl) ?_
        refine lv_bipush (v := 8) hx hb dL_draw_137 rfl ?_
        refine lv_iconst (v := 0) hx hb dL_draw_139 rfl ?_
        refine q_iast E hC80 hS80 g3 (by decide) rfl rfl (i_in (a := 8) (show (8 : Int32).toInt = 8 from by decide) (by omega) (by omega)) (rs_91_7 (show (8 : Int32).toInt = 8 from by decide) (by omega) (by omega) tv_F) dL_draw_140 (fun H85 locs85 hC85 hS85 U85 => ?_)
        have hKp85 := Kp.upA g3 rfl (by decide) rfl U85 hKp80
        have m86 : aI H85 h3 (8) = 0 := aI_up U85 (show (8 : Int32).toInt = 8 from by decide) (show (0 : Int32).toInt = 0 from by decide)
        have m87 : aI H85 h3 (0) = aI H80 h3 (0) := aI_un U85 (show (8 : Int32).toInt = 8 from by decide) (by omega)
        have m88 : aI H85 h3 (1) = aI H80 h3 (1) := aI_un U85 (show (8 : Int32).toInt = 8 from by decide) (by omega)
        have m89 : aI H85 h3 (2) = aI H80 h3 (2) := aI_un U85 (show (8 : Int32).toInt = 8 from by decide) (by omega)
        refine lv_aload_n hx hb dL_draw_141 rfl (lv_at hl 5 rfl) ?_
        refine lv_bipush (v := 9) hx hb dL_draw_142 rfl ?_
        refine lv_iload hx hb dL_draw_144 (lv_at hl 0 rfl) ?_
        refine lv_bipush (v := 11) hx hb dL_draw_146 rfl ?_
        refine lv_ishr hx hb dL_draw_148 (lv_topi (fun v90 ev90 => ?_))
        refine lv_iconst (v := 3) hx hb dL_draw_149 rfl ?_
        refine lv_iand hx hb dL_draw_150 (lv_topi (fun v91 ev91 => ?_))
        have bv91 := i_andc ev91 (show (3 : Int32).toInt = 3 from by decide) (by decide)
        refine q_iast E hC85 hS85 g3 (by decide) rfl rfl (i_in (a := 9) (show (9 : Int32).toInt = 9 from by decide) (by omega) (by omega)) (rs_91_8 (show (9 : Int32).toInt = 9 from by decide) (by omega) (by omega) (tv_I rfl (by omega) (by omega))) dL_draw_151 (fun H92 locs92 hC92 hS92 U92 => ?_)
        have hKp92 := Kp.upA g3 rfl (by decide) rfl U92 hKp85
        have m93 : aI H92 h3 (9) = v91.toInt := aI_up U92 (show (9 : Int32).toInt = 9 from by decide) rfl
        have m94 : aI H92 h3 (0) = aI H85 h3 (0) := aI_un U92 (show (9 : Int32).toInt = 9 from by decide) (by omega)
        have m95 : aI H92 h3 (1) = aI H85 h3 (1) := aI_un U92 (show (9 : Int32).toInt = 9 from by decide) (by omega)
        have m96 : aI H92 h3 (2) = aI H85 h3 (2) := aI_un U92 (show (9 : Int32).toInt = 9 from by decide) (by omega)
        refine lv_iconst (v := 0) hx hb dL_draw_152 rfl ?_
        refine lv_istore hx hb dL_draw_153 hl (by decide) rfl (fun ls hl => ?_)
        replace hl : lv_has ls 10 [(6, .int 0), (5, .int v64), (4, .int v21), (0, .ref (sad X)), (1, .int p1), (2, .int p2), (3, .ref h3)] := hl
        have L155 : ∀ (n98 : Nat) (H98 : Heap) (locs98 : List Loc) (v97 : Int32) (z97 : Int) (ls : Array Slot), (3 - z97).toNat < n98 → v97.toInt = z97 → 0 ≤ z97 → 0 ≤ z97 → aI H98 h3 0 = 2 ∨ aI H98 h3 0 = 4 → 1 ≤ aI H98 h3 1 → aI H98 h3 1 ≤ 3 → aI H98 h3 2 = 1 ∨ aI H98 h3 2 = 2 → Conf X Γ H98 → va_S (AΓ Γ) H0 H98 locs98 → Kp X Γ [3, 29, 31, 32, 33, 34, 37, 39, 40, 50, 51, 52, 53, 54, 55, 56, 57, 58, 59, 60, 61, 62, 63, 65, 67, 68, 69, 70, 72] H0 H98 → lv_has ls 10 [(6, .int v97), (5, .int v64), (4, .int v21), (0, .ref (sad X)), (1, .int p1), (2, .int p2), (3, .ref h3)] → W p l e (rmL 0) s m args below meth c H98 locs98 0 0 Qz (F0 m 155 ls []) := by
          intro n98
          induction n98 with
          | zero => intro H98 locs98 v97 z97 ls hm98 ev97 iv98_0 iv98_1 iv98_2 iv98_3 iv98_4 iv98_5 hC98 hS98 hKp98 hl; exact absurd hm98 (Nat.not_lt_zero _)
          | succ n98 ih98 =>
            intro H98 locs98 v97 z97 ls hm98 ev97 iv98_0 iv98_1 iv98_2 iv98_3 iv98_4 iv98_5 hC98 hS98 hKp98 hl
            refine lv_iload hx hb dL_draw_155 (lv_at hl 0 rfl) ?_
            refine lv_aload_n hx hb dL_draw_157 rfl (lv_at hl 6 rfl) ?_
            refine lv_iconst (v := 1) hx hb dL_draw_158 rfl ?_
            refine q_iald E hC98 g3 rfl rfl (rl_91_1 (show (1 : Int32).toInt = 1 from by decide) (by omega) (by omega)) (i_in (a := 1) (show (1 : Int32).toInt = 1 from by decide) (by omega) (by omega)) dL_draw_159 (fun v99 ev99 lv99 uv99 => ?_)
            have m100 : aI H98 h3 (1) = v99.toInt := aI_of (show (1 : Int32).toInt = 1 from by decide) ev99
            refine q_icmp_ge hx hb (a := z97) (b := v99.toInt) ev97 rfl (tgt := 312) dL_draw_160 rfl (fun c101 => ?_) (fun c101 => ?_)
            · exact ret H98 locs98 _ _ dL_draw_312 ⟨hKp98, ⟨by omega, by omega, by omega, by omega⟩⟩ hC98 hS98
            · refine lv_iconst (v := 0) hx hb dL_draw_163 rfl ?_
              refine lv_istore hx hb dL_draw_164 hl (by decide) rfl (fun ls hl => ?_)
              replace hl : lv_has ls 10 [(7, .int 0), (6, .int v97), (5, .int v64), (4, .int v21), (0, .ref (sad X)), (1, .int p1), (2, .int p2), (3, .ref h3)] := hl
              have L166 : ∀ (n103 : Nat) (H103 : Heap) (locs103 : List Loc) (v102 : Int32) (z102 : Int) (ls : Array Slot), (4 - z102).toNat < n103 → v102.toInt = z102 → 0 ≤ z102 → 0 ≤ z102 → aI H103 h3 0 = 2 ∨ aI H103 h3 0 = 4 → 1 ≤ aI H103 h3 1 → aI H103 h3 1 ≤ 3 → aI H103 h3 2 = 1 ∨ aI H103 h3 2 = 2 → Conf X Γ H103 → va_S (AΓ Γ) H0 H103 locs103 → Kp X Γ [3, 29, 31, 32, 33, 34, 37, 39, 40, 50, 51, 52, 53, 54, 55, 56, 57, 58, 59, 60, 61, 62, 63, 65, 67, 68, 69, 70, 72] H0 H103 → lv_has ls 10 [(7, .int v102), (6, .int v97), (5, .int v64), (4, .int v21), (0, .ref (sad X)), (1, .int p1), (2, .int p2), (3, .ref h3)] → W p l e (rmL 0) s m args below meth c H103 locs103 0 0 Qz (F0 m 166 ls []) := by
                intro n103
                induction n103 with
                | zero => intro H103 locs103 v102 z102 ls hm103 ev102 iv103_0 iv103_1 iv103_2 iv103_3 iv103_4 iv103_5 hC103 hS103 hKp103 hl; exact absurd hm103 (Nat.not_lt_zero _)
                | succ n103 ih103 =>
                  intro H103 locs103 v102 z102 ls hm103 ev102 iv103_0 iv103_1 iv103_2 iv103_3 iv103_4 iv103_5 hC103 hS103 hKp103 hl
                  refine lv_iload hx hb dL_draw_166 (lv_at hl 0 rfl) ?_
                  refine lv_aload_n hx hb dL_draw_168 rfl (lv_at hl 7 rfl) ?_
                  refine lv_iconst (v := 0) hx hb dL_draw_169 rfl ?_
                  refine q_iald E hC103 g3 rfl rfl (rl_91_0 (show (0 : Int32).toInt = 0 from by decide) (by omega) (by omega)) (i_in (a := 0) (show (0 : Int32).toInt = 0 from by decide) (by omega) (by omega)) dL_draw_170 (fun v104 ev104 lv104 uv104 => ?_)
                  have m105 : aI H103 h3 (0) = v104.toInt := aI_of (show (0 : Int32).toInt = 0 from by decide) ev104
                  refine q_icmp_ge hx hb (a := z102) (b := v104.toInt) ev102 rfl (tgt := 306) dL_draw_171 rfl (fun c106 => ?_) (fun c106 => ?_)
                  · obtain ⟨v107, ev107⟩ : ∃ z, z = v97 + Int32.ofInt 1 := ⟨_, rfl⟩
                    have ev107i : v107.toInt = (z97 + 1) := i_add ev107 ev97 (by decide) (by omega) (by omega)
                    refine lv_iinc hx hb dL_draw_306 hl (k := 1) rfl ev107.symm (by decide) rfl (fun ls hl => ?_)
                    replace hl : lv_has ls 10 [(6, .int v107), (7, .int v102), (5, .int v64), (4, .int v21), (0, .ref (sad X)), (1, .int p1), (2, .int p2), (3, .ref h3)] := hl
                    refine lv_goto (tgt := 155) hx hb dL_draw_309 rfl ?_
                    exact ih98 H103 locs103 v107 ((z97 + 1)) ls (ms_lt hm98 (by omega) (by omega)) ev107i (by omega) (by omega) (by omega) (by omega) (by omega) (by omega) hC103 hS103 hKp103 (lv_sub hl [0, 2, 3, 4, 5, 6, 7] rfl)
                  · refine lv_bipush (v := 6) hx hb dL_draw_174 rfl ?_
                    refine lv_iload hx hb dL_draw_176 (lv_at hl 1 rfl) ?_
                    refine lv_imul hx hb dL_draw_178 (lv_topi (fun v108 ev108 => ?_))
                    have ev108i : v108.toInt = (6 * z97) := i_mul ev108 (by decide) ev97 (by omega) (by omega)
                    refine lv_iload hx hb dL_draw_179 (lv_at hl 0 rfl) ?_
                    refine lv_iadd hx hb dL_draw_181 (lv_topi (fun v109 ev109 => ?_))
                    have ev109i : v109.toInt = ((6 * z97) + z102) := i_add ev109 ev108i ev102 (by omega) (by omega)
                    refine lv_istore hx hb dL_draw_182 hl (by decide) rfl (fun ls hl => ?_)
                    replace hl : lv_has ls 10 [(8, .int v109), (7, .int v102), (6, .int v97), (5, .int v64), (4, .int v21), (0, .ref (sad X)), (1, .int p1), (2, .int p2), (3, .ref h3)] := hl
                    refine lv_iload hx hb dL_draw_184 (lv_at hl 0 rfl) ?_
                    refine lv_bipush (v := 7) hx hb dL_draw_186 rfl ?_
                    refine lv_irem hx hb dL_draw_188 (by decide) (lv_topi (fun v110 ev110 => ?_))
                    have ev110i : v110.toInt = (((6 * z97) + z102) % 7) := i_rem ev110 ev109i (by decide) (by omega) (by decide)
                    refine lv_iconst (v := 2) hx hb dL_draw_189 rfl ?_
                    refine lv_iadd hx hb dL_draw_190 (lv_topi (fun v111 ev111 => ?_))
                    have ev111i : v111.toInt = ((((6 * z97) + z102) % 7) + 2) := i_add ev111 ev110i (by decide) (by omega) (by omega)
                    refine lv_aload_n hx hb dL_draw_191 rfl (lv_at hl 5 rfl) ?_
                    refine q_lenX E hS103 dL_draw_192 ?_
                    have J221 : ∀ (v112 : Int32) (z112 : Int), v112.toInt = z112 → W p l e (rmL 0) s m args below meth c H103 locs103 0 0 Qz (F0 m 221 ls [.int v112]) := by
                      intro v112 z112 ev112
                      refine lv_istore hx hb dL_draw_221 hl (by decide) rfl (fun ls hl => ?_)
                      replace hl : lv_has ls 10 [(9, .int v112), (8, .int v109), (7, .int v102), (6, .int v97), (5, .int v64), (4, .int v21), (0, .ref (sad X)), (1, .int p1), (2, .int p2), (3, .ref h3)] := hl
                      refine lv_aload_n hx hb dL_draw_223 rfl (lv_at hl 9 rfl) ?_
                      refine lv_bipush (v := 10) hx hb dL_draw_224 rfl ?_
                      refine lv_iload hx hb dL_draw_226 (lv_at hl 1 rfl) ?_
                      refine lv_iadd hx hb dL_draw_228 (lv_topi (fun v113 ev113 => ?_))
                      have ev113i : v113.toInt = (10 + ((6 * z97) + z102)) := i_add ev113 (by decide) ev109i (by omega) (by omega)
                      refine lv_iload hx hb dL_draw_229 (lv_at hl 0 rfl) ?_
                      refine lv_bipush (v := 127) hx hb dL_draw_231 rfl ?_
                      refine lv_iand hx hb dL_draw_233 (lv_topi (fun v114 ev114 => ?_))
                      have bv114 := i_andc ev114 (show (127 : Int32).toInt = 127 from by decide) (by decide)
                      refine lv_iload_n hx hb dL_draw_234 rfl (lv_at hl 8 rfl) ?_
                      refine lv_irem hx hb dL_draw_235 (i_nz e2 (by omega)) (lv_topi (fun v115 ev115 => ?_))
                      have ev115b : 0 ≤ v115.toInt ∧ v115.toInt < a2 := by rw [i_rem ev115 rfl e2 (by omega) (by omega)]; exact ⟨Int.emod_nonneg _ (by omega), Int.emod_lt_of_pos _ (by omega)⟩
                      refine q_iast E hC103 hS103 g3 (by decide) rfl rfl (i_in (a := (10 + ((6 * z97) + z102))) ev113i (by omega) (by omega)) (rs_91_9 ev113i (by omega) (by omega) (tv_I rfl (by omega) (by omega))) dL_draw_236 (fun H116 locs116 hC116 hS116 U116 => ?_)
                      have hKp116 := Kp.upA g3 rfl (by decide) rfl U116 hKp103
                      have m117 : aI H116 h3 ((10 + ((6 * z97) + z102))) = v115.toInt := aI_up U116 ev113i rfl
                      have m118 : aI H116 h3 (0) = aI H103 h3 (0) := aI_un U116 ev113i (by omega)
                      have m119 : aI H116 h3 (1) = aI H103 h3 (1) := aI_un U116 ev113i (by omega)
                      have m120 : aI H116 h3 (2) = aI H103 h3 (2) := aI_un U116 ev113i (by omega)
                      refine lv_aload_n hx hb dL_draw_237 rfl (lv_at hl 9 rfl) ?_
                      refine lv_bipush (v := 46) hx hb dL_draw_238 rfl ?_
                      refine lv_iload hx hb dL_draw_240 (lv_at hl 1 rfl) ?_
                      refine lv_iadd hx hb dL_draw_242 (lv_topi (fun v121 ev121 => ?_))
                      have ev121i : v121.toInt = (46 + ((6 * z97) + z102)) := i_add ev121 (by decide) ev109i (by omega) (by omega)
                      refine lv_iload hx hb dL_draw_243 (lv_at hl 0 rfl) ?_
                      refine lv_bipush (v := 7) hx hb dL_draw_245 rfl ?_
                      refine lv_ishr hx hb dL_draw_247 (lv_topi (fun v122 ev122 => ?_))
                      refine lv_iconst (v := 3) hx hb dL_draw_248 rfl ?_
                      refine lv_iand hx hb dL_draw_249 (lv_topi (fun v123 ev123 => ?_))
                      have bv123 := i_andc ev123 (show (3 : Int32).toInt = 3 from by decide) (by decide)
                      have J267 : ∀ (v124 : Int32) (z124 : Int), v124.toInt = z124 → 0 ≤ z124 → z124 ≤ 24 → W p l e (rmL 0) s m args below meth c H116 locs116 0 0 Qz (F0 m 267 ls [.int v124, .int v121, .ref h3]) := by
                        intro v124 z124 ev124 lv124 uv124
                        refine q_iast E hC116 hS116 g3 (by decide) rfl rfl (i_in (a := (46 + ((6 * z97) + z102))) ev121i (by omega) (by omega)) (rs_91_10 ev121i (by omega) (by omega) (tv_I ev124 (by omega) (by omega))) dL_draw_267 (fun H125 locs125 hC125 hS125 U125 => ?_)
                        have hKp125 := Kp.upA g3 rfl (by decide) rfl U125 hKp116
                        have m126 : aI H125 h3 ((46 + ((6 * z97) + z102))) = z124 := aI_up U125 ev121i ev124
                        have m127 : aI H125 h3 (0) = aI H116 h3 (0) := aI_un U125 ev121i (by omega)
                        have m128 : aI H125 h3 (1) = aI H116 h3 (1) := aI_un U125 ev121i (by omega)
                        have m129 : aI H125 h3 (2) = aI H116 h3 (2) := aI_un U125 ev121i (by omega)
                        refine lv_aload_n hx hb dL_draw_268 rfl (lv_at hl 9 rfl) ?_
                        refine lv_bipush (v := 82) hx hb dL_draw_269 rfl ?_
                        refine lv_iload hx hb dL_draw_271 (lv_at hl 1 rfl) ?_
                        refine lv_iadd hx hb dL_draw_273 (lv_topi (fun v130 ev130 => ?_))
                        have ev130i : v130.toInt = (82 + ((6 * z97) + z102)) := i_add ev130 (by decide) ev109i (by omega) (by omega)
                        refine lv_iload hx hb dL_draw_274 (lv_at hl 0 rfl) ?_
                        refine lv_bipush (v := 16) hx hb dL_draw_276 rfl ?_
                        refine lv_ishr hx hb dL_draw_278 (lv_topi (fun v131 ev131 => ?_))
                        refine lv_iconst (v := 3) hx hb dL_draw_279 rfl ?_
                        refine lv_iand hx hb dL_draw_280 (lv_topi (fun v132 ev132 => ?_))
                        have bv132 := i_andc ev132 (show (3 : Int32).toInt = 3 from by decide) (by decide)
                        have J299 : ∀ (v133 : Int32) (z133 : Int), v133.toInt = z133 → 0 ≤ z133 → z133 ≤ 9 → W p l e (rmL 0) s m args below meth c H125 locs125 0 0 Qz (F0 m 299 ls [.int v133, .int v130, .ref h3]) := by
                          intro v133 z133 ev133 lv133 uv133
                          refine q_iast E hC125 hS125 g3 (by decide) rfl rfl (i_in (a := (82 + ((6 * z97) + z102))) ev130i (by omega) (by omega)) (rs_91_11 ev130i (by omega) (by omega) (tv_I ev133 (by omega) (by omega))) dL_draw_299 (fun H134 locs134 hC134 hS134 U134 => ?_)
                          have hKp134 := Kp.upA g3 rfl (by decide) rfl U134 hKp125
                          have m135 : aI H134 h3 ((82 + ((6 * z97) + z102))) = z133 := aI_up U134 ev130i ev133
                          have m136 : aI H134 h3 (0) = aI H125 h3 (0) := aI_un U134 ev130i (by omega)
                          have m137 : aI H134 h3 (1) = aI H125 h3 (1) := aI_un U134 ev130i (by omega)
                          have m138 : aI H134 h3 (2) = aI H125 h3 (2) := aI_un U134 ev130i (by omega)
                          obtain ⟨v139, ev139⟩ : ∃ z, z = v102 + Int32.ofInt 1 := ⟨_, rfl⟩
                          have ev139i : v139.toInt = (z102 + 1) := i_add ev139 ev102 (by decide) (by omega) (by omega)
                          refine lv_iinc hx hb dL_draw_300 hl (k := 2) rfl ev139.symm (by decide) rfl (fun ls hl => ?_)
                          replace hl : lv_has ls 10 [(7, .int v139), (9, .int v112), (8, .int v109), (6, .int v97), (5, .int v64), (4, .int v21), (0, .ref (sad X)), (1, .int p1), (2, .int p2), (3, .ref h3)] := hl
                          refine lv_goto (tgt := 166) hx hb dL_draw_303 rfl ?_
                          exact ih103 H134 locs134 v139 ((z102 + 1)) ls (ms_lt hm103 (by omega) (by omega)) ev139i (by omega) (by omega) (by omega) (by omega) (by omega) (by omega) hC134 hS134 hKp134 (lv_sub hl [0, 3, 4, 5, 6, 7, 8, 9] rfl)
                        refine q_if_ne hx hb (a := v132.toInt) rfl (tgt := 298) dL_draw_281 rfl (fun c140 => ?_) (fun c140 => ?_)
                        · refine lv_iconst (v := 0) hx hb dL_draw_298 rfl ?_
                          exact J299 0 (0) (show (0 : Int32).toInt = 0 from by decide) (by omega) (by omega)
                        · refine lv_iload hx hb dL_draw_284 (lv_at hl 0 rfl) ?_
                          refine lv_bipush (v := 18) hx hb dL_draw_286 rfl ?_
                          refine lv_ishr hx hb dL_draw_288 (lv_topi (fun v141 ev141 => ?_))
                          refine lv_bipush (v := 15) hx hb dL_draw_289 rfl ?_
                          refine lv_iand hx hb dL_draw_291 (lv_topi (fun v142 ev142 => ?_))
                          have bv142 := i_andc ev142 (show (15 : Int32).toInt = 15 from by decide) (by decide)
                          refine lv_bipush (v := 10) hx hb dL_draw_292 rfl ?_
                          refine lv_irem hx hb dL_draw_294 (by decide) (lv_topi (fun v143 ev143 => ?_))
                          have ev143i : v143.toInt = (v142.toInt % 10) := i_rem ev143 rfl (by decide) (by omega) (by decide)
                          refine lv_goto (tgt := 299) hx hb dL_draw_295 rfl ?_
                          exact J299 v143 ((v142.toInt % 10)) ev143i (by omega) (by omega)
                      refine q_if_ne hx hb (a := v123.toInt) rfl (tgt := 257) dL_draw_250 rfl (fun c144 => ?_) (fun c144 => ?_)
                      · refine lv_iload hx hb dL_draw_257 (lv_at hl 0 rfl) ?_
                        refine lv_bipush (v := 9) hx hb dL_draw_259 rfl ?_
                        refine lv_ishr hx hb dL_draw_261 (lv_topi (fun v145 ev145 => ?_))
                        refine lv_bipush (v := 127) hx hb dL_draw_262 rfl ?_
                        refine lv_iand hx hb dL_draw_264 (lv_topi (fun v146 ev146 => ?_))
                        have bv146 := i_andc ev146 (show (127 : Int32).toInt = 127 from by decide) (by decide)
                        refine lv_iload_n hx hb dL_draw_265 rfl (lv_at hl 8 rfl) ?_
                        refine lv_irem hx hb dL_draw_266 (i_nz e2 (by omega)) (lv_topi (fun v147 ev147 => ?_))
                        have ev147b : 0 ≤ v147.toInt ∧ v147.toInt < a2 := by rw [i_rem ev147 rfl e2 (by omega) (by omega)]; exact ⟨Int.emod_nonneg _ (by omega), Int.emod_lt_of_pos _ (by omega)⟩
                        exact J267 v147 (v147.toInt) rfl (by omega) (by omega)
                      · refine lv_iconst (v := 0) hx hb dL_draw_253 rfl ?_
                        refine lv_goto (tgt := 267) hx hb dL_draw_254 rfl ?_
                        exact J267 0 (0) (show (0 : Int32).toInt = 0 from by decide) (by omega) (by omega)
                    refine q_icmp_ge hx hb (a := ((((6 * z97) + z102) % 7) + 2)) (b := ((sln X : Nat) : Int)) ev111i (slnI hsl9) (tgt := 213) dL_draw_193 rfl (fun c148 => ?_) (fun c148 => ?_)
                    · refine lv_sipush (v := 1231) hx hb dL_draw_213 rfl ?_
                      refine lv_iload hx hb dL_draw_216 (lv_at hl 0 rfl) ?_
                      refine lv_imul hx hb dL_draw_218 (lv_topi (fun v149 ev149 => ?_))
                      have ev149i : v149.toInt = (1231 * ((6 * z97) + z102)) := i_mul ev149 (by decide) ev109i (by omega) (by omega)
                      refine lv_iconst (v := 5) hx hb dL_draw_219 rfl ?_
                      refine lv_iadd hx hb dL_draw_220 (lv_topi (fun v150 ev150 => ?_))
                      have ev150i : v150.toInt = ((1231 * ((6 * z97) + z102)) + 5) := i_add ev150 ev149i (by decide) (by omega) (by omega)
                      exact J221 v150 (((1231 * ((6 * z97) + z102)) + 5)) ev150i
                    · refine lv_aload_n hx hb dL_draw_196 rfl (lv_at hl 5 rfl) ?_
                      refine lv_iload hx hb dL_draw_197 (lv_at hl 0 rfl) ?_
                      refine lv_bipush (v := 7) hx hb dL_draw_199 rfl ?_
                      refine lv_irem hx hb dL_draw_201 (by decide) (lv_topi (fun v151 ev151 => ?_))
                      have ev151i : v151.toInt = (((6 * z97) + z102) % 7) := i_rem ev151 ev109i (by decide) (by omega) (by decide)
                      refine lv_iconst (v := 2) hx hb dL_draw_202 rfl ?_
                      refine lv_iadd hx hb dL_draw_203 (lv_topi (fun v152 ev152 => ?_))
                      have ev152i : v152.toInt = ((((6 * z97) + z102) % 7) + 2) := i_add ev152 ev151i (by decide) (by omega) (by omega)
                      refine q_ldX E hS103 (a := ((((6 * z97) + z102) % 7) + 2)) ev152i (by omega) (by omega) dL_draw_204 (fun v153 => ?_)
                      refine lv_iload hx hb dL_draw_205 (lv_at hl 0 rfl) ?_
                      refine lv_iconst (v := 5) hx hb dL_draw_207 rfl ?_
                      refine lv_irem hx hb dL_draw_208 (by decide) (lv_topi (fun v154 ev154 => ?_))
                      have ev154i : v154.toInt = (((6 * z97) + z102) % 5) := i_rem ev154 ev109i (by decide) (by omega) (by decide)
                      refine lv_ishr hx hb dL_draw_209 (lv_topi (fun v155 ev155 => ?_))
                      refine lv_goto (tgt := 221) hx hb dL_draw_210 rfl ?_
                      exact J221 v155 (v155.toInt) rfl
              exact L166 _ H98 locs98 0 0 ls (Nat.lt_succ_self _) (by decide) (by omega) (by omega) (by omega) (by omega) (by omega) (by omega) hC98 hS98 hKp98 hl
        exact L155 _ H92 locs92 0 0 ls (Nat.lt_succ_self _) (by decide) (by omega) (by omega) (by omega) (by omega) (by omega) (by omega) hC92 hS92 hKp92 hl
      refine q_icmp_ge hx hb (a := ((sln X : Nat) : Int)) (b := 2) (slnI hsl9) (by decide) (tgt := 100) dL_draw_92 rfl (fun c156 => ?_) (fun c156 => ?_)
      · refine lv_aload_n hx hb dL_draw_100 rfl (lv_at hl 1 rfl) ?_
        refine lv_iconst (v := 1) hx hb dL_draw_101 rfl ?_
        refine q_ldX E hS59 (a := 1) (show (1 : Int32).toInt = 1 from by decide) (by omega) (by omega) dL_draw_102 (fun v157 => ?_)
        exact J103 v157 (v157.toInt) rfl
      · refine lv_bipush (v := 61) hx hb dL_draw_95 rfl ?_
        refine lv_goto (tgt := 103) hx hb dL_draw_97 rfl ?_
        exact J103 61 (61) (show (61 : Int32).toInt = 61 from by decide)
    refine q_if_ne hx hb (a := v41.toInt) rfl (tgt := 59) dL_draw_52 rfl (fun c158 => ?_) (fun c158 => ?_)
    · refine lv_iconst (v := 2) hx hb dL_draw_59 rfl ?_
      exact J60 2 (2) (show (2 : Int32).toInt = 2 from by decide) (by omega) (by omega)
    · refine lv_iconst (v := 1) hx hb dL_draw_55 rfl ?_
      refine lv_goto (tgt := 60) hx hb dL_draw_56 rfl ?_
      exact J60 1 (1) (show (1 : Int32).toInt = 1 from by decide) (by omega) (by omega)
  refine q_if_ne hx hb (a := ((sln X : Nat) : Int)) (slnI hsl9) (tgt := 11) dL_draw_2 rfl (fun c159 => ?_) (fun c159 => ?_)
  · refine lv_aload_n hx hb dL_draw_11 rfl (lv_at hl 0 rfl) ?_
    refine lv_iconst (v := 0) hx hb dL_draw_12 rfl ?_
    refine q_ldX E hS0 (a := 0) (show (0 : Int32).toInt = 0 from by decide) (by omega) (by omega) dL_draw_13 (fun v160 => ?_)
    exact J14 v160 (v160.toInt) rfl
  · refine lv_sipush (v := 7919) hx hb dL_draw_5 rfl ?_
    refine lv_goto (tgt := 14) hx hb dL_draw_8 rfl ?_
    exact J14 7919 (7919) (show (7919 : Int32).toInt = 7919 from by decide)
