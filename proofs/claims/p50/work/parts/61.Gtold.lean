set_option maxRecDepth 100000 in
set_option maxHeartbeats 8000000 in
theorem sg_told (l : Launch) {p : Program} {e : Env} {s : State} {m : MethodId} {args : Array Value} {below : List Frame} {meth : Method} {c : Code} {X : xW} {Γ : Nat → Option Nat} {Qz : State → Prop} (E : Ev p s m args meth c cL_law 15 "SnowFortsLaw" ret X Γ s.heap) (H0 : Heap) (hC0 : Conf X Γ H0) (locs0 : List Loc) (hS0 : va_S (AΓ Γ) s.heap H0 locs0) (h0 : Nat) (g0 : Γ h0 = some 0) (mm ha : Nat) (gmm : Γ mm = some 90) (gha : Γ ha = some 91) (yd : Nat) (hyd : sR H0 h0 (X.1.2 10 5) = some yd) (gyd : Γ yd = some 5) (sn wl su lw ic kn hd us br ar fi : Nat) (yn : YN X Γ H0 yd sn wl su lw ic kn hd us br ar fi) (v4 : Int32) {z4 : Int} (ev4 : v4.toInt = z4) {ls : Array Slot} (hl : lv_has ls 15 [(4, .int v4), (0, .ref (sad X)), (1, .ref h0), (2, .ref mm), (3, .ref ha)]) (hk : ∀ (H1 : Heap) (locs1 : List Loc) (y6 : Int32) (u6 : Int) (y5 : Int32) (u5 : Int) (ls : Array Slot), Conf X Γ H1 → va_S (AΓ Γ) s.heap H1 locs1 → Kp X Γ [3, 29, 31, 32, 33, 34, 37, 39, 40, 50, 51, 52, 53, 54, 55, 56, 57, 58, 59, 60, 61, 62, 63, 65, 67, 68, 69, 70, 71] H0 H1 → y6.toInt = u6 → y5.toInt = u5 → (u5 = SM H1 sn 36 + SM H1 wl 36) → (0 ≤ u5) → (u5 ≤ 7128) → (u6 = 0) → lv_has ls 15 [(6, .int y6), (5, .int y5), (4, .int v4), (0, .ref (sad X)), (1, .ref h0), (2, .ref mm), (3, .ref ha)] → W p l e room_1 s m args below meth c H1 locs1 133 8682 Qz (F0 m 71 ls [])) : W p l e room_1 s m args below meth c H0 locs0 133 8682 Qz (F0 m 54 ls []) := by
  have hx := E.1; have hb := E.2.1
  have hKp0 : Kp X Γ [3, 29, 31, 32, 33, 34, 37, 39, 40, 50, 51, 52, 53, 54, 55, 56, 57, 58, 59, 60, 61, 62, 63, 65, 67, 68, 69, 70, 71] H0 H0 := Kp.rf
  have gsn := yn.sn.2; have gwl := yn.wl.2; have gsu := yn.su.2; have glw := yn.lw.2; have gic := yn.ic.2; have gkn := yn.kn.2; have ghd := yn.hd.2; have gus := yn.us.2; have gbr := yn.br.2; have gar := yn.ar.2; have gfi := yn.fi.2
  refine lv_aload_n hx hb dL_law_54 rfl (lv_at hl 2 rfl) ?_
  refine lv_iconst (v := 5) hx hb dL_law_55 rfl ?_
  refine r_goI (r_runV (As := [.int 5]) (rest := []) E hC0 hS0 (m_X11_many l X Γ H0 hC0 h0 g0 5 (a1 := 5) (by decide) yd hyd gyd sn wl su lw ic kn hd us br ar fi yn (by omega) (by omega)) cw_X11_many cl_RL_100 g0 ⟨rfl, rfl⟩ rfl hl.1 rfl (Nat.zero_le _) (by decide) dL_law_56) hS0 (fun v21 H21 locs21 hr21 hC21 hS21 => ?_)
  obtain ⟨hp21, hr21⟩ := hr21
  have hKp21 := hKp0.tr (hp21.mono rfl)
  have m22 : SM H21 sn 36 = SM H0 sn 36 := SM_kp hp21 gsn rfl rfl
  have m23 : SM H21 wl 36 = SM H0 wl 36 := SM_kp hp21 gwl rfl rfl
  obtain ⟨f21_0, f21_1, f21_2, f21_3, f21_4, f21_5⟩ := hr21
  have hv5 := f21_1 rfl
  have hs5 := SM_bd (n := 36) hC21 gsn rfl rfl (fun _ => rfl) (by decide)
  clear f21_0
  replace f21_1 := f21_1 rfl
  clear f21_2
  clear f21_3
  clear f21_4
  clear f21_5
  refine lv_aload_n hx hb dL_law_59 rfl (lv_at hl 2 rfl) ?_
  refine lv_bipush (v := 6) hx hb dL_law_60 rfl ?_
  refine r_goI (r_runV (As := [.int 6]) (rest := [.int v21]) E hC21 hS21 (m_X11_many l X Γ H21 hC21 h0 g0 6 (a1 := 6) (by decide) yd ((kp_R hKp21 g0 (ci := 10) (k := 5) rfl (by decide) rfl).trans hyd) gyd sn wl su lw ic kn hd us br ar fi (yn.kp gyd hKp21 rfl) (by omega) (by omega)) cw_X11_many cl_RL_100 g0 ⟨rfl, rfl⟩ rfl hl.1 rfl (show _ ≤ _ from by simp [Value.category]) (by decide) dL_law_62) hS21 (fun v24 H24 locs24 hr24 hC24 hS24 => ?_)
  obtain ⟨hp24, hr24⟩ := hr24
  have hKp24 := hKp21.tr (hp24.mono rfl)
  have m25 : SM H24 sn 36 = SM H21 sn 36 := SM_kp hp24 gsn rfl rfl
  have m26 : SM H24 wl 36 = SM H21 wl 36 := SM_kp hp24 gwl rfl rfl
  obtain ⟨f24_0, f24_1, f24_2, f24_3, f24_4, f24_5⟩ := hr24
  have hv6 := f24_2 rfl
  have hs6 := SM_bd (n := 36) hC24 gwl rfl rfl (fun _ => rfl) (by decide)
  clear f24_0
  clear f24_1
  replace f24_2 := f24_2 rfl
  clear f24_3
  clear f24_4
  clear f24_5
  refine lv_iadd hx hb dL_law_65 (lv_topi (fun v27 ev27 => ?_))
  have ev27i : v27.toInt = (v21.toInt + v24.toInt) := i_add ev27 rfl rfl (by omega) (by omega)
  refine lv_istore hx hb dL_law_66 hl (by decide) rfl (fun ls hl => ?_)
  replace hl : lv_has ls 15 [(5, .int v27), (4, .int v4), (0, .ref (sad X)), (1, .ref h0), (2, .ref mm), (3, .ref ha)] := hl
  refine lv_iconst (v := 0) hx hb dL_law_68 rfl ?_
  refine lv_istore hx hb dL_law_69 hl (by decide) rfl (fun ls hl => ?_)
  replace hl : lv_has ls 15 [(6, .int 0), (5, .int v27), (4, .int v4), (0, .ref (sad X)), (1, .ref h0), (2, .ref mm), (3, .ref ha)] := hl
  exact hk H24 locs24 (0) (0) v27 ((v21.toInt + v24.toInt)) ls hC24 hS24 hKp24 (show (0 : Int32).toInt = 0 from by decide) ev27i (by omega) (by omega) (by omega) (by omega) (lv_sub hl [0, 1, 2, 3, 4, 5, 6] rfl)
