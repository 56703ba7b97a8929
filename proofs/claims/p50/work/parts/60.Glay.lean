set_option maxRecDepth 100000 in
set_option maxHeartbeats 8000000 in
theorem sg_lay (l : Launch) {p : Program} {e : Env} {s : State} {m : MethodId} {args : Array Value} {below : List Frame} {meth : Method} {c : Code} {X : xW} {Γ : Nat → Option Nat} {Qz : State → Prop} (E : Ev p s m args meth c cL_law 15 "SnowFortsLaw" ret X Γ s.heap) (H0 : Heap) (hC0 : Conf X Γ H0) (locs0 : List Loc) (hS0 : va_S (AΓ Γ) s.heap H0 locs0) (h0 : Nat) (g0 : Γ h0 = some 0) (mm ha : Nat) (gmm : Γ mm = some 90) (gha : Γ ha = some 91) (hsl9 : sln X ≤ 260) (ra : Nat) (gra : Γ ra = some 2) (ur : ∀ a, Γ a = some 2 → a = ra) (tp : Nat) (htp : sR H0 ra (X.1.2 4 0) = some tp) (gtp : Γ tp = some 25) (lt9 : LT X H0 ra tp mm []) {ls : Array Slot} (hl : lv_has ls 15 [(3, .ref ha), (2, .ref mm), (1, .ref h0), (0, .ref (sad X))]) (hk : ∀ (H1 : Heap) (locs1 : List Loc) (y4 : Int32) (u4 : Int) (ls : Array Slot), Conf X Γ H1 → va_S (AΓ Γ) s.heap H1 locs1 → Kp X Γ [37, 67, 68, 69] H0 H1 → y4.toInt = u4 → (aI H1 ha 0 = 2 ∨ aI H1 ha 0 = 4) → (1 ≤ aI H1 ha 1) → (aI H1 ha 1 ≤ 3) → (aI H1 ha 2 = 1 ∨ aI H1 ha 2 = 2) → (YD0 X Γ H1 h0 (aI H1 ha 0) (aI H1 ha 1) (aI H1 ha 2)) → lv_has ls 15 [(4, .int y4), (0, .ref (sad X)), (1, .ref h0), (2, .ref mm), (3, .ref ha)] → W p l e room_1 s m args below meth c H1 locs1 133 8682 Qz (F0 m 54 ls [])) : W p l e room_1 s m args below meth c H0 locs0 133 8682 Qz (F0 m 18 ls []) := by
  have hx := E.1; have hb := E.2.1
  have hKp0 : Kp X Γ [37, 67, 68, 69] H0 H0 := Kp.rf
  have lt9 : LT X H0 ra tp mm [] := lt9
  refine lv_aload_n hx hb dL_law_18 rfl (lv_at hl 3 rfl) ?_
  refine q_lenX E hS0 dL_law_19 ?_
  have J33 : ∀ (v21 : Int32) (z21 : Int), v21.toInt = z21 → W p l e room_1 s m args below meth c H0 locs0 133 8682 Qz (F0 m 33 ls [.int v21]) := by
    intro v21 z21 ev21
    refine lv_istore hx hb dL_law_33 hl (by decide) rfl (fun ls hl => ?_)
    replace hl : lv_has ls 15 [(4, .int v21), (3, .ref ha), (2, .ref mm), (1, .ref h0), (0, .ref (sad X))] := hl
    refine lv_aload_n hx hb dL_law_35 rfl (lv_at hl 4 rfl) ?_
    refine lv_iconst (v := 3) hx hb dL_law_36 rfl ?_
    refine lv_bipush (v := 25) hx hb dL_law_37 rfl ?_
    refine lv_aload_n hx hb dL_law_39 rfl (lv_at hl 1 rfl) ?_
    refine r_goV (r_runS (As := [.ref (sad X), .int 3, .int 25, .ref ha]) (rest := []) E hS0 (m_L_draw l X Γ H0 hC0 3 (a1 := 3) (by decide) 25 (a2 := 25) (by decide) ha gha hsl9 (by omega) (by omega)) cw_L_draw cl_RL_92 rfl hl.1 rfl (Nat.zero_le _) (by decide) dL_law_40) hS0 (fun H22 locs22 hr22 hC22 hS22 => ?_)
    obtain ⟨hp22, hr22⟩ := hr22
    have hKp22 := hKp0.tr (hp22.mono rfl)
    replace lt9 : LT X H22 ra tp mm [] := lt9.kp hp22 gra gtp gmm rfl rfl rfl
    obtain ⟨f22_0, f22_1, f22_2, f22_3⟩ := hr22
    have dr0 := f22_0; have dr1 := f22_1; have dr2 := f22_2; have dr3 := f22_3
    refine lv_aload_n hx hb dL_law_43 rfl (lv_at hl 3 rfl) ?_
    refine lv_aload_n hx hb dL_law_44 rfl (lv_at hl 2 rfl) ?_
    refine lv_aload_n hx hb dL_law_45 rfl (lv_at hl 1 rfl) ?_
    refine r_goI (r_runS (As := [.ref h0, .ref mm, .ref ha]) (rest := []) E hS22 (m_L_lay l X Γ H22 hC22 h0 g0 mm gmm ha gha ra gra ur tp ((kp_R hKp22 gra (ci := 4) (k := 0) rfl (by decide) rfl).trans htp) gtp lt9 (by omega) (by omega) (by omega) (by omega)) cw_L_lay cl_RL_96 rfl hl.1 rfl (Nat.zero_le _) (by decide) dL_law_46) hS22 (fun v26 H26 locs26 hr26 hC26 hS26 => ?_)
    obtain ⟨hp26, hr26⟩ := hr26
    have hKp26 := hKp22.tr (hp26.mono rfl)
    have m27 : aI H26 ha (0) = aI H22 ha (0) := aI_kp hp26 gha rfl rfl
    have m28 : aI H26 ha (1) = aI H22 ha (1) := aI_kp hp26 gha rfl rfl
    have m29 : aI H26 ha (2) = aI H22 ha (2) := aI_kp hp26 gha rfl rfl
    rcases hr26 with ⟨rfl, hyd⟩ | ⟨rfl, hfl⟩
    · have el0 := aI_kp (z := 0) hp26 gha rfl rfl
      have el1 := aI_kp (z := 1) hp26 gha rfl rfl
      have el2 := aI_kp (z := 2) hp26 gha rfl rfl
      refine q_if_ne hx hb (a := 1) (by decide) (tgt := 54) dL_law_49 rfl (fun c30 => ?_) (fun c30 => absurd c30 (by omega))
      exact hk H26 locs26 v21 (z21) ls hC26 hS26 hKp26 ev21 (by omega) (by omega) (by omega) (by omega) (by rw [show aI H26 ha 0 = _ from el0, show aI H26 ha 1 = _ from el1, show aI H26 ha 2 = _ from el2]; exact hyd) (lv_sub hl [0, 4, 3, 2, 1] rfl)
    · refine q_if_ne hx hb (a := 0) (by decide) (tgt := 54) dL_law_49 rfl (fun c31 => absurd c31 (by omega)) (fun c31 => ?_)
      exact hfl.elim
  refine q_if_ne hx hb (a := ((sln X : Nat) : Int)) (slnI hsl9) (tgt := 27) dL_law_20 rfl (fun c32 => ?_) (fun c32 => ?_)
  · refine lv_aload_n hx hb dL_law_27 rfl (lv_at hl 3 rfl) ?_
    refine lv_aload_n hx hb dL_law_28 rfl (lv_at hl 3 rfl) ?_
    refine q_lenX E hS0 dL_law_29 ?_
    refine lv_iconst (v := 1) hx hb dL_law_30 rfl ?_
    refine lv_isub hx hb dL_law_31 (lv_topi (fun v33 ev33 => ?_))
    have ev33i : v33.toInt = (((sln X : Nat) : Int) - 1) := i_sub ev33 (slnI hsl9) (by decide) (by omega) (by omega)
    refine q_ldX E hS0 (a := (((sln X : Nat) : Int) - 1)) ev33i (by omega) (by omega) dL_law_32 (fun v34 => ?_)
    exact J33 v34 (v34.toInt) rfl
  · refine lv_iconst (v := 5) hx hb dL_law_23 rfl ?_
    refine lv_goto (tgt := 33) hx hb dL_law_24 rfl ?_
    exact J33 5 (5) (show (5 : Int32).toInt = 5 from by decide)
