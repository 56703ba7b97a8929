def RS9 (X : xW) (Γ : Nat → Option Nat) (H : Heap) (h0 ha yd sn wl su lw ic kn hd us br ar fi wk pa hh wt : Nat) (w9 h9 s9 : Int) : Prop := sR H h0 (X.1.2 10 5) = some yd ∧ YN X Γ H yd sn wl su lw ic kn hd us br ar fi ∧ sR H h0 (X.1.2 10 12) = some wk ∧ WN X Γ H wk pa hh wt ∧ aI H ha 0 = w9 ∧ aI H ha 1 = h9 ∧ aI H ha 2 = s9 ∧ (sI H yd (X.1.2 8 0)).toInt = w9 ∧ (sI H yd (X.1.2 8 1)).toInt = h9 ∧ (sI H yd (X.1.2 8 2)).toInt = s9
def RM9 (X : xW) (H : Heap) (yd : Nat) (m r f d : Int) : Prop := (sI H yd (X.1.2 8 4)).toInt = m ∧ (sI H yd (X.1.2 8 5)).toInt = r ∧ (sI H yd (X.1.2 8 6)).toInt = f ∧ (sI H yd (X.1.2 8 3)).toInt = d
def RW9 (X : xW) (H : Heap) (wk hh wt : Nat) : Prop := (sI H wk (X.1.2 7 4)).toInt = 0 ∨ WKS X H wk hh wt
section RDS
variable {X : xW} {Γ : Nat → Option Nat} {H H1 : Heap} {gs : List Nat} {h0 mm ha yd sn wl su lw ic kn hd us br ar fi wk pa hh wt : Nat} {w9 h9 s9 : Int} {a b c d : Int}
theorem RS9.kp (h : RS9 X Γ H h0 ha yd sn wl su lw ic kn hd us br ar fi wk pa hh wt w9 h9 s9) (hk : Kp X Γ gs H H1) (g0 : Γ h0 = some 0) (gha : Γ ha = some 91) (gyd : Γ yd = some 5) (gwk : Γ wk = some 7) (h37 : gs.contains 37 = true) (h39 : gs.contains 39 = true) (h50 : gs.contains 50 = true) (h71 : gs.contains 71 = true) : RS9 X Γ H1 h0 ha yd sn wl su lw ic kn hd us br ar fi wk pa hh wt w9 h9 s9 := by
  obtain ⟨a1, a2, a3, a4, a5, a6, a7, a8, a9, a10⟩ := h
  exact ⟨(kp_R hk g0 (ci := 10) (k := 5) rfl (by decide) (gs_any h39 rfl)).trans a1, a2.kp gyd hk h37, (kp_R hk g0 (ci := 10) (k := 12) rfl (by decide) (gs_any h37 rfl)).trans a3, a4.kp gwk hk h37, (aI_kp hk gha rfl (gs_any h71 rfl)).trans a5, (aI_kp hk gha rfl (gs_any h71 rfl)).trans a6, (aI_kp hk gha rfl (gs_any h71 rfl)).trans a7, (congrArg Int32.toInt (kp_I hk gyd (ci := 8) (k := 0) rfl (by decide) (gs_any h50 rfl))).trans a8, (congrArg Int32.toInt (kp_I hk gyd (ci := 8) (k := 1) rfl (by decide) (gs_any h50 rfl))).trans a9, (congrArg Int32.toInt (kp_I hk gyd (ci := 8) (k := 2) rfl (by decide) (gs_any h50 rfl))).trans a10⟩
theorem RM9.kp (h : RM9 X H yd a b c d) (hk : Kp X Γ gs H H1) (gyd : Γ yd = some 5) (h51 : gs.contains 51 = true) (h52 : gs.contains 52 = true) (h53 : gs.contains 53 = true) (h54 : gs.contains 54 = true) : RM9 X H1 yd a b c d :=
  ⟨(congrArg Int32.toInt (kp_I hk gyd (ci := 8) (k := 4) rfl (by decide) (gs_any h52 rfl))).trans h.1, (congrArg Int32.toInt (kp_I hk gyd (ci := 8) (k := 5) rfl (by decide) (gs_any h53 rfl))).trans h.2.1, (congrArg Int32.toInt (kp_I hk gyd (ci := 8) (k := 6) rfl (by decide) (gs_any h54 rfl))).trans h.2.2.1, (congrArg Int32.toInt (kp_I hk gyd (ci := 8) (k := 3) rfl (by decide) (gs_any h51 rfl))).trans h.2.2.2⟩
theorem RW9.kp (h : RW9 X H wk hh wt) (hk : Kp X Γ gs H H1) (gwk : Γ wk = some 7) (ghh : Γ hh = some 51) (gwt : Γ wt = some 52) (h67 : gs.contains 67 = true) (h69 : gs.contains 69 = true) : RW9 X H1 wk hh wt := by
  rcases h with h | h
  · exact Or.inl ((congrArg Int32.toInt (kp_I hk gwk (ci := 7) (k := 4) rfl (by decide) (gs_any h69 rfl))).trans h)
  · exact Or.inr (h.kp gwk ghh gwt hk h67 h69)
end RDS
set_option maxRecDepth 100000 in
set_option maxHeartbeats 8000000 in
theorem rounds (l : Launch) {p : Program} {e : Env} {s : State} {m : MethodId} {args : Array Value} {below : List Frame} {meth : Method} {c : Code} {X : xW} {Γ : Nat → Option Nat} {Q : State → Prop} (E : Ev p s m args meth c cL_law 15 "SnowFortsLaw" ret X Γ s.heap) (h0 : Nat) (g0 : Γ h0 = some 0) (mm ha : Nat) (gmm : Γ mm = some 90) (gha : Γ ha = some 91) (hsl9 : sln X ≤ 260) (yd : Nat) (gyd : Γ yd = some 5) (sn wl su lw ic kn hd us br ar fi wk : Nat) (gwk : Γ wk = some 7) (pa hh wt : Nat) (w9 h9 s9 : Int) (qw : w9 = 2 ∨ w9 = 4) (qh : 1 ≤ h9 ∧ h9 ≤ 3) (qs : s9 = 1 ∨ s9 = 2) (v5 v4 : Int32) (z5 : Int) (e5 : v5.toInt = z5) (hz5 : 0 ≤ z5 ∧ z5 ≤ 7128) (hend : ∀ (H : Heap) (locs : List Loc) (ls : Array Slot), Conf X Γ H → va_S (AΓ Γ) s.heap H locs → W p l e room_1 s m args below meth c H locs 133 8682 Q (F0 m 884 ls [])) : ∀ (n : Nat) (H : Heap) (locs : List Loc) (v6 : Int32) (z6 m9 r9 f9 d9 : Int) (ls : Array Slot), (5 - z6).toNat < n → v6.toInt = z6 → 0 ≤ z6 → z6 ≤ 5 → Conf X Γ H → va_S (AΓ Γ) s.heap H locs → RS9 X Γ H h0 ha yd sn wl su lw ic kn hd us br ar fi wk pa hh wt w9 h9 s9 → RM9 X H yd m9 r9 f9 d9 → RW9 X H wk hh wt → UHD H us hd → (s9 = 1 → aI H br 1 = 0) → SM H sn 36 + SM H wl 36 + m9 + r9 = z5 + f9 → (0 ≤ m9 ∧ m9 ≤ 10000 * z6 ∧ 0 ≤ r9 ∧ r9 ≤ 10000 * z6 ∧ 0 ≤ f9 ∧ f9 ≤ 10000 * z6 ∧ d9 ≤ z6) → lv_has ls 15 [(6, .int v6), (5, .int v5), (4, .int v4), (0, .ref (sad X)), (1, .ref h0), (2, .ref mm), (3, .ref ha)] → W p l e room_1 s m args below meth c H locs 133 8682 Q (F0 m 71 ls []) := by
  intro n
  induction n with
  | zero => intro H locs v6 z6 m9 r9 f9 d9 ls hn; exact absurd hn (Nat.not_lt_zero _)
  | succ n ih =>
    intro H locs v6 z6 m9 r9 f9 d9 ls hn e6 h60 h65 hC hS rs rm rw9 uhd hbr hcn hbd hl
    have hx := E.1; have hb := E.2.1
    refine lv_iload hx hb dL_law_71 (lv_at hl 0 rfl) ?_
    refine lv_iconst (v := 5) hx hb dL_law_73 rfl ?_
    refine q_icmp_ge hx hb (a := z6) (b := 5) e6 (by decide) (tgt := 884) dL_law_74 rfl (fun c1 => hend H locs ls hC hS) (fun c1 => ?_)
    refine sg_rnd l E H hC locs hS h0 mm ha hsl9 v6 e6 v5 rfl v4 rfl (by omega) hl (fun Ha locsa v7 z7 ls hCa hSa hka e7 hl => ?_)
    have rs := rs.kp hka g0 gha gyd gwk rfl rfl rfl rfl
    have rm := rm.kp hka gyd rfl rfl rfl rfl
    have rw9 := rw9.kp hka gwk rs.2.2.2.1.hh.2 rs.2.2.2.1.wt.2 rfl rfl
    have uhd := uhd.kp hka rs.2.1.us.2 rs.2.1.hd.2 rfl rfl
    have hb1 := aI_kp (z := 1) hka rs.2.1.br.2 rfl rfl; have hbr : s9 = 1 → aI Ha br 1 = 0 := fun q => hb1.trans (hbr q)
    have hs1 : SM Ha sn 36 = SM H sn 36 := SM_kp hka rs.2.1.sn.2 rfl rfl; have hs2 : SM Ha wl 36 = SM H wl 36 := SM_kp hka rs.2.1.wl.2 rfl rfl
    obtain ⟨K9, hK9⟩ : ∃ z, SM Ha sn 36 + SM Ha wl 36 = z := ⟨_, rfl⟩
    refine sg_bld l E Ha hCa locsa hSa h0 g0 mm ha gmm gha yd rs.1 gyd sn wl su lw ic kn hd us br ar fi rs.2.1 wk rs.2.2.1 gwk pa hh wt rs.2.2.2.1 w9 h9 s9 qw qh qs rs.2.2.2.2.1 rs.2.2.2.2.2.1 rs.2.2.2.2.2.2.1 rs.2.2.2.2.2.2.2.1 rs.2.2.2.2.2.2.2.2.1 rs.2.2.2.2.2.2.2.2.2 K9  v7 e7 v6 e6 v5 e5 v4 rfl uhd hK9 hbr hl (fun Hb locsb ls hCb hSb hkb uhd hKb hbr hl => ?_)
    have rs := rs.kp hkb g0 gha gyd gwk rfl rfl rfl rfl
    have rm := rm.kp hkb gyd rfl rfl rfl rfl
    have rw9 := rw9.kp hkb gwk rs.2.2.2.1.hh.2 rs.2.2.2.1.wt.2 rfl rfl
    refine sg_las l E Hb hCb locsb hSb h0 g0 mm ha gmm gha yd rs.1 gyd sn wl su lw ic kn hd us br ar fi rs.2.1 wk rs.2.2.1 gwk pa hh wt rs.2.2.2.1 w9 h9 s9 qw qh qs rs.2.2.2.2.1 rs.2.2.2.2.2.1 rs.2.2.2.2.2.2.1 rs.2.2.2.2.2.2.2.1 rs.2.2.2.2.2.2.2.2.1 rs.2.2.2.2.2.2.2.2.2 K9  v7 e7 v6 e6 v5 e5 v4 rfl uhd hKb hbr hl (fun Hc locsc ls hCc hSc hkc uhd hKc hbr hl => ?_)
    have rs := rs.kp hkc g0 gha gyd gwk rfl rfl rfl rfl
    have rm := rm.kp hkc gyd rfl rfl rfl rfl
    have rw9 := rw9.kp hkc gwk rs.2.2.2.1.hh.2 rs.2.2.2.1.wt.2 rfl rfl
    refine sg_clb l E Hc hCc locsc hSc h0 g0 mm ha gmm gha yd rs.1 gyd sn wl su lw ic kn hd us br ar fi rs.2.1 wk rs.2.2.1 gwk pa hh wt rs.2.2.2.1 w9 h9 s9 qw qh qs rs.2.2.2.2.1 rs.2.2.2.2.2.1 rs.2.2.2.2.2.2.1 rs.2.2.2.2.2.2.2.1 rs.2.2.2.2.2.2.2.2.1 rs.2.2.2.2.2.2.2.2.2  v7 e7 v6 e6 v5 e5 v4 rfl  hl (fun Hd locsd v8 z8 ls hCd hSd hkd e8 clb hz8 hl => ?_)
    have rs := rs.kp hkd g0 gha gyd gwk rfl rfl rfl rfl
    have rm := rm.kp hkd gyd rfl rfl rfl rfl
    have rw9 := rw9.kp hkd gwk rs.2.2.2.1.hh.2 rs.2.2.2.1.wt.2 rfl rfl
    have uhd := uhd.kp hkd rs.2.1.us.2 rs.2.1.hd.2 rfl rfl
    have hb1 := aI_kp (z := 1) hkd rs.2.1.br.2 rfl rfl; have hbr : s9 = 1 → aI Hd br 1 = 0 := fun q => hb1.trans (hbr q)
    have hsd1 : SM Hd sn 36 = SM Hc sn 36 := SM_kp hkd rs.2.1.sn.2 rfl rfl; have hsd2 : SM Hd wl 36 = SM Hc wl 36 := SM_kp hkd rs.2.1.wl.2 rfl rfl
    refine sg_way l E Hd hCd locsd hSd h0 g0 mm ha gmm gha yd rs.1 gyd sn wl su lw ic kn hd us br ar fi rs.2.1 wk rs.2.2.1 gwk pa hh wt rs.2.2.2.1 w9 h9 s9 qw qh qs rs.2.2.2.2.1 rs.2.2.2.2.2.1 rs.2.2.2.2.2.2.1 rs.2.2.2.2.2.2.2.1 rs.2.2.2.2.2.2.2.2.1 rs.2.2.2.2.2.2.2.2.2 v8 e8 v7 e7 v6 e6 v5 e5 v4 rfl clb rw9 hz8 hl (fun He locse v9 z9 ls hCe hSe hke e9 hpt hwq hl => ?_)
    have rs := rs.kp hke g0 gha gyd gwk rfl rfl rfl rfl
    have rm := rm.kp hke gyd rfl rfl rfl rfl
    have uhd := uhd.kp hke rs.2.1.us.2 rs.2.1.hd.2 rfl rfl
    have hb1 := aI_kp (z := 1) hke rs.2.1.br.2 rfl rfl; have hbr : s9 = 1 → aI He br 1 = 0 := fun q => hb1.trans (hbr q)
    have hse1 : SM He sn 36 = SM Hd sn 36 := SM_kp hke rs.2.1.sn.2 rfl rfl; have hse2 : SM He wl 36 = SM Hd wl 36 := SM_kp hke rs.2.1.wl.2 rfl rfl
    have rw9 : RW9 X He wk hh wt := Or.inr hwq
    refine sg_cel l E He hCe locse hSe h0 g0 mm ha gmm gha yd rs.1 gyd sn wl su lw ic kn hd us br ar fi rs.2.1 wk rs.2.2.1 gwk pa hh wt rs.2.2.2.1 w9 h9 s9 qw qh qs rs.2.2.2.2.1 rs.2.2.2.2.2.1 rs.2.2.2.2.2.2.1 rs.2.2.2.2.2.2.2.1 rs.2.2.2.2.2.2.2.2.1 rs.2.2.2.2.2.2.2.2.2 v9 e9 v7 e7 v6 e6 v5 e5 v4 rfl hpt hl (fun Hf locsf ls hCf hSf hkf hl => ?_)
    have rs := rs.kp hkf g0 gha gyd gwk rfl rfl rfl rfl
    have rm := rm.kp hkf gyd rfl rfl rfl rfl
    have rw9 := rw9.kp hkf gwk rs.2.2.2.1.hh.2 rs.2.2.2.1.wt.2 rfl rfl
    have uhd := uhd.kp hkf rs.2.1.us.2 rs.2.1.hd.2 rfl rfl
    have hb1 := aI_kp (z := 1) hkf rs.2.1.br.2 rfl rfl; have hbr : s9 = 1 → aI Hf br 1 = 0 := fun q => hb1.trans (hbr q)
    have hsf1 : SM Hf sn 36 = SM He sn 36 := SM_kp hkf rs.2.1.sn.2 rfl rfl; have hsf2 : SM Hf wl 36 = SM He wl 36 := SM_kp hkf rs.2.1.wl.2 rfl rfl
    obtain ⟨hbm0, hbm1, hbr0, hbr1, hbf0, hbf1, hbd1⟩ := hbd
    obtain ⟨rm1, rm2, rm3, rm4⟩ := rm
    refine sg_day1 l E Hf hCf locsf hSf h0 g0 mm ha gmm gha yd rs.1 gyd sn wl su lw ic kn hd us br ar fi rs.2.1 wk rs.2.2.1 gwk pa hh wt rs.2.2.2.1 w9 h9 s9 qw qh qs rs.2.2.2.2.1 rs.2.2.2.2.2.1 rs.2.2.2.2.2.2.1 rs.2.2.2.2.2.2.2.1 rs.2.2.2.2.2.2.2.2.1 rs.2.2.2.2.2.2.2.2.2  v7 e7 v6 e6 v5 e5 v4 rfl uhd hbr ⟨h60, by omega⟩ hz5 (by rw [rm1, rm2, rm3]; omega) ⟨by omega, by omega⟩ ⟨by omega, by omega⟩ ⟨by omega, by omega⟩ (by omega) hl (fun Hg locsg ls hCg hSg hkg uhd hbr hr5 hr6 hr4 hr3 hcg hl => ?_)
    have rs := rs.kp hkg g0 gha gyd gwk rfl rfl rfl rfl
    have rw9 := rw9.kp hkg gwk rs.2.2.2.1.hh.2 rs.2.2.2.1.wt.2 rfl rfl
    have rm : RM9 X Hg yd (sI Hg yd (X.1.2 8 4)).toInt (sI Hg yd (X.1.2 8 5)).toInt (sI Hg yd (X.1.2 8 6)).toInt (sI Hg yd (X.1.2 8 3)).toInt := ⟨rfl, rfl, rfl, rfl⟩
    refine sg_day2 l E Hg hCg locsg hSg h0 g0 mm ha gmm gha yd rs.1 gyd sn wl su lw ic kn hd us br ar fi rs.2.1 wk rs.2.2.1 gwk pa hh wt rs.2.2.2.1 w9 h9 s9 qw qh qs rs.2.2.2.2.1 rs.2.2.2.2.2.1 rs.2.2.2.2.2.2.1 rs.2.2.2.2.2.2.2.1 rs.2.2.2.2.2.2.2.2.1 rs.2.2.2.2.2.2.2.2.2  v7 e7 v6 e6 v5 e5 v4 rfl hz5 hcg ⟨by omega, by omega⟩ ⟨by omega, by omega⟩ ⟨by omega, by omega⟩ hl (fun Hh locsh ls hCh hSh hkh hl => ?_)
    have rs := rs.kp hkh g0 gha gyd gwk rfl rfl rfl rfl
    have rm := rm.kp hkh gyd rfl rfl rfl rfl
    have rw9 := rw9.kp hkh gwk rs.2.2.2.1.hh.2 rs.2.2.2.1.wt.2 rfl rfl
    have uhd := uhd.kp hkh rs.2.1.us.2 rs.2.1.hd.2 rfl rfl
    have hb1 := aI_kp (z := 1) hkh rs.2.1.br.2 rfl rfl; have hbr : s9 = 1 → aI Hh br 1 = 0 := fun q => hb1.trans (hbr q)
    have hs1 : SM Hh sn 36 = SM Hg sn 36 := SM_kp hkh rs.2.1.sn.2 rfl rfl; have hs2 : SM Hh wl 36 = SM Hg wl 36 := SM_kp hkh rs.2.1.wl.2 rfl rfl
    have hs3 := hs1; have hs4 := hs2
    refine sg_day3 l E Hh hCh locsh hSh h0 g0 mm ha gmm gha yd rs.1 gyd sn wl su lw ic kn hd us br ar fi rs.2.1 wk rs.2.2.1 gwk pa hh wt rs.2.2.2.1 w9 h9 s9 qw qh qs rs.2.2.2.2.1 rs.2.2.2.2.2.1 rs.2.2.2.2.2.2.1 rs.2.2.2.2.2.2.2.1 rs.2.2.2.2.2.2.2.2.1 rs.2.2.2.2.2.2.2.2.2  v7 e7 v6 e6 v5 e5 v4 rfl hbr hl (fun Hi locsi ls hCi hSi hki hl => ?_)
    have rs := rs.kp hki g0 gha gyd gwk rfl rfl rfl rfl
    have rm := rm.kp hki gyd rfl rfl rfl rfl
    have rw9 := rw9.kp hki gwk rs.2.2.2.1.hh.2 rs.2.2.2.1.wt.2 rfl rfl
    have uhd := uhd.kp hki rs.2.1.us.2 rs.2.1.hd.2 rfl rfl
    have hb1 := aI_kp (z := 1) hki rs.2.1.br.2 rfl rfl; have hbr : s9 = 1 → aI Hi br 1 = 0 := fun q => hb1.trans (hbr q)
    have hs1 : SM Hi sn 36 = SM Hh sn 36 := SM_kp hki rs.2.1.sn.2 rfl rfl; have hs2 : SM Hi wl 36 = SM Hh wl 36 := SM_kp hki rs.2.1.wl.2 rfl rfl
    obtain ⟨v61, e61⟩ : ∃ z, z = v6 + Int32.ofInt 1 := ⟨_, rfl⟩
    have e61i : v61.toInt = (z6 + 1) := i_add e61 e6 (by decide) (by omega) (by omega)
    refine lv_iinc hx hb dL_law_878 hl (k := 1) rfl e61.symm (by decide) rfl (fun ls hl => ?_)
    have hl : lv_has ls 15 [(6, .int v61), (7, .int v7), (5, .int v5), (4, .int v4), (0, .ref (sad X)), (1, .ref h0), (2, .ref mm), (3, .ref ha)] := hl
    refine lv_goto (tgt := 71) hx hb dL_law_881 rfl ?_
    exact ih Hi locsi v61 (z6 + 1) _ _ _ _ ls (by omega) e61i (by omega) (by omega) hCi hSi rs rm rw9 uhd hbr (by omega) ⟨hr4.1, hr4.2, hr5.1, hr5.2, hr6.1, hr6.2, hr3⟩ (lv_sub hl [0, 2, 3, 4, 5, 6, 7] rfl)
