set_option maxRecDepth 100000 in
set_option maxHeartbeats 4000000 in
theorem law_0 (l : Launch) {p : Program} {e : Env} {s : State} {m : MethodId} {below : List Frame} {meth : Method} {c : Code} {X : xW} {Γ : Nat → Option Nat} {b L : Nat} {xs : Nat → Int32} {x1 m1 ca ka oa ra ta tm ts na : Nat} {td nd : Nat → Nat} (K : LK p s m meth c X Γ b L xs x1 m1 ca ka oa ra tm ts na) {H : Heap} {locs : List Loc} {ls : Array Slot} {Q : State → Prop} {i : Int32} {z : Int} (ez : i.toInt = z) (h0z : 0 ≤ z) (hzL : z + 6 ≤ L) (hC : Conf X Γ H) (hS : va_S (AΓ Γ) s.heap H locs) (hMI : MI X H m1 ca) (hMR : mkI X H x1 = mmI X H m1) (hFR : flI X H ra = tpdI X H m1) (hSH : SHP X Γ H x1 ta td nd) (hTR : TRl X td tm ts H) (hNR : NRl X td nd na H) (hl : lv_has ls 4 [(3, .int i), (2, .ref m1), (1, .ref x1), (0, .ref b)]) (hk : ∀ (H1 : Heap) (locs1 : List Loc), Conf X Γ H1 → va_S (AΓ Γ) s.heap H1 locs1 → MI X H1 m1 ca → mkI X H1 x1 = mmI X H1 m1 → flI X H1 ra = tpdI X H1 m1 → SHP X Γ H1 x1 ta td nd → TRl X td tm ts H1 → NRl X td nd na H1 → W p l e room_1 s m #[Value.ref b] below meth c H1 locs1 147 13128 Q (F0 m 1667 ls [])) : W p l e room_1 s m #[Value.ref b] below meth c H locs 147 13128 Q (F0 m 236 ls []) := by
  have E := K.E; have hx := E.1; have hb := E.2.1; have hLl := K.hL
  refine lv_aload_n hx hb dL_law_236 rfl (lv_at hl 2 rfl) ?_
  refine r_goI (r_runV (As := []) (rest := []) E hC hS (m_X11_status l X Γ H hC x1 K.g1) lcw_X11_status lcl_13 K.g1 ⟨rfl, rfl⟩ rfl hl.1 rfl (Nat.zero_le _) (by decide) (by decide) (by decide) (by decide) dL_law_237) hS (fun v21 H21 locs21 hp hC21 hS21 => ?_)
  obtain ⟨hp1, hp2a⟩ := hp
  have hMI : MI X H21 m1 ca := by rw [hp1]; exact hMI
  have hMR : mkI X H21 x1 = mmI X H21 m1 := by rw [hp1]; exact hMR
  have hFR : flI X H21 ra = tpdI X H21 m1 := by rw [hp1]; exact hFR
  have hSH : SHP X Γ H21 x1 ta td nd := by rw [hp1]; exact hSH
  have hTR : TRl X td tm ts H21 := by rw [hp1]; exact hTR
  have hNR : NRl X td nd na H21 := by rw [hp1]; exact hNR
  have hC := hC21; have hS := hS21
  refine lv_pop hx hb dL_law_240 rfl ?_
  refine lv_aload_n hx hb dL_law_241 rfl (lv_at hl 1 rfl) ?_
  refine r_goI (r_runV (As := []) (rest := []) E hC hS (m_X12_status l X Γ H21 hC m1 K.g2 ca K.gca K.uc) lcw_X12_status lcl_17 K.g2 ⟨rfl, rfl⟩ rfl hl.1 rfl (Nat.zero_le _) (by decide) (by decide) (by decide) (by decide) dL_law_242) hS (fun v22 H22 locs22 hp hC22 hS22 => ?_)
  obtain ⟨hp1, hp2b⟩ := hp
  have hMI : MI X H22 m1 ca := hMI.kp hC K.gca K.g2 hp1 rfl rfl rfl
  have hMR : mkI X H22 x1 = mmI X H22 m1 := (mk_kp hp1 K.g1 rfl).trans (hMR.trans (mm_kp hp1 K.g2 rfl).symm)
  have hFR : flI X H22 ra = tpdI X H22 m1 := (fl_kp hp1 K.gra rfl).trans (hFR.trans (tpd_kp hp1 K.g2 rfl).symm)
  have hSd := hSH; have hSH : SHP X Γ H22 x1 ta td nd := hSH.kpM K.g1 hp1 rfl
  have hTc2 : TSm X td H21 H22 := TSm.kp1 hp1 hSH rfl; have hNc2 : NSm (nC nd H21) (nC nd H22) := nC_kp1 hp1 hSH rfl
  have hTrm := hTR; have hTm2 : TMm tm ts H21 H22 := TMm.kp TMm.rf hp1 K.gtm K.gts rfl; have hTR := hTR.same hTc2 hTm2
  have hpb := hp2b
  have hNm2 : NSm (nM na H21) (nM na H22) := nM_kp NSm.rf hp1 K.gna rfl; have hNrm := hNR; have hNR := hNR.same hTc2 hNc2 hNm2
  have hC := hC22; have hS := hS22
  refine lv_pop hx hb dL_law_245 rfl ?_
  refine lv_goto (tgt := 1667) hx hb dL_law_246 rfl ?_
  exact hk _ _ hC hS hMI hMR hFR hSH hTR hNR
set_option maxRecDepth 100000 in
set_option maxHeartbeats 4000000 in
theorem law_1 (l : Launch) {p : Program} {e : Env} {s : State} {m : MethodId} {below : List Frame} {meth : Method} {c : Code} {X : xW} {Γ : Nat → Option Nat} {b L : Nat} {xs : Nat → Int32} {x1 m1 ca ka oa ra ta tm ts na : Nat} {td nd : Nat → Nat} (K : LK p s m meth c X Γ b L xs x1 m1 ca ka oa ra tm ts na) {H : Heap} {locs : List Loc} {ls : Array Slot} {Q : State → Prop} {i : Int32} {z : Int} (ez : i.toInt = z) (h0z : 0 ≤ z) (hzL : z + 6 ≤ L) (hC : Conf X Γ H) (hS : va_S (AΓ Γ) s.heap H locs) (hMI : MI X H m1 ca) (hMR : mkI X H x1 = mmI X H m1) (hFR : flI X H ra = tpdI X H m1) (hSH : SHP X Γ H x1 ta td nd) (hTR : TRl X td tm ts H) (hNR : NRl X td nd na H) (hl : lv_has ls 4 [(3, .int i), (2, .ref m1), (1, .ref x1), (0, .ref b)]) (hk : ∀ (H1 : Heap) (locs1 : List Loc), Conf X Γ H1 → va_S (AΓ Γ) s.heap H1 locs1 → MI X H1 m1 ca → mkI X H1 x1 = mmI X H1 m1 → flI X H1 ra = tpdI X H1 m1 → SHP X Γ H1 x1 ta td nd → TRl X td tm ts H1 → NRl X td nd na H1 → W p l e room_1 s m #[Value.ref b] below meth c H1 locs1 147 13128 Q (F0 m 1667 ls [])) : W p l e room_1 s m #[Value.ref b] below meth c H locs 147 13128 Q (F0 m 249 ls []) := by
  have E := K.E; have hx := E.1; have hb := E.2.1; have hLl := K.hL
  refine lv_aload_n hx hb dL_law_249 rfl (lv_at hl 2 rfl) ?_
  refine r_goJ (r_runV (As := []) (rest := []) E hC hS (m_X11_top l X Γ H hC x1 K.g1) lcw_X11_top lcl_18 K.g1 ⟨rfl, rfl⟩ rfl hl.1 rfl (Nat.zero_le _) (by decide) (by decide) (by decide) (by decide) dL_law_250) hS (fun v21 H21 locs21 hp hC21 hS21 => ?_)
  obtain ⟨hp1, hp2a⟩ := hp
  have hMI : MI X H21 m1 ca := by rw [hp1]; exact hMI
  have hMR : mkI X H21 x1 = mmI X H21 m1 := by rw [hp1]; exact hMR
  have hFR : flI X H21 ra = tpdI X H21 m1 := by rw [hp1]; exact hFR
  have hSH : SHP X Γ H21 x1 ta td nd := by rw [hp1]; exact hSH
  have hTR : TRl X td tm ts H21 := by rw [hp1]; exact hTR
  have hNR : NRl X td nd na H21 := by rw [hp1]; exact hNR
  have hC := hC21; have hS := hS21
  refine lv_pop2_2 hx hb dL_law_253 rfl ?_
  refine lv_aload_n hx hb dL_law_254 rfl (lv_at hl 1 rfl) ?_
  refine r_goJ (r_runV (As := []) (rest := []) E hC hS (m_X12_top l X Γ H21 hC m1 K.g2 ca K.gca K.uc) lcw_X12_top lcl_22 K.g2 ⟨rfl, rfl⟩ rfl hl.1 rfl (Nat.zero_le _) (by decide) (by decide) (by decide) (by decide) dL_law_255) hS (fun v22 H22 locs22 hp hC22 hS22 => ?_)
  obtain ⟨hp1, hp2b⟩ := hp
  have hMI : MI X H22 m1 ca := hMI.kp hC K.gca K.g2 hp1 rfl rfl rfl
  have hMR : mkI X H22 x1 = mmI X H22 m1 := (mk_kp hp1 K.g1 rfl).trans (hMR.trans (mm_kp hp1 K.g2 rfl).symm)
  have hFR : flI X H22 ra = tpdI X H22 m1 := (fl_kp hp1 K.gra rfl).trans (hFR.trans (tpd_kp hp1 K.g2 rfl).symm)
  have hSd := hSH; have hSH : SHP X Γ H22 x1 ta td nd := hSH.kpM K.g1 hp1 rfl
  have hTc2 : TSm X td H21 H22 := TSm.kp1 hp1 hSH rfl; have hNc2 : NSm (nC nd H21) (nC nd H22) := nC_kp1 hp1 hSH rfl
  have hTrm := hTR; have hTm2 : TMm tm ts H21 H22 := TMm.kp TMm.rf hp1 K.gtm K.gts rfl; have hTR := hTR.same hTc2 hTm2
  have hpb := hp2b
  have hNm2 : NSm (nM na H21) (nM na H22) := nM_kp NSm.rf hp1 K.gna rfl; have hNrm := hNR; have hNR := hNR.same hTc2 hNc2 hNm2
  have hC := hC22; have hS := hS22
  refine lv_pop2_2 hx hb dL_law_258 rfl ?_
  refine lv_goto (tgt := 1667) hx hb dL_law_259 rfl ?_
  exact hk _ _ hC hS hMI hMR hFR hSH hTR hNR
set_option maxRecDepth 100000 in
set_option maxHeartbeats 4000000 in
theorem law_2 (l : Launch) {p : Program} {e : Env} {s : State} {m : MethodId} {below : List Frame} {meth : Method} {c : Code} {X : xW} {Γ : Nat → Option Nat} {b L : Nat} {xs : Nat → Int32} {x1 m1 ca ka oa ra ta tm ts na : Nat} {td nd : Nat → Nat} (K : LK p s m meth c X Γ b L xs x1 m1 ca ka oa ra tm ts na) {H : Heap} {locs : List Loc} {ls : Array Slot} {Q : State → Prop} {i : Int32} {z : Int} (ez : i.toInt = z) (h0z : 0 ≤ z) (hzL : z + 6 ≤ L) (hC : Conf X Γ H) (hS : va_S (AΓ Γ) s.heap H locs) (hMI : MI X H m1 ca) (hMR : mkI X H x1 = mmI X H m1) (hFR : flI X H ra = tpdI X H m1) (hSH : SHP X Γ H x1 ta td nd) (hTR : TRl X td tm ts H) (hNR : NRl X td nd na H) (hl : lv_has ls 4 [(3, .int i), (2, .ref m1), (1, .ref x1), (0, .ref b)]) (hk : ∀ (H1 : Heap) (locs1 : List Loc), Conf X Γ H1 → va_S (AΓ Γ) s.heap H1 locs1 → MI X H1 m1 ca → mkI X H1 x1 = mmI X H1 m1 → flI X H1 ra = tpdI X H1 m1 → SHP X Γ H1 x1 ta td nd → TRl X td tm ts H1 → NRl X td nd na H1 → W p l e room_1 s m #[Value.ref b] below meth c H1 locs1 147 13128 Q (F0 m 1667 ls [])) : W p l e room_1 s m #[Value.ref b] below meth c H locs 147 13128 Q (F0 m 262 ls []) := by
  have E := K.E; have hx := E.1; have hb := E.2.1; have hLl := K.hL
  refine lv_aload_n hx hb dL_law_262 rfl (lv_at hl 2 rfl) ?_
  refine r_goJ (r_runV (As := []) (rest := []) E hC hS (m_X11_bottom l X Γ H hC x1 K.g1) lcw_X11_bottom lcl_23 K.g1 ⟨rfl, rfl⟩ rfl hl.1 rfl (Nat.zero_le _) (by decide) (by decide) (by decide) (by decide) dL_law_263) hS (fun v21 H21 locs21 hp hC21 hS21 => ?_)
  obtain ⟨hp1, hp2a⟩ := hp
  have hMI : MI X H21 m1 ca := by rw [hp1]; exact hMI
  have hMR : mkI X H21 x1 = mmI X H21 m1 := by rw [hp1]; exact hMR
  have hFR : flI X H21 ra = tpdI X H21 m1 := by rw [hp1]; exact hFR
  have hSH : SHP X Γ H21 x1 ta td nd := by rw [hp1]; exact hSH
  have hTR : TRl X td tm ts H21 := by rw [hp1]; exact hTR
  have hNR : NRl X td nd na H21 := by rw [hp1]; exact hNR
  have hC := hC21; have hS := hS21
  refine lv_pop2_2 hx hb dL_law_266 rfl ?_
  refine lv_aload_n hx hb dL_law_267 rfl (lv_at hl 1 rfl) ?_
  refine r_goJ (r_runV (As := []) (rest := []) E hC hS (m_X12_bottom l X Γ H21 hC m1 K.g2 ca K.gca K.uc) lcw_X12_bottom lcl_26 K.g2 ⟨rfl, rfl⟩ rfl hl.1 rfl (Nat.zero_le _) (by decide) (by decide) (by decide) (by decide) dL_law_268) hS (fun v22 H22 locs22 hp hC22 hS22 => ?_)
  obtain ⟨hp1, hp2b⟩ := hp
  have hMI : MI X H22 m1 ca := hMI.kp hC K.gca K.g2 hp1 rfl rfl rfl
  have hMR : mkI X H22 x1 = mmI X H22 m1 := (mk_kp hp1 K.g1 rfl).trans (hMR.trans (mm_kp hp1 K.g2 rfl).symm)
  have hFR : flI X H22 ra = tpdI X H22 m1 := (fl_kp hp1 K.gra rfl).trans (hFR.trans (tpd_kp hp1 K.g2 rfl).symm)
  have hSd := hSH; have hSH : SHP X Γ H22 x1 ta td nd := hSH.kpM K.g1 hp1 rfl
  have hTc2 : TSm X td H21 H22 := TSm.kp1 hp1 hSH rfl; have hNc2 : NSm (nC nd H21) (nC nd H22) := nC_kp1 hp1 hSH rfl
  have hTrm := hTR; have hTm2 : TMm tm ts H21 H22 := TMm.kp TMm.rf hp1 K.gtm K.gts rfl; have hTR := hTR.same hTc2 hTm2
  have hpb := hp2b
  have hNm2 : NSm (nM na H21) (nM na H22) := nM_kp NSm.rf hp1 K.gna rfl; have hNrm := hNR; have hNR := hNR.same hTc2 hNc2 hNm2
  have hC := hC22; have hS := hS22
  refine lv_pop2_2 hx hb dL_law_271 rfl ?_
  refine lv_goto (tgt := 1667) hx hb dL_law_272 rfl ?_
  exact hk _ _ hC hS hMI hMR hFR hSH hTR hNR
set_option maxRecDepth 100000 in
set_option maxHeartbeats 4000000 in
theorem law_3 (l : Launch) {p : Program} {e : Env} {s : State} {m : MethodId} {below : List Frame} {meth : Method} {c : Code} {X : xW} {Γ : Nat → Option Nat} {b L : Nat} {xs : Nat → Int32} {x1 m1 ca ka oa ra ta tm ts na : Nat} {td nd : Nat → Nat} (K : LK p s m meth c X Γ b L xs x1 m1 ca ka oa ra tm ts na) {H : Heap} {locs : List Loc} {ls : Array Slot} {Q : State → Prop} {i : Int32} {z : Int} (ez : i.toInt = z) (h0z : 0 ≤ z) (hzL : z + 6 ≤ L) (hC : Conf X Γ H) (hS : va_S (AΓ Γ) s.heap H locs) (hMI : MI X H m1 ca) (hMR : mkI X H x1 = mmI X H m1) (hFR : flI X H ra = tpdI X H m1) (hSH : SHP X Γ H x1 ta td nd) (hTR : TRl X td tm ts H) (hNR : NRl X td nd na H) (hl : lv_has ls 4 [(3, .int i), (2, .ref m1), (1, .ref x1), (0, .ref b)]) (hk : ∀ (H1 : Heap) (locs1 : List Loc), Conf X Γ H1 → va_S (AΓ Γ) s.heap H1 locs1 → MI X H1 m1 ca → mkI X H1 x1 = mmI X H1 m1 → flI X H1 ra = tpdI X H1 m1 → SHP X Γ H1 x1 ta td nd → TRl X td tm ts H1 → NRl X td nd na H1 → W p l e room_1 s m #[Value.ref b] below meth c H1 locs1 147 13128 Q (F0 m 1667 ls [])) : W p l e room_1 s m #[Value.ref b] below meth c H locs 147 13128 Q (F0 m 275 ls []) := by
  have E := K.E; have hx := E.1; have hb := E.2.1; have hLl := K.hL
  refine lv_aload_n hx hb dL_law_275 rfl (lv_at hl 2 rfl) ?_
  refine lv_aload_n hx hb dL_law_276 rfl (lv_at hl 3 rfl) ?_
  refine lv_iload_n hx hb dL_law_277 rfl (lv_at hl 0 rfl) ?_
  refine lv_iconst (v := 1) hx hb dL_law_278 rfl ?_
  refine lv_iadd hx hb dL_law_279 (lv_topi (fun v21 e21 => ?_))
  have e21i : v21.toInt = z + 1 := i_add e21 ez (by decide) (by omega) (by omega)
  refine va_sld hx hb K.hX K.hbl K.hbA hS (i_in e21i (by omega) (by omega)) dL_law_280 ?_
  refine lv_aload_n hx hb dL_law_281 rfl (lv_at hl 3 rfl) ?_
  refine lv_iload_n hx hb dL_law_282 rfl (lv_at hl 0 rfl) ?_
  refine lv_iconst (v := 2) hx hb dL_law_283 rfl ?_
  refine lv_iadd hx hb dL_law_284 (lv_topi (fun v22 e22 => ?_))
  have e22i : v22.toInt = z + 2 := i_add e22 ez (by decide) (by omega) (by omega)
  refine va_sld hx hb K.hX K.hbl K.hbA hS (i_in e22i (by omega) (by omega)) dL_law_285 ?_
  refine lv_aload_n hx hb dL_law_286 rfl (lv_at hl 3 rfl) ?_
  refine lv_iload_n hx hb dL_law_287 rfl (lv_at hl 0 rfl) ?_
  refine lv_iconst (v := 3) hx hb dL_law_288 rfl ?_
  refine lv_iadd hx hb dL_law_289 (lv_topi (fun v23 e23 => ?_))
  have e23i : v23.toInt = z + 3 := i_add e23 ez (by decide) (by omega) (by omega)
  refine va_sld hx hb K.hX K.hbl K.hbA hS (i_in e23i (by omega) (by omega)) dL_law_290 ?_
  refine r_goI (r_runV (As := [.int (xs v21.toNatClampNeg), .int (xs v22.toNatClampNeg), .int (xs v23.toNatClampNeg)]) (rest := []) E hC hS (m_X11_tray l X Γ H hC x1 K.g1 (xs v21.toNatClampNeg) (a1 := ((xs v21.toNatClampNeg) : Int32).toInt) rfl (xs v22.toNatClampNeg) (a2 := ((xs v22.toNatClampNeg) : Int32).toInt) rfl (xs v23.toNatClampNeg) (a3 := ((xs v23.toNatClampNeg) : Int32).toInt) rfl ta td nd hSH) lcw_X11_tray lcl_27 K.g1 ⟨rfl, rfl⟩ rfl hl.1 rfl (Nat.zero_le _) (by decide) (by decide) (by decide) (by decide) dL_law_291) hS (fun v24 H24 locs24 hp hC24 hS24 => ?_)
  obtain ⟨hp1, hp2a⟩ := hp
  have hMI : MI X H24 m1 ca := hMI.cl hC K.gca K.g2 hp1 rfl
  have hMR : mkI X H24 x1 = mmI X H24 m1 := (mk_kp hp1 K.g1 rfl).trans (hMR.trans (mm_kp hp1 K.g2 rfl).symm)
  have hFR : flI X H24 ra = tpdI X H24 m1 := (fl_kp hp1 K.gra rfl).trans (hFR.trans (tpd_kp hp1 K.g2 rfl).symm)
  have hSd := hSH; have hSH : SHP X Γ H24 x1 ta td nd := hSH.kp K.g1 hp1 rfl
  have hTr0 := hTR; have hNr0 := hNR; have hTm : TMm tm ts H H24 := TMm.kp0 hp1 K.gtm K.gts rfl; have hNm : NSm (nM na H) (nM na H24) := nM_kp0 hp1 K.gna rfl
  have hpa := hp2a; have hCA := hC
  have hC := hC24; have hS := hS24
  refine lv_pop hx hb dL_law_294 rfl ?_
  refine lv_aload_n hx hb dL_law_295 rfl (lv_at hl 1 rfl) ?_
  refine lv_aload_n hx hb dL_law_296 rfl (lv_at hl 3 rfl) ?_
  refine lv_iload_n hx hb dL_law_297 rfl (lv_at hl 0 rfl) ?_
  refine lv_iconst (v := 1) hx hb dL_law_298 rfl ?_
  refine lv_iadd hx hb dL_law_299 (lv_topi (fun v25 e25 => ?_))
  have e25i : v25.toInt = z + 1 := i_add e25 ez (by decide) (by omega) (by omega)
  have hq25 : v25 = v21 := e25.trans e21.symm
  refine va_sld hx hb K.hX K.hbl K.hbA hS (i_in e25i (by omega) (by omega)) dL_law_300 ?_
  rw [hq25]
  refine lv_aload_n hx hb dL_law_301 rfl (lv_at hl 3 rfl) ?_
  refine lv_iload_n hx hb dL_law_302 rfl (lv_at hl 0 rfl) ?_
  refine lv_iconst (v := 2) hx hb dL_law_303 rfl ?_
  refine lv_iadd hx hb dL_law_304 (lv_topi (fun v26 e26 => ?_))
  have e26i : v26.toInt = z + 2 := i_add e26 ez (by decide) (by omega) (by omega)
  have hq26 : v26 = v22 := e26.trans e22.symm
  refine va_sld hx hb K.hX K.hbl K.hbA hS (i_in e26i (by omega) (by omega)) dL_law_305 ?_
  rw [hq26]
  refine lv_aload_n hx hb dL_law_306 rfl (lv_at hl 3 rfl) ?_
  refine lv_iload_n hx hb dL_law_307 rfl (lv_at hl 0 rfl) ?_
  refine lv_iconst (v := 3) hx hb dL_law_308 rfl ?_
  refine lv_iadd hx hb dL_law_309 (lv_topi (fun v27 e27 => ?_))
  have e27i : v27.toInt = z + 3 := i_add e27 ez (by decide) (by omega) (by omega)
  have hq27 : v27 = v23 := e27.trans e23.symm
  refine va_sld hx hb K.hX K.hbl K.hbA hS (i_in e27i (by omega) (by omega)) dL_law_310 ?_
  rw [hq27]
  refine r_goI (r_runV (As := [.int (xs v21.toNatClampNeg), .int (xs v22.toNatClampNeg), .int (xs v23.toNatClampNeg)]) (rest := []) E hC hS (m_X12_tray l X Γ H24 hC m1 K.g2 (xs v21.toNatClampNeg) (a1 := ((xs v21.toNatClampNeg) : Int32).toInt) rfl (xs v22.toNatClampNeg) (a2 := ((xs v22.toNatClampNeg) : Int32).toInt) rfl (xs v23.toNatClampNeg) (a3 := ((xs v23.toNatClampNeg) : Int32).toInt) rfl ca K.gca K.uc tm ts K.gtm K.utm K.gts K.uts na K.gna K.una) lcw_X12_tray lcl_31 K.g2 ⟨rfl, rfl⟩ rfl hl.1 rfl (Nat.zero_le _) (by decide) (by decide) (by decide) (by decide) dL_law_311) hS (fun v28 H28 locs28 hp hC28 hS28 => ?_)
  obtain ⟨hp1, hp2b⟩ := hp
  have hMI : MI X H28 m1 ca := hMI.kp hC K.gca K.g2 hp1 rfl rfl rfl
  have hMR : mkI X H28 x1 = mmI X H28 m1 := (mk_kp hp1 K.g1 rfl).trans (hMR.trans (mm_kp hp1 K.g2 rfl).symm)
  have hFR : flI X H28 ra = tpdI X H28 m1 := (fl_kp hp1 K.gra rfl).trans (hFR.trans (tpd_kp hp1 K.g2 rfl).symm)
  have hSd := hSH; have hSH : SHP X Γ H28 x1 ta td nd := hSH.kpM K.g1 hp1 rfl
  have hTc2 : TSm X td H24 H28 := TSm.kp1 hp1 hSH rfl; have hNc2 : NSm (nC nd H24) (nC nd H28) := nC_kp1 hp1 hSH rfl
  have hpb := hp2b
  have hTN : TRl X td tm ts H28 ∧ NRl X td nd na H28 := by
    rcases hpa with ⟨a1, a2, a3, a4, a5, a6, -, w, w1⟩ | ⟨an, -, w, w1⟩ <;> rcases hpb with ⟨b1, b2, b3, b4, b5, b6, -, w2, w3⟩ | ⟨bn, -, w2, w3⟩
    · exact ⟨hTr0.set w hTm w2 hTc2, hNr0.tray w hTc2 w1 hNc2 hNm w3⟩
    · exact absurd bn (by omega)
    · exact absurd an (by omega)
    · exact ⟨hTr0.same2 w hTm w2 hTc2, hNr0.same (w.tr hTc2) (w1.tr hNc2) (hNm.tr w3)⟩
  obtain ⟨hTR, hNR⟩ := hTN
  have hC := hC28; have hS := hS28
  refine lv_pop hx hb dL_law_314 rfl ?_
  refine lv_goto (tgt := 1667) hx hb dL_law_315 rfl ?_
  exact hk _ _ hC hS hMI hMR hFR hSH hTR hNR
set_option maxRecDepth 100000 in
set_option maxHeartbeats 4000000 in
theorem law_4 (l : Launch) {p : Program} {e : Env} {s : State} {m : MethodId} {below : List Frame} {meth : Method} {c : Code} {X : xW} {Γ : Nat → Option Nat} {b L : Nat} {xs : Nat → Int32} {x1 m1 ca ka oa ra ta tm ts na : Nat} {td nd : Nat → Nat} (K : LK p s m meth c X Γ b L xs x1 m1 ca ka oa ra tm ts na) {H : Heap} {locs : List Loc} {ls : Array Slot} {Q : State → Prop} {i : Int32} {z : Int} (ez : i.toInt = z) (h0z : 0 ≤ z) (hzL : z + 6 ≤ L) (hC : Conf X Γ H) (hS : va_S (AΓ Γ) s.heap H locs) (hMI : MI X H m1 ca) (hMR : mkI X H x1 = mmI X H m1) (hFR : flI X H ra = tpdI X H m1) (hSH : SHP X Γ H x1 ta td nd) (hTR : TRl X td tm ts H) (hNR : NRl X td nd na H) (hl : lv_has ls 4 [(3, .int i), (2, .ref m1), (1, .ref x1), (0, .ref b)]) (hk : ∀ (H1 : Heap) (locs1 : List Loc), Conf X Γ H1 → va_S (AΓ Γ) s.heap H1 locs1 → MI X H1 m1 ca → mkI X H1 x1 = mmI X H1 m1 → flI X H1 ra = tpdI X H1 m1 → SHP X Γ H1 x1 ta td nd → TRl X td tm ts H1 → NRl X td nd na H1 → W p l e room_1 s m #[Value.ref b] below meth c H1 locs1 147 13128 Q (F0 m 1667 ls [])) : W p l e room_1 s m #[Value.ref b] below meth c H locs 147 13128 Q (F0 m 318 ls []) := by
  have E := K.E; have hx := E.1; have hb := E.2.1; have hLl := K.hL
  refine lv_aload_n hx hb dL_law_318 rfl (lv_at hl 2 rfl) ?_
  refine lv_aload_n hx hb dL_law_319 rfl (lv_at hl 3 rfl) ?_
  refine lv_iload_n hx hb dL_law_320 rfl (lv_at hl 0 rfl) ?_
  refine lv_iconst (v := 1) hx hb dL_law_321 rfl ?_
  refine lv_iadd hx hb dL_law_322 (lv_topi (fun v21 e21 => ?_))
  have e21i : v21.toInt = z + 1 := i_add e21 ez (by decide) (by omega) (by omega)
  refine va_sld hx hb K.hX K.hbl K.hbA hS (i_in e21i (by omega) (by omega)) dL_law_323 ?_
  refine lv_aload_n hx hb dL_law_324 rfl (lv_at hl 3 rfl) ?_
  refine lv_iload_n hx hb dL_law_325 rfl (lv_at hl 0 rfl) ?_
  refine lv_iconst (v := 2) hx hb dL_law_326 rfl ?_
  refine lv_iadd hx hb dL_law_327 (lv_topi (fun v22 e22 => ?_))
  have e22i : v22.toInt = z + 2 := i_add e22 ez (by decide) (by omega) (by omega)
  refine va_sld hx hb K.hX K.hbl K.hbA hS (i_in e22i (by omega) (by omega)) dL_law_328 ?_
  refine lv_aload_n hx hb dL_law_329 rfl (lv_at hl 3 rfl) ?_
  refine lv_iload_n hx hb dL_law_330 rfl (lv_at hl 0 rfl) ?_
  refine lv_iconst (v := 3) hx hb dL_law_331 rfl ?_
  refine lv_iadd hx hb dL_law_332 (lv_topi (fun v23 e23 => ?_))
  have e23i : v23.toInt = z + 3 := i_add e23 ez (by decide) (by omega) (by omega)
  refine va_sld hx hb K.hX K.hbl K.hbA hS (i_in e23i (by omega) (by omega)) dL_law_333 ?_
  refine lv_i2l (v := ((xs v23.toNatClampNeg) : Int32).toInt64) hx hb dL_law_334 rfl (lv_topl (fun v24 e24 => ?_))
  refine lv_bipush (v := 32) hx hb dL_law_335 rfl ?_
  refine lv_lshl hx hb dL_law_337 rfl (lv_topl (fun v25 e25 => ?_))
  refine lv_aload_n hx hb dL_law_338 rfl (lv_at hl 3 rfl) ?_
  refine lv_iload_n hx hb dL_law_339 rfl (lv_at hl 0 rfl) ?_
  refine lv_iconst (v := 4) hx hb dL_law_340 rfl ?_
  refine lv_iadd hx hb dL_law_341 (lv_topi (fun v26 e26 => ?_))
  have e26i : v26.toInt = z + 4 := i_add e26 ez (by decide) (by omega) (by omega)
  refine va_sld hx hb K.hX K.hbl K.hbA hS (i_in e26i (by omega) (by omega)) dL_law_342 ?_
  refine lv_i2l (v := ((xs v26.toNatClampNeg) : Int32).toInt64) hx hb dL_law_343 rfl (lv_topl (fun v27 e27 => ?_))
  refine lv_ldc2 (v := 4294967295) hx hb E.2.2.2.1 (E.2.2.2.2.1 _ w_2000) dL_law_344 ?_
  refine lv_land hx hb dL_law_347 (lv_topl (fun v28 e28 => ?_))
  refine lv_lor hx hb dL_law_348 (lv_topl (fun v29 e29 => ?_))
  refine r_goI (r_runV (As := [.int (xs v21.toNatClampNeg), .int (xs v22.toNatClampNeg), .long v29]) (rest := []) E hC hS (m_X11_write l X Γ H hC x1 K.g1 (xs v21.toNatClampNeg) (a1 := ((xs v21.toNatClampNeg) : Int32).toInt) rfl (xs v22.toNatClampNeg) (a2 := ((xs v22.toNatClampNeg) : Int32).toInt) rfl v29 (a3 := (v29 : Int64).toInt) rfl ta td nd hSH) lcw_X11_write lcl_34 K.g1 ⟨rfl, rfl⟩ rfl hl.1 rfl (Nat.zero_le _) (by decide) (by decide) (by decide) (by decide) dL_law_349) hS (fun v30 H30 locs30 hp hC30 hS30 => ?_)
  obtain ⟨hp1, hp2a⟩ := hp
  have hMI : MI X H30 m1 ca := hMI.cl hC K.gca K.g2 hp1 rfl
  have hMR : mkI X H30 x1 = mmI X H30 m1 := (mk_kp hp1 K.g1 rfl).trans (hMR.trans (mm_kp hp1 K.g2 rfl).symm)
  have hFR : flI X H30 ra = tpdI X H30 m1 := (fl_kp hp1 K.gra rfl).trans (hFR.trans (tpd_kp hp1 K.g2 rfl).symm)
  have hSd := hSH; have hSH : SHP X Γ H30 x1 ta td nd := hSH.kp K.g1 hp1 rfl
  have hTr0 := hTR; have hNr0 := hNR; have hTm : TMm tm ts H H30 := TMm.kp0 hp1 K.gtm K.gts rfl; have hNm : NSm (nM na H) (nM na H30) := nM_kp0 hp1 K.gna rfl
  have hTc : TSm X td H H30 := TSm.kp TSm.rf hp1 hSH rfl; have hTR := hTR.same hTc hTm
  have hpa := hp2a; have hCA := hC
  have hC := hC30; have hS := hS30
  refine lv_aload_n hx hb dL_law_352 rfl (lv_at hl 1 rfl) ?_
  refine lv_aload_n hx hb dL_law_353 rfl (lv_at hl 3 rfl) ?_
  refine lv_iload_n hx hb dL_law_354 rfl (lv_at hl 0 rfl) ?_
  refine lv_iconst (v := 1) hx hb dL_law_355 rfl ?_
  refine lv_iadd hx hb dL_law_356 (lv_topi (fun v31 e31 => ?_))
  have e31i : v31.toInt = z + 1 := i_add e31 ez (by decide) (by omega) (by omega)
  have hq31 : v31 = v21 := e31.trans e21.symm
  refine va_sld hx hb K.hX K.hbl K.hbA hS (i_in e31i (by omega) (by omega)) dL_law_357 ?_
  rw [hq31]
  refine lv_aload_n hx hb dL_law_358 rfl (lv_at hl 3 rfl) ?_
  refine lv_iload_n hx hb dL_law_359 rfl (lv_at hl 0 rfl) ?_
  refine lv_iconst (v := 2) hx hb dL_law_360 rfl ?_
  refine lv_iadd hx hb dL_law_361 (lv_topi (fun v32 e32 => ?_))
  have e32i : v32.toInt = z + 2 := i_add e32 ez (by decide) (by omega) (by omega)
  have hq32 : v32 = v22 := e32.trans e22.symm
  refine va_sld hx hb K.hX K.hbl K.hbA hS (i_in e32i (by omega) (by omega)) dL_law_362 ?_
  rw [hq32]
  refine lv_aload_n hx hb dL_law_363 rfl (lv_at hl 3 rfl) ?_
  refine lv_iload_n hx hb dL_law_364 rfl (lv_at hl 0 rfl) ?_
  refine lv_iconst (v := 3) hx hb dL_law_365 rfl ?_
  refine lv_iadd hx hb dL_law_366 (lv_topi (fun v33 e33 => ?_))
  have e33i : v33.toInt = z + 3 := i_add e33 ez (by decide) (by omega) (by omega)
  have hq33 : v33 = v23 := e33.trans e23.symm
  refine va_sld hx hb K.hX K.hbl K.hbA hS (i_in e33i (by omega) (by omega)) dL_law_367 ?_
  rw [hq33]
  refine lv_i2l (v := ((xs v23.toNatClampNeg) : Int32).toInt64) hx hb dL_law_368 rfl (lv_topl (fun v34 e34 => ?_))
  have hq34 : v34 = v24 := e34.trans e24.symm
  rw [hq34]
  refine lv_bipush (v := 32) hx hb dL_law_369 rfl ?_
  refine lv_lshl hx hb dL_law_371 rfl (lv_topl (fun v35 e35 => ?_))
  have hq35 : v35 = v25 := e35.trans e25.symm
  rw [hq35]
  refine lv_aload_n hx hb dL_law_372 rfl (lv_at hl 3 rfl) ?_
  refine lv_iload_n hx hb dL_law_373 rfl (lv_at hl 0 rfl) ?_
  refine lv_iconst (v := 4) hx hb dL_law_374 rfl ?_
  refine lv_iadd hx hb dL_law_375 (lv_topi (fun v36 e36 => ?_))
  have e36i : v36.toInt = z + 4 := i_add e36 ez (by decide) (by omega) (by omega)
  have hq36 : v36 = v26 := e36.trans e26.symm
  refine va_sld hx hb K.hX K.hbl K.hbA hS (i_in e36i (by omega) (by omega)) dL_law_376 ?_
  rw [hq36]
  refine lv_i2l (v := ((xs v26.toNatClampNeg) : Int32).toInt64) hx hb dL_law_377 rfl (lv_topl (fun v37 e37 => ?_))
  have hq37 : v37 = v27 := e37.trans e27.symm
  rw [hq37]
  refine lv_ldc2 (v := 4294967295) hx hb E.2.2.2.1 (E.2.2.2.2.1 _ w_2000) dL_law_378 ?_
  refine lv_land hx hb dL_law_381 (lv_topl (fun v38 e38 => ?_))
  have hq38 : v38 = v28 := e38.trans e28.symm
  rw [hq38]
  refine lv_lor hx hb dL_law_382 (lv_topl (fun v39 e39 => ?_))
  have hq39 : v39 = v29 := e39.trans e29.symm
  rw [hq39]
  refine r_goI (r_runV (As := [.int (xs v21.toNatClampNeg), .int (xs v22.toNatClampNeg), .long v29]) (rest := [.int v30]) E hC hS (m_X12_write l X Γ H30 hC m1 K.g2 (xs v21.toNatClampNeg) (a1 := ((xs v21.toNatClampNeg) : Int32).toInt) rfl (xs v22.toNatClampNeg) (a2 := ((xs v22.toNatClampNeg) : Int32).toInt) rfl v29 (a3 := (v29 : Int64).toInt) rfl ca K.gca K.uc tm ts K.gtm K.utm K.gts K.uts na K.gna K.una) lcw_X12_write lcl_38 K.g2 ⟨rfl, rfl⟩ rfl hl.1 rfl (show _ ≤ _ from by simp [Value.category]) (by decide) (by decide) (by decide) (by decide) dL_law_383) hS (fun v40 H40 locs40 hp hC40 hS40 => ?_)
  obtain ⟨hp1, hp2b⟩ := hp
  have hMI : MI X H40 m1 ca := hMI.kp hC K.gca K.g2 hp1 rfl rfl rfl
  have hMR : mkI X H40 x1 = mmI X H40 m1 := (mk_kp hp1 K.g1 rfl).trans (hMR.trans (mm_kp hp1 K.g2 rfl).symm)
  have hFR : flI X H40 ra = tpdI X H40 m1 := (fl_kp hp1 K.gra rfl).trans (hFR.trans (tpd_kp hp1 K.g2 rfl).symm)
  have hSd := hSH; have hSH : SHP X Γ H40 x1 ta td nd := hSH.kpM K.g1 hp1 rfl
  have hTc2 : TSm X td H30 H40 := TSm.kp1 hp1 hSH rfl; have hNc2 : NSm (nC nd H30) (nC nd H40) := nC_kp1 hp1 hSH rfl
  have hTrm := hTR; have hTm2 : TMm tm ts H30 H40 := TMm.kp TMm.rf hp1 K.gtm K.gts rfl; have hTR := hTR.same hTc2 hTm2
  have hpb := hp2b
  have t1 := hTr0 (((xs v21.toNatClampNeg) : Int32).toInt).toNat; have w1 := hTm (((xs v21.toNatClampNeg) : Int32).toInt).toNat; have c91 := hTc (((xs v21.toNatClampNeg) : Int32).toInt).toNat
  have hNR : NRl X td nd na H40 := by
    rcases hpa with ⟨a1, a2, a3, a4, -, w⟩ | ⟨an, -, w⟩ <;> rcases hpb with ⟨b1, b2, b3, b4, -, y⟩ | ⟨bn, -, y⟩
    · exact hNr0.write (hTc.tr hTc2) w hNc2 hNm (by rw [show (sI H (td (((xs v21.toNatClampNeg) : Int32).toInt).toNat) (X.1.2 6 1)).toInt = (sI H30 ts (((xs v21.toNatClampNeg) : Int32).toInt).toNat).toInt from by omega]; exact y)
    · exact absurd bn (by omega)
    · exact absurd an (by omega)
    · exact hNr0.same (hTc.tr hTc2) (w.tr hNc2) (hNm.tr y)
  have hC := hC40; have hS := hS40
  refine q_icmp_eq hx hb (a := v30.toInt) (b := v40.toInt) rfl rfl (tgt := 1667) dL_law_386 rfl (fun c1 => ?_) (fun c1 => ?_)
  · exact hk _ _ hC hS hMI hMR hFR hSH hTR hNR
  · exfalso; clear hTR hNR hTrm
    omega
set_option maxRecDepth 100000 in
set_option maxHeartbeats 4000000 in
theorem law_5 (l : Launch) {p : Program} {e : Env} {s : State} {m : MethodId} {below : List Frame} {meth : Method} {c : Code} {X : xW} {Γ : Nat → Option Nat} {b L : Nat} {xs : Nat → Int32} {x1 m1 ca ka oa ra ta tm ts na : Nat} {td nd : Nat → Nat} (K : LK p s m meth c X Γ b L xs x1 m1 ca ka oa ra tm ts na) {H : Heap} {locs : List Loc} {ls : Array Slot} {Q : State → Prop} {i : Int32} {z : Int} (ez : i.toInt = z) (h0z : 0 ≤ z) (hzL : z + 6 ≤ L) (hC : Conf X Γ H) (hS : va_S (AΓ Γ) s.heap H locs) (hMI : MI X H m1 ca) (hMR : mkI X H x1 = mmI X H m1) (hFR : flI X H ra = tpdI X H m1) (hSH : SHP X Γ H x1 ta td nd) (hTR : TRl X td tm ts H) (hNR : NRl X td nd na H) (hl : lv_has ls 4 [(3, .int i), (2, .ref m1), (1, .ref x1), (0, .ref b)]) (hk : ∀ (H1 : Heap) (locs1 : List Loc), Conf X Γ H1 → va_S (AΓ Γ) s.heap H1 locs1 → MI X H1 m1 ca → mkI X H1 x1 = mmI X H1 m1 → flI X H1 ra = tpdI X H1 m1 → SHP X Γ H1 x1 ta td nd → TRl X td tm ts H1 → NRl X td nd na H1 → W p l e room_1 s m #[Value.ref b] below meth c H1 locs1 147 13128 Q (F0 m 1667 ls [])) : W p l e room_1 s m #[Value.ref b] below meth c H locs 147 13128 Q (F0 m 391 ls []) := by
  have E := K.E; have hx := E.1; have hb := E.2.1; have hLl := K.hL
  refine lv_aload_n hx hb dL_law_391 rfl (lv_at hl 2 rfl) ?_
  refine lv_aload_n hx hb dL_law_392 rfl (lv_at hl 3 rfl) ?_
  refine lv_iload_n hx hb dL_law_393 rfl (lv_at hl 0 rfl) ?_
  refine lv_iconst (v := 1) hx hb dL_law_394 rfl ?_
  refine lv_iadd hx hb dL_law_395 (lv_topi (fun v21 e21 => ?_))
  have e21i : v21.toInt = z + 1 := i_add e21 ez (by decide) (by omega) (by omega)
  refine va_sld hx hb K.hX K.hbl K.hbA hS (i_in e21i (by omega) (by omega)) dL_law_396 ?_
  refine lv_aload_n hx hb dL_law_397 rfl (lv_at hl 3 rfl) ?_
  refine lv_iload_n hx hb dL_law_398 rfl (lv_at hl 0 rfl) ?_
  refine lv_iconst (v := 2) hx hb dL_law_399 rfl ?_
  refine lv_iadd hx hb dL_law_400 (lv_topi (fun v22 e22 => ?_))
  have e22i : v22.toInt = z + 2 := i_add e22 ez (by decide) (by omega) (by omega)
  refine va_sld hx hb K.hX K.hbl K.hbA hS (i_in e22i (by omega) (by omega)) dL_law_401 ?_
  refine r_goJ (r_runV (As := [.int (xs v21.toNatClampNeg), .int (xs v22.toNatClampNeg)]) (rest := []) E hC hS (m_X11_read l X Γ H hC x1 K.g1 (xs v21.toNatClampNeg) (a1 := ((xs v21.toNatClampNeg) : Int32).toInt) rfl (xs v22.toNatClampNeg) (a2 := ((xs v22.toNatClampNeg) : Int32).toInt) rfl ta td nd hSH) lcw_X11_read lcl_39 K.g1 ⟨rfl, rfl⟩ rfl hl.1 rfl (Nat.zero_le _) (by decide) (by decide) (by decide) (by decide) dL_law_402) hS (fun v23 H23 locs23 hp hC23 hS23 => ?_)
  obtain ⟨hp1, hp2a⟩ := hp
  have hMI : MI X H23 m1 ca := hMI.cl hC K.gca K.g2 hp1 rfl
  have hMR : mkI X H23 x1 = mmI X H23 m1 := (mk_kp hp1 K.g1 rfl).trans (hMR.trans (mm_kp hp1 K.g2 rfl).symm)
  have hFR : flI X H23 ra = tpdI X H23 m1 := (fl_kp hp1 K.gra rfl).trans (hFR.trans (tpd_kp hp1 K.g2 rfl).symm)
  have hSd := hSH; have hSH : SHP X Γ H23 x1 ta td nd := hSH.kp K.g1 hp1 rfl
  have hTr0 := hTR; have hNr0 := hNR; have hTm : TMm tm ts H H23 := TMm.kp0 hp1 K.gtm K.gts rfl; have hNm : NSm (nM na H) (nM na H23) := nM_kp0 hp1 K.gna rfl
  have hTc : TSm X td H H23 := TSm.kp TSm.rf hp1 hSH rfl; have hTR := hTR.same hTc hTm
  have hNc : NSm (nC nd H) (nC nd H23) := nC_kp NSm.rf hp1 hSH rfl; have hNR := hNR.same hTc hNc hNm
  have hpa := hp2a; have hCA := hC
  have hC := hC23; have hS := hS23
  refine lv_pop2_2 hx hb dL_law_405 rfl ?_
  refine lv_aload_n hx hb dL_law_406 rfl (lv_at hl 1 rfl) ?_
  refine lv_aload_n hx hb dL_law_407 rfl (lv_at hl 3 rfl) ?_
  refine lv_iload_n hx hb dL_law_408 rfl (lv_at hl 0 rfl) ?_
  refine lv_iconst (v := 1) hx hb dL_law_409 rfl ?_
  refine lv_iadd hx hb dL_law_410 (lv_topi (fun v24 e24 => ?_))
  have e24i : v24.toInt = z + 1 := i_add e24 ez (by decide) (by omega) (by omega)
  have hq24 : v24 = v21 := e24.trans e21.symm
  refine va_sld hx hb K.hX K.hbl K.hbA hS (i_in e24i (by omega) (by omega)) dL_law_411 ?_
  rw [hq24]
  refine lv_aload_n hx hb dL_law_412 rfl (lv_at hl 3 rfl) ?_
  refine lv_iload_n hx hb dL_law_413 rfl (lv_at hl 0 rfl) ?_
  refine lv_iconst (v := 2) hx hb dL_law_414 rfl ?_
  refine lv_iadd hx hb dL_law_415 (lv_topi (fun v25 e25 => ?_))
  have e25i : v25.toInt = z + 2 := i_add e25 ez (by decide) (by omega) (by omega)
  have hq25 : v25 = v22 := e25.trans e22.symm
  refine va_sld hx hb K.hX K.hbl K.hbA hS (i_in e25i (by omega) (by omega)) dL_law_416 ?_
  rw [hq25]
  refine r_goJ (r_runV (As := [.int (xs v21.toNatClampNeg), .int (xs v22.toNatClampNeg)]) (rest := []) E hC hS (m_X12_read l X Γ H23 hC m1 K.g2 (xs v21.toNatClampNeg) (a1 := ((xs v21.toNatClampNeg) : Int32).toInt) rfl (xs v22.toNatClampNeg) (a2 := ((xs v22.toNatClampNeg) : Int32).toInt) rfl ca K.gca K.uc tm ts K.gtm K.utm K.gts K.uts na K.gna K.una) lcw_X12_read lcl_43 K.g2 ⟨rfl, rfl⟩ rfl hl.1 rfl (Nat.zero_le _) (by decide) (by decide) (by decide) (by decide) dL_law_417) hS (fun v26 H26 locs26 hp hC26 hS26 => ?_)
  obtain ⟨hp1, hp2b⟩ := hp
  have hMI : MI X H26 m1 ca := hMI.kp hC K.gca K.g2 hp1 rfl rfl rfl
  have hMR : mkI X H26 x1 = mmI X H26 m1 := (mk_kp hp1 K.g1 rfl).trans (hMR.trans (mm_kp hp1 K.g2 rfl).symm)
  have hFR : flI X H26 ra = tpdI X H26 m1 := (fl_kp hp1 K.gra rfl).trans (hFR.trans (tpd_kp hp1 K.g2 rfl).symm)
  have hSd := hSH; have hSH : SHP X Γ H26 x1 ta td nd := hSH.kpM K.g1 hp1 rfl
  have hTc2 : TSm X td H23 H26 := TSm.kp1 hp1 hSH rfl; have hNc2 : NSm (nC nd H23) (nC nd H26) := nC_kp1 hp1 hSH rfl
  have hTrm := hTR; have hTm2 : TMm tm ts H23 H26 := TMm.kp TMm.rf hp1 K.gtm K.gts rfl; have hTR := hTR.same hTc2 hTm2
  have hpb := hp2b
  have hNm2 : NSm (nM na H23) (nM na H26) := nM_kp NSm.rf hp1 K.gna rfl; have hNrm := hNR; have hNR := hNR.same hTc2 hNc2 hNm2
  have hC := hC26; have hS := hS26
  refine lv_pop2_2 hx hb dL_law_420 rfl ?_
  refine lv_goto (tgt := 1667) hx hb dL_law_421 rfl ?_
  exact hk _ _ hC hS hMI hMR hFR hSH hTR hNR
set_option maxRecDepth 100000 in
set_option maxHeartbeats 4000000 in
theorem law_6 (l : Launch) {p : Program} {e : Env} {s : State} {m : MethodId} {below : List Frame} {meth : Method} {c : Code} {X : xW} {Γ : Nat → Option Nat} {b L : Nat} {xs : Nat → Int32} {x1 m1 ca ka oa ra ta tm ts na : Nat} {td nd : Nat → Nat} (K : LK p s m meth c X Γ b L xs x1 m1 ca ka oa ra tm ts na) {H : Heap} {locs : List Loc} {ls : Array Slot} {Q : State → Prop} {i : Int32} {z : Int} (ez : i.toInt = z) (h0z : 0 ≤ z) (hzL : z + 6 ≤ L) (hC : Conf X Γ H) (hS : va_S (AΓ Γ) s.heap H locs) (hMI : MI X H m1 ca) (hMR : mkI X H x1 = mmI X H m1) (hFR : flI X H ra = tpdI X H m1) (hSH : SHP X Γ H x1 ta td nd) (hTR : TRl X td tm ts H) (hNR : NRl X td nd na H) (hl : lv_has ls 4 [(3, .int i), (2, .ref m1), (1, .ref x1), (0, .ref b)]) (hk : ∀ (H1 : Heap) (locs1 : List Loc), Conf X Γ H1 → va_S (AΓ Γ) s.heap H1 locs1 → MI X H1 m1 ca → mkI X H1 x1 = mmI X H1 m1 → flI X H1 ra = tpdI X H1 m1 → SHP X Γ H1 x1 ta td nd → TRl X td tm ts H1 → NRl X td nd na H1 → W p l e room_1 s m #[Value.ref b] below meth c H1 locs1 147 13128 Q (F0 m 1667 ls [])) : W p l e room_1 s m #[Value.ref b] below meth c H locs 147 13128 Q (F0 m 424 ls []) := by
  have E := K.E; have hx := E.1; have hb := E.2.1; have hLl := K.hL
  refine lv_aload_n hx hb dL_law_424 rfl (lv_at hl 2 rfl) ?_
  refine lv_aload_n hx hb dL_law_425 rfl (lv_at hl 3 rfl) ?_
  refine lv_iload_n hx hb dL_law_426 rfl (lv_at hl 0 rfl) ?_
  refine lv_iconst (v := 1) hx hb dL_law_427 rfl ?_
  refine lv_iadd hx hb dL_law_428 (lv_topi (fun v21 e21 => ?_))
  have e21i : v21.toInt = z + 1 := i_add e21 ez (by decide) (by omega) (by omega)
  refine va_sld hx hb K.hX K.hbl K.hbA hS (i_in e21i (by omega) (by omega)) dL_law_429 ?_
  refine lv_aload_n hx hb dL_law_430 rfl (lv_at hl 3 rfl) ?_
  refine lv_iload_n hx hb dL_law_431 rfl (lv_at hl 0 rfl) ?_
  refine lv_iconst (v := 2) hx hb dL_law_432 rfl ?_
  refine lv_iadd hx hb dL_law_433 (lv_topi (fun v22 e22 => ?_))
  have e22i : v22.toInt = z + 2 := i_add e22 ez (by decide) (by omega) (by omega)
  refine va_sld hx hb K.hX K.hbl K.hbA hS (i_in e22i (by omega) (by omega)) dL_law_434 ?_
  refine lv_aload_n hx hb dL_law_435 rfl (lv_at hl 3 rfl) ?_
  refine lv_iload_n hx hb dL_law_436 rfl (lv_at hl 0 rfl) ?_
  refine lv_iconst (v := 3) hx hb dL_law_437 rfl ?_
  refine lv_iadd hx hb dL_law_438 (lv_topi (fun v23 e23 => ?_))
  have e23i : v23.toInt = z + 3 := i_add e23 ez (by decide) (by omega) (by omega)
  refine va_sld hx hb K.hX K.hbl K.hbA hS (i_in e23i (by omega) (by omega)) dL_law_439 ?_
  refine lv_aload_n hx hb dL_law_440 rfl (lv_at hl 3 rfl) ?_
  refine lv_iload_n hx hb dL_law_441 rfl (lv_at hl 0 rfl) ?_
  refine lv_iconst (v := 4) hx hb dL_law_442 rfl ?_
  refine lv_iadd hx hb dL_law_443 (lv_topi (fun v24 e24 => ?_))
  have e24i : v24.toInt = z + 4 := i_add e24 ez (by decide) (by omega) (by omega)
  refine va_sld hx hb K.hX K.hbl K.hbA hS (i_in e24i (by omega) (by omega)) dL_law_444 ?_
  refine lv_aload_n hx hb dL_law_445 rfl (lv_at hl 3 rfl) ?_
  refine lv_iload_n hx hb dL_law_446 rfl (lv_at hl 0 rfl) ?_
  refine lv_iconst (v := 5) hx hb dL_law_447 rfl ?_
  refine lv_iadd hx hb dL_law_448 (lv_topi (fun v25 e25 => ?_))
  have e25i : v25.toInt = z + 5 := i_add e25 ez (by decide) (by omega) (by omega)
  refine va_sld hx hb K.hX K.hbl K.hbA hS (i_in e25i (by omega) (by omega)) dL_law_449 ?_
  refine r_goI (r_runV (As := [.int (xs v21.toNatClampNeg), .int (xs v22.toNatClampNeg), .int (xs v23.toNatClampNeg), .int (xs v24.toNatClampNeg), .int (xs v25.toNatClampNeg)]) (rest := []) E hC hS (m_X11_pour l X Γ H hC x1 K.g1 (xs v21.toNatClampNeg) (a1 := ((xs v21.toNatClampNeg) : Int32).toInt) rfl (xs v22.toNatClampNeg) (a2 := ((xs v22.toNatClampNeg) : Int32).toInt) rfl (xs v23.toNatClampNeg) (a3 := ((xs v23.toNatClampNeg) : Int32).toInt) rfl (xs v24.toNatClampNeg) (a4 := ((xs v24.toNatClampNeg) : Int32).toInt) rfl (xs v25.toNatClampNeg) (a5 := ((xs v25.toNatClampNeg) : Int32).toInt) rfl ta td nd hSH) lcw_X11_pour lcl_44 K.g1 ⟨rfl, rfl⟩ rfl hl.1 rfl (Nat.zero_le _) (by decide) (by decide) (by decide) (by decide) dL_law_450) hS (fun v26 H26 locs26 hp hC26 hS26 => ?_)
  obtain ⟨hp1, hp2a⟩ := hp
  have hMI : MI X H26 m1 ca := hMI.cl hC K.gca K.g2 hp1 rfl
  have hMR : mkI X H26 x1 = mmI X H26 m1 := (mk_kp hp1 K.g1 rfl).trans (hMR.trans (mm_kp hp1 K.g2 rfl).symm)
  have hFR : flI X H26 ra = tpdI X H26 m1 := (fl_kp hp1 K.gra rfl).trans (hFR.trans (tpd_kp hp1 K.g2 rfl).symm)
  have hSd := hSH; have hSH : SHP X Γ H26 x1 ta td nd := hSH.kp K.g1 hp1 rfl
  have hTr0 := hTR; have hNr0 := hNR; have hTm : TMm tm ts H H26 := TMm.kp0 hp1 K.gtm K.gts rfl; have hNm : NSm (nM na H) (nM na H26) := nM_kp0 hp1 K.gna rfl
  have hTc : TSm X td H H26 := TSm.kp TSm.rf hp1 hSH rfl; have hTR := hTR.same hTc hTm
  have hpa := hp2a; have hCA := hC
  have hC := hC26; have hS := hS26
  refine lv_pop hx hb dL_law_453 rfl ?_
  refine lv_aload_n hx hb dL_law_454 rfl (lv_at hl 1 rfl) ?_
  refine lv_aload_n hx hb dL_law_455 rfl (lv_at hl 3 rfl) ?_
  refine lv_iload_n hx hb dL_law_456 rfl (lv_at hl 0 rfl) ?_
  refine lv_iconst (v := 1) hx hb dL_law_457 rfl ?_
  refine lv_iadd hx hb dL_law_458 (lv_topi (fun v27 e27 => ?_))
  have e27i : v27.toInt = z + 1 := i_add e27 ez (by decide) (by omega) (by omega)
  have hq27 : v27 = v21 := e27.trans e21.symm
  refine va_sld hx hb K.hX K.hbl K.hbA hS (i_in e27i (by omega) (by omega)) dL_law_459 ?_
  rw [hq27]
  refine lv_aload_n hx hb dL_law_460 rfl (lv_at hl 3 rfl) ?_
  refine lv_iload_n hx hb dL_law_461 rfl (lv_at hl 0 rfl) ?_
  refine lv_iconst (v := 2) hx hb dL_law_462 rfl ?_
  refine lv_iadd hx hb dL_law_463 (lv_topi (fun v28 e28 => ?_))
  have e28i : v28.toInt = z + 2 := i_add e28 ez (by decide) (by omega) (by omega)
  have hq28 : v28 = v22 := e28.trans e22.symm
  refine va_sld hx hb K.hX K.hbl K.hbA hS (i_in e28i (by omega) (by omega)) dL_law_464 ?_
  rw [hq28]
  refine lv_aload_n hx hb dL_law_465 rfl (lv_at hl 3 rfl) ?_
  refine lv_iload_n hx hb dL_law_466 rfl (lv_at hl 0 rfl) ?_
  refine lv_iconst (v := 3) hx hb dL_law_467 rfl ?_
  refine lv_iadd hx hb dL_law_468 (lv_topi (fun v29 e29 => ?_))
  have e29i : v29.toInt = z + 3 := i_add e29 ez (by decide) (by omega) (by omega)
  have hq29 : v29 = v23 := e29.trans e23.symm
  refine va_sld hx hb K.hX K.hbl K.hbA hS (i_in e29i (by omega) (by omega)) dL_law_469 ?_
  rw [hq29]
  refine lv_aload_n hx hb dL_law_470 rfl (lv_at hl 3 rfl) ?_
  refine lv_iload_n hx hb dL_law_471 rfl (lv_at hl 0 rfl) ?_
  refine lv_iconst (v := 4) hx hb dL_law_472 rfl ?_
  refine lv_iadd hx hb dL_law_473 (lv_topi (fun v30 e30 => ?_))
  have e30i : v30.toInt = z + 4 := i_add e30 ez (by decide) (by omega) (by omega)
  have hq30 : v30 = v24 := e30.trans e24.symm
  refine va_sld hx hb K.hX K.hbl K.hbA hS (i_in e30i (by omega) (by omega)) dL_law_474 ?_
  rw [hq30]
  refine lv_aload_n hx hb dL_law_475 rfl (lv_at hl 3 rfl) ?_
  refine lv_iload_n hx hb dL_law_476 rfl (lv_at hl 0 rfl) ?_
  refine lv_iconst (v := 5) hx hb dL_law_477 rfl ?_
  refine lv_iadd hx hb dL_law_478 (lv_topi (fun v31 e31 => ?_))
  have e31i : v31.toInt = z + 5 := i_add e31 ez (by decide) (by omega) (by omega)
  have hq31 : v31 = v25 := e31.trans e25.symm
  refine va_sld hx hb K.hX K.hbl K.hbA hS (i_in e31i (by omega) (by omega)) dL_law_479 ?_
  rw [hq31]
  refine r_goI (r_runV (As := [.int (xs v21.toNatClampNeg), .int (xs v22.toNatClampNeg), .int (xs v23.toNatClampNeg), .int (xs v24.toNatClampNeg), .int (xs v25.toNatClampNeg)]) (rest := []) E hC hS (m_X12_pour l X Γ H26 hC m1 K.g2 (xs v21.toNatClampNeg) (a1 := ((xs v21.toNatClampNeg) : Int32).toInt) rfl (xs v22.toNatClampNeg) (a2 := ((xs v22.toNatClampNeg) : Int32).toInt) rfl (xs v23.toNatClampNeg) (a3 := ((xs v23.toNatClampNeg) : Int32).toInt) rfl (xs v24.toNatClampNeg) (a4 := ((xs v24.toNatClampNeg) : Int32).toInt) rfl (xs v25.toNatClampNeg) (a5 := ((xs v25.toNatClampNeg) : Int32).toInt) rfl ca K.gca K.uc tm ts K.gtm K.utm K.gts K.uts na K.gna K.una) lcw_X12_pour lcl_48 K.g2 ⟨rfl, rfl⟩ rfl hl.1 rfl (Nat.zero_le _) (by decide) (by decide) (by decide) (by decide) dL_law_480) hS (fun v32 H32 locs32 hp hC32 hS32 => ?_)
  obtain ⟨hp1, hp2b⟩ := hp
  have hMI : MI X H32 m1 ca := hMI.kp hC K.gca K.g2 hp1 rfl rfl rfl
  have hMR : mkI X H32 x1 = mmI X H32 m1 := (mk_kp hp1 K.g1 rfl).trans (hMR.trans (mm_kp hp1 K.g2 rfl).symm)
  have hFR : flI X H32 ra = tpdI X H32 m1 := (fl_kp hp1 K.gra rfl).trans (hFR.trans (tpd_kp hp1 K.g2 rfl).symm)
  have hSd := hSH; have hSH : SHP X Γ H32 x1 ta td nd := hSH.kpM K.g1 hp1 rfl
  have hTc2 : TSm X td H26 H32 := TSm.kp1 hp1 hSH rfl; have hNc2 : NSm (nC nd H26) (nC nd H32) := nC_kp1 hp1 hSH rfl
  have hTrm := hTR; have hTm2 : TMm tm ts H26 H32 := TMm.kp TMm.rf hp1 K.gtm K.gts rfl; have hTR := hTR.same hTc2 hTm2
  have hpb := hp2b
  have t1 := hTr0 (((xs v21.toNatClampNeg) : Int32).toInt).toNat; have w1 := hTm (((xs v21.toNatClampNeg) : Int32).toInt).toNat; have c91 := hTc (((xs v21.toNatClampNeg) : Int32).toInt).toNat
  have t3 := hTr0 (((xs v23.toNatClampNeg) : Int32).toInt).toNat; have w3 := hTm (((xs v23.toNatClampNeg) : Int32).toInt).toNat; have c93 := hTc (((xs v23.toNatClampNeg) : Int32).toInt).toNat
  have hNR : NRl X td nd na H32 := by
    rcases hpa with ⟨a1, a2, a3, a4, a5, a6, a7, a8, a9, a10, a11, a12, -, w⟩ | ⟨an, -, w⟩ <;> rcases hpb with ⟨b1, b2, b3, b4, b5, b6, b7, b8, b9, b10, b11, b12, -, y⟩ | ⟨bn, -, y⟩
    · exact hNr0.pour (hTc.tr hTc2) w hNc2 hNm y a1 a2 a9 a10 a8 (f_bd hCA ((hSH.2.2.1 (((xs v21.toNatClampNeg) : Int32).toInt).toNat (by omega)).2) (ci := 6) (k := 2) rfl rfl).2
    · exact absurd bn (by omega)
    · exact absurd an (by omega)
    · exact hNr0.same (hTc.tr hTc2) (w.tr hNc2) (hNm.tr y)
  have hC := hC32; have hS := hS32
  refine lv_pop hx hb dL_law_483 rfl ?_
  refine lv_goto (tgt := 1667) hx hb dL_law_484 rfl ?_
  exact hk _ _ hC hS hMI hMR hFR hSH hTR hNR
set_option maxRecDepth 100000 in
set_option maxHeartbeats 4000000 in
theorem law_7 (l : Launch) {p : Program} {e : Env} {s : State} {m : MethodId} {below : List Frame} {meth : Method} {c : Code} {X : xW} {Γ : Nat → Option Nat} {b L : Nat} {xs : Nat → Int32} {x1 m1 ca ka oa ra ta tm ts na : Nat} {td nd : Nat → Nat} (K : LK p s m meth c X Γ b L xs x1 m1 ca ka oa ra tm ts na) {H : Heap} {locs : List Loc} {ls : Array Slot} {Q : State → Prop} {i : Int32} {z : Int} (ez : i.toInt = z) (h0z : 0 ≤ z) (hzL : z + 6 ≤ L) (hC : Conf X Γ H) (hS : va_S (AΓ Γ) s.heap H locs) (hMI : MI X H m1 ca) (hMR : mkI X H x1 = mmI X H m1) (hFR : flI X H ra = tpdI X H m1) (hSH : SHP X Γ H x1 ta td nd) (hTR : TRl X td tm ts H) (hNR : NRl X td nd na H) (hl : lv_has ls 4 [(3, .int i), (2, .ref m1), (1, .ref x1), (0, .ref b)]) (hk : ∀ (H1 : Heap) (locs1 : List Loc), Conf X Γ H1 → va_S (AΓ Γ) s.heap H1 locs1 → MI X H1 m1 ca → mkI X H1 x1 = mmI X H1 m1 → flI X H1 ra = tpdI X H1 m1 → SHP X Γ H1 x1 ta td nd → TRl X td tm ts H1 → NRl X td nd na H1 → W p l e room_1 s m #[Value.ref b] below meth c H1 locs1 147 13128 Q (F0 m 1667 ls [])) : W p l e room_1 s m #[Value.ref b] below meth c H locs 147 13128 Q (F0 m 487 ls []) := by
  have E := K.E; have hx := E.1; have hb := E.2.1; have hLl := K.hL
  refine lv_aload_n hx hb dL_law_487 rfl (lv_at hl 2 rfl) ?_
  refine lv_aload_n hx hb dL_law_488 rfl (lv_at hl 3 rfl) ?_
  refine lv_iload_n hx hb dL_law_489 rfl (lv_at hl 0 rfl) ?_
  refine lv_iconst (v := 1) hx hb dL_law_490 rfl ?_
  refine lv_iadd hx hb dL_law_491 (lv_topi (fun v21 e21 => ?_))
  have e21i : v21.toInt = z + 1 := i_add e21 ez (by decide) (by omega) (by omega)
  refine va_sld hx hb K.hX K.hbl K.hbA hS (i_in e21i (by omega) (by omega)) dL_law_492 ?_
  refine lv_aload_n hx hb dL_law_493 rfl (lv_at hl 3 rfl) ?_
  refine lv_iload_n hx hb dL_law_494 rfl (lv_at hl 0 rfl) ?_
  refine lv_iconst (v := 2) hx hb dL_law_495 rfl ?_
  refine lv_iadd hx hb dL_law_496 (lv_topi (fun v22 e22 => ?_))
  have e22i : v22.toInt = z + 2 := i_add e22 ez (by decide) (by omega) (by omega)
  refine va_sld hx hb K.hX K.hbl K.hbA hS (i_in e22i (by omega) (by omega)) dL_law_497 ?_
  refine lv_aload_n hx hb dL_law_498 rfl (lv_at hl 3 rfl) ?_
  refine lv_iload_n hx hb dL_law_499 rfl (lv_at hl 0 rfl) ?_
  refine lv_iconst (v := 3) hx hb dL_law_500 rfl ?_
  refine lv_iadd hx hb dL_law_501 (lv_topi (fun v23 e23 => ?_))
  have e23i : v23.toInt = z + 3 := i_add e23 ez (by decide) (by omega) (by omega)
  refine va_sld hx hb K.hX K.hbl K.hbA hS (i_in e23i (by omega) (by omega)) dL_law_502 ?_
  refine lv_aload_n hx hb dL_law_503 rfl (lv_at hl 3 rfl) ?_
  refine lv_iload_n hx hb dL_law_504 rfl (lv_at hl 0 rfl) ?_
  refine lv_iconst (v := 4) hx hb dL_law_505 rfl ?_
  refine lv_iadd hx hb dL_law_506 (lv_topi (fun v24 e24 => ?_))
  have e24i : v24.toInt = z + 4 := i_add e24 ez (by decide) (by omega) (by omega)
  refine va_sld hx hb K.hX K.hbl K.hbA hS (i_in e24i (by omega) (by omega)) dL_law_507 ?_
  refine lv_aload_n hx hb dL_law_508 rfl (lv_at hl 3 rfl) ?_
  refine lv_iload_n hx hb dL_law_509 rfl (lv_at hl 0 rfl) ?_
  refine lv_iconst (v := 5) hx hb dL_law_510 rfl ?_
  refine lv_iadd hx hb dL_law_511 (lv_topi (fun v25 e25 => ?_))
  have e25i : v25.toInt = z + 5 := i_add e25 ez (by decide) (by omega) (by omega)
  refine va_sld hx hb K.hX K.hbl K.hbA hS (i_in e25i (by omega) (by omega)) dL_law_512 ?_
  refine r_goI (r_runV (As := [.int (xs v21.toNatClampNeg), .int (xs v22.toNatClampNeg), .int (xs v23.toNatClampNeg), .int (xs v24.toNatClampNeg), .int (xs v25.toNatClampNeg)]) (rest := []) E hC hS (m_X11_feed l X Γ H hC x1 K.g1 (xs v21.toNatClampNeg) (a1 := ((xs v21.toNatClampNeg) : Int32).toInt) rfl (xs v22.toNatClampNeg) (a2 := ((xs v22.toNatClampNeg) : Int32).toInt) rfl (xs v23.toNatClampNeg) (a3 := ((xs v23.toNatClampNeg) : Int32).toInt) rfl (xs v24.toNatClampNeg) (a4 := ((xs v24.toNatClampNeg) : Int32).toInt) rfl (xs v25.toNatClampNeg) (a5 := ((xs v25.toNatClampNeg) : Int32).toInt) rfl ra K.gra K.ur) lcw_X11_feed lcl_49 K.g1 ⟨rfl, rfl⟩ rfl hl.1 rfl (Nat.zero_le _) (by decide) (by decide) (by decide) (by decide) dL_law_513) hS (fun v26 H26 locs26 hp hC26 hS26 => ?_)
  obtain ⟨hp1, hp2a⟩ := hp
  have hMI : MI X H26 m1 ca := hMI.cl hC K.gca K.g2 hp1 rfl
  have hMR : mkI X H26 x1 = mmI X H26 m1 := (mk_kp hp1 K.g1 rfl).trans (hMR.trans (mm_kp hp1 K.g2 rfl).symm)
  have hF0 := hFR; have hB1 := tpd_kp hp1 K.g2 rfl; have hp9 := hp2a
  have hSd := hSH; have hSH : SHP X Γ H26 x1 ta td nd := hSH.kp K.g1 hp1 rfl
  have hTr0 := hTR; have hNr0 := hNR; have hTm : TMm tm ts H H26 := TMm.kp0 hp1 K.gtm K.gts rfl; have hNm : NSm (nM na H) (nM na H26) := nM_kp0 hp1 K.gna rfl
  have hTc : TSm X td H H26 := TSm.kp TSm.rf hp1 hSH rfl; have hTR := hTR.same hTc hTm
  have hNc : NSm (nC nd H) (nC nd H26) := nC_kp NSm.rf hp1 hSH rfl; have hNR := hNR.same hTc hNc hNm
  have hpa := hp2a; have hCA := hC
  have hC := hC26; have hS := hS26
  refine lv_pop hx hb dL_law_516 rfl ?_
  refine lv_aload_n hx hb dL_law_517 rfl (lv_at hl 1 rfl) ?_
  refine lv_aload_n hx hb dL_law_518 rfl (lv_at hl 3 rfl) ?_
  refine lv_iload_n hx hb dL_law_519 rfl (lv_at hl 0 rfl) ?_
  refine lv_iconst (v := 1) hx hb dL_law_520 rfl ?_
  refine lv_iadd hx hb dL_law_521 (lv_topi (fun v27 e27 => ?_))
  have e27i : v27.toInt = z + 1 := i_add e27 ez (by decide) (by omega) (by omega)
  have hq27 : v27 = v21 := e27.trans e21.symm
  refine va_sld hx hb K.hX K.hbl K.hbA hS (i_in e27i (by omega) (by omega)) dL_law_522 ?_
  rw [hq27]
  refine lv_aload_n hx hb dL_law_523 rfl (lv_at hl 3 rfl) ?_
  refine lv_iload_n hx hb dL_law_524 rfl (lv_at hl 0 rfl) ?_
  refine lv_iconst (v := 2) hx hb dL_law_525 rfl ?_
  refine lv_iadd hx hb dL_law_526 (lv_topi (fun v28 e28 => ?_))
  have e28i : v28.toInt = z + 2 := i_add e28 ez (by decide) (by omega) (by omega)
  have hq28 : v28 = v22 := e28.trans e22.symm
  refine va_sld hx hb K.hX K.hbl K.hbA hS (i_in e28i (by omega) (by omega)) dL_law_527 ?_
  rw [hq28]
  refine lv_aload_n hx hb dL_law_528 rfl (lv_at hl 3 rfl) ?_
  refine lv_iload_n hx hb dL_law_529 rfl (lv_at hl 0 rfl) ?_
  refine lv_iconst (v := 3) hx hb dL_law_530 rfl ?_
  refine lv_iadd hx hb dL_law_531 (lv_topi (fun v29 e29 => ?_))
  have e29i : v29.toInt = z + 3 := i_add e29 ez (by decide) (by omega) (by omega)
  have hq29 : v29 = v23 := e29.trans e23.symm
  refine va_sld hx hb K.hX K.hbl K.hbA hS (i_in e29i (by omega) (by omega)) dL_law_532 ?_
  rw [hq29]
  refine lv_aload_n hx hb dL_law_533 rfl (lv_at hl 3 rfl) ?_
  refine lv_iload_n hx hb dL_law_534 rfl (lv_at hl 0 rfl) ?_
  refine lv_iconst (v := 4) hx hb dL_law_535 rfl ?_
  refine lv_iadd hx hb dL_law_536 (lv_topi (fun v30 e30 => ?_))
  have e30i : v30.toInt = z + 4 := i_add e30 ez (by decide) (by omega) (by omega)
  have hq30 : v30 = v24 := e30.trans e24.symm
  refine va_sld hx hb K.hX K.hbl K.hbA hS (i_in e30i (by omega) (by omega)) dL_law_537 ?_
  rw [hq30]
  refine lv_aload_n hx hb dL_law_538 rfl (lv_at hl 3 rfl) ?_
  refine lv_iload_n hx hb dL_law_539 rfl (lv_at hl 0 rfl) ?_
  refine lv_iconst (v := 5) hx hb dL_law_540 rfl ?_
  refine lv_iadd hx hb dL_law_541 (lv_topi (fun v31 e31 => ?_))
  have e31i : v31.toInt = z + 5 := i_add e31 ez (by decide) (by omega) (by omega)
  have hq31 : v31 = v25 := e31.trans e25.symm
  refine va_sld hx hb K.hX K.hbl K.hbA hS (i_in e31i (by omega) (by omega)) dL_law_542 ?_
  rw [hq31]
  refine r_goI (r_runV (As := [.int (xs v21.toNatClampNeg), .int (xs v22.toNatClampNeg), .int (xs v23.toNatClampNeg), .int (xs v24.toNatClampNeg), .int (xs v25.toNatClampNeg)]) (rest := []) E hC hS (m_X12_feed l X Γ H26 hC m1 K.g2 (xs v21.toNatClampNeg) (a1 := ((xs v21.toNatClampNeg) : Int32).toInt) rfl (xs v22.toNatClampNeg) (a2 := ((xs v22.toNatClampNeg) : Int32).toInt) rfl (xs v23.toNatClampNeg) (a3 := ((xs v23.toNatClampNeg) : Int32).toInt) rfl (xs v24.toNatClampNeg) (a4 := ((xs v24.toNatClampNeg) : Int32).toInt) rfl (xs v25.toNatClampNeg) (a5 := ((xs v25.toNatClampNeg) : Int32).toInt) rfl ca K.gca K.uc) lcw_X12_feed lcl_53 K.g2 ⟨rfl, rfl⟩ rfl hl.1 rfl (Nat.zero_le _) (by decide) (by decide) (by decide) (by decide) dL_law_543) hS (fun v32 H32 locs32 hp hC32 hS32 => ?_)
  obtain ⟨hp1, hp2b⟩ := hp
  have hMI : MI X H32 m1 ca := hMI.kp hC K.gca K.g2 hp1 rfl rfl rfl
  have hMR : mkI X H32 x1 = mmI X H32 m1 := (mk_kp hp1 K.g1 rfl).trans (hMR.trans (mm_kp hp1 K.g2 rfl).symm)
  have hB2 := fl_kp hp1 K.gra rfl; have hp8 := hp2b
  have hFR : flI X H32 ra = tpdI X H32 m1 := by simp only [flI, tpdI] at hF0 hB1 hB2 ⊢; omega
  have hSd := hSH; have hSH : SHP X Γ H32 x1 ta td nd := hSH.kpM K.g1 hp1 rfl
  have hTc2 : TSm X td H26 H32 := TSm.kp1 hp1 hSH rfl; have hNc2 : NSm (nC nd H26) (nC nd H32) := nC_kp1 hp1 hSH rfl
  have hTrm := hTR; have hTm2 : TMm tm ts H26 H32 := TMm.kp TMm.rf hp1 K.gtm K.gts rfl; have hTR := hTR.same hTc2 hTm2
  have hpb := hp2b
  have hNm2 : NSm (nM na H26) (nM na H32) := nM_kp NSm.rf hp1 K.gna rfl; have hNrm := hNR; have hNR := hNR.same hTc2 hNc2 hNm2
  have hC := hC32; have hS := hS32
  refine lv_pop hx hb dL_law_546 rfl ?_
  refine lv_goto (tgt := 1667) hx hb dL_law_547 rfl ?_
  exact hk _ _ hC hS hMI hMR hFR hSH hTR hNR
set_option maxRecDepth 100000 in
set_option maxHeartbeats 4000000 in
theorem law_8 (l : Launch) {p : Program} {e : Env} {s : State} {m : MethodId} {below : List Frame} {meth : Method} {c : Code} {X : xW} {Γ : Nat → Option Nat} {b L : Nat} {xs : Nat → Int32} {x1 m1 ca ka oa ra ta tm ts na : Nat} {td nd : Nat → Nat} (K : LK p s m meth c X Γ b L xs x1 m1 ca ka oa ra tm ts na) {H : Heap} {locs : List Loc} {ls : Array Slot} {Q : State → Prop} {i : Int32} {z : Int} (ez : i.toInt = z) (h0z : 0 ≤ z) (hzL : z + 6 ≤ L) (hC : Conf X Γ H) (hS : va_S (AΓ Γ) s.heap H locs) (hMI : MI X H m1 ca) (hMR : mkI X H x1 = mmI X H m1) (hFR : flI X H ra = tpdI X H m1) (hSH : SHP X Γ H x1 ta td nd) (hTR : TRl X td tm ts H) (hNR : NRl X td nd na H) (hl : lv_has ls 4 [(3, .int i), (2, .ref m1), (1, .ref x1), (0, .ref b)]) (hk : ∀ (H1 : Heap) (locs1 : List Loc), Conf X Γ H1 → va_S (AΓ Γ) s.heap H1 locs1 → MI X H1 m1 ca → mkI X H1 x1 = mmI X H1 m1 → flI X H1 ra = tpdI X H1 m1 → SHP X Γ H1 x1 ta td nd → TRl X td tm ts H1 → NRl X td nd na H1 → W p l e room_1 s m #[Value.ref b] below meth c H1 locs1 147 13128 Q (F0 m 1667 ls [])) : W p l e room_1 s m #[Value.ref b] below meth c H locs 147 13128 Q (F0 m 550 ls []) := by
  have E := K.E; have hx := E.1; have hb := E.2.1; have hLl := K.hL
  refine lv_aload_n hx hb dL_law_550 rfl (lv_at hl 2 rfl) ?_
  refine lv_aload_n hx hb dL_law_551 rfl (lv_at hl 3 rfl) ?_
  refine lv_iload_n hx hb dL_law_552 rfl (lv_at hl 0 rfl) ?_
  refine lv_iconst (v := 1) hx hb dL_law_553 rfl ?_
  refine lv_iadd hx hb dL_law_554 (lv_topi (fun v21 e21 => ?_))
  have e21i : v21.toInt = z + 1 := i_add e21 ez (by decide) (by omega) (by omega)
  refine va_sld hx hb K.hX K.hbl K.hbA hS (i_in e21i (by omega) (by omega)) dL_law_555 ?_
  refine r_goI (r_runV (As := [.int (xs v21.toNatClampNeg)]) (rest := []) E hC hS (m_X11_yard l X Γ H hC x1 K.g1 (xs v21.toNatClampNeg) (a1 := ((xs v21.toNatClampNeg) : Int32).toInt) rfl ra K.gra K.ur) lcw_X11_yard lcl_54 K.g1 ⟨rfl, rfl⟩ rfl hl.1 rfl (Nat.zero_le _) (by decide) (by decide) (by decide) (by decide) dL_law_556) hS (fun v22 H22 locs22 hp hC22 hS22 => ?_)
  obtain ⟨hp1, hp2a⟩ := hp
  have hMI : MI X H22 m1 ca := hMI.cl hC K.gca K.g2 hp1 rfl
  have hMR : mkI X H22 x1 = mmI X H22 m1 := (mk_kp hp1 K.g1 rfl).trans (hMR.trans (mm_kp hp1 K.g2 rfl).symm)
  have hF0 := hFR; have hB1 := tpd_kp hp1 K.g2 rfl; have hp9 := hp2a
  have hSd := hSH; have hSH : SHP X Γ H22 x1 ta td nd := hSH.kp K.g1 hp1 rfl
  have hTr0 := hTR; have hNr0 := hNR; have hTm : TMm tm ts H H22 := TMm.kp0 hp1 K.gtm K.gts rfl; have hNm : NSm (nM na H) (nM na H22) := nM_kp0 hp1 K.gna rfl
  have hTc : TSm X td H H22 := TSm.kp TSm.rf hp1 hSH rfl; have hTR := hTR.same hTc hTm
  have hNc : NSm (nC nd H) (nC nd H22) := nC_kp NSm.rf hp1 hSH rfl; have hNR := hNR.same hTc hNc hNm
  have hpa := hp2a; have hCA := hC
  have hC := hC22; have hS := hS22
  refine lv_pop hx hb dL_law_559 rfl ?_
  refine lv_aload_n hx hb dL_law_560 rfl (lv_at hl 1 rfl) ?_
  refine lv_aload_n hx hb dL_law_561 rfl (lv_at hl 3 rfl) ?_
  refine lv_iload_n hx hb dL_law_562 rfl (lv_at hl 0 rfl) ?_
  refine lv_iconst (v := 1) hx hb dL_law_563 rfl ?_
  refine lv_iadd hx hb dL_law_564 (lv_topi (fun v23 e23 => ?_))
  have e23i : v23.toInt = z + 1 := i_add e23 ez (by decide) (by omega) (by omega)
  have hq23 : v23 = v21 := e23.trans e21.symm
  refine va_sld hx hb K.hX K.hbl K.hbA hS (i_in e23i (by omega) (by omega)) dL_law_565 ?_
  rw [hq23]
  refine r_goI (r_runV (As := [.int (xs v21.toNatClampNeg)]) (rest := []) E hC hS (m_X12_yard l X Γ H22 hC m1 K.g2 (xs v21.toNatClampNeg) (a1 := ((xs v21.toNatClampNeg) : Int32).toInt) rfl ca K.gca K.uc) lcw_X12_yard lcl_58 K.g2 ⟨rfl, rfl⟩ rfl hl.1 rfl (Nat.zero_le _) (by decide) (by decide) (by decide) (by decide) dL_law_566) hS (fun v24 H24 locs24 hp hC24 hS24 => ?_)
  obtain ⟨hp1, hp2b⟩ := hp
  have hMI : MI X H24 m1 ca := hMI.yard hC K.gca hp2b.1 (mm_kp hp1 K.g2 rfl)
  have hMR : mkI X H24 x1 = mmI X H24 m1 := (mk_kp hp1 K.g1 rfl).trans (hMR.trans (mm_kp hp1 K.g2 rfl).symm)
  have hB2 := fl_kp hp1 K.gra rfl; have hp8 := hp2b.2
  have hFR : flI X H24 ra = tpdI X H24 m1 := by simp only [flI, tpdI] at hF0 hB1 hB2 ⊢; omega
  have hSd := hSH; have hSH : SHP X Γ H24 x1 ta td nd := hSH.kpM K.g1 hp1 rfl
  have hTc2 : TSm X td H22 H24 := TSm.kp1 hp1 hSH rfl; have hNc2 : NSm (nC nd H22) (nC nd H24) := nC_kp1 hp1 hSH rfl
  have hTrm := hTR; have hTm2 : TMm tm ts H22 H24 := TMm.kp TMm.rf hp1 K.gtm K.gts rfl; have hTR := hTR.same hTc2 hTm2
  have hpb := hp2b
  have hNm2 : NSm (nM na H22) (nM na H24) := nM_kp NSm.rf hp1 K.gna rfl; have hNrm := hNR; have hNR := hNR.same hTc2 hNc2 hNm2
  have hC := hC24; have hS := hS24
  refine lv_pop hx hb dL_law_569 rfl ?_
  refine lv_goto (tgt := 1667) hx hb dL_law_570 rfl ?_
  exact hk _ _ hC hS hMI hMR hFR hSH hTR hNR
set_option maxRecDepth 100000 in
set_option maxHeartbeats 4000000 in
theorem law_9 (l : Launch) {p : Program} {e : Env} {s : State} {m : MethodId} {below : List Frame} {meth : Method} {c : Code} {X : xW} {Γ : Nat → Option Nat} {b L : Nat} {xs : Nat → Int32} {x1 m1 ca ka oa ra ta tm ts na : Nat} {td nd : Nat → Nat} (K : LK p s m meth c X Γ b L xs x1 m1 ca ka oa ra tm ts na) {H : Heap} {locs : List Loc} {ls : Array Slot} {Q : State → Prop} {i : Int32} {z : Int} (ez : i.toInt = z) (h0z : 0 ≤ z) (hzL : z + 6 ≤ L) (hC : Conf X Γ H) (hS : va_S (AΓ Γ) s.heap H locs) (hMI : MI X H m1 ca) (hMR : mkI X H x1 = mmI X H m1) (hFR : flI X H ra = tpdI X H m1) (hSH : SHP X Γ H x1 ta td nd) (hTR : TRl X td tm ts H) (hNR : NRl X td nd na H) (hl : lv_has ls 4 [(3, .int i), (2, .ref m1), (1, .ref x1), (0, .ref b)]) (hk : ∀ (H1 : Heap) (locs1 : List Loc), Conf X Γ H1 → va_S (AΓ Γ) s.heap H1 locs1 → MI X H1 m1 ca → mkI X H1 x1 = mmI X H1 m1 → flI X H1 ra = tpdI X H1 m1 → SHP X Γ H1 x1 ta td nd → TRl X td tm ts H1 → NRl X td nd na H1 → W p l e room_1 s m #[Value.ref b] below meth c H1 locs1 147 13128 Q (F0 m 1667 ls [])) : W p l e room_1 s m #[Value.ref b] below meth c H locs 147 13128 Q (F0 m 573 ls []) := by
  have E := K.E; have hx := E.1; have hb := E.2.1; have hLl := K.hL
  refine lv_aload_n hx hb dL_law_573 rfl (lv_at hl 2 rfl) ?_
  refine lv_aload_n hx hb dL_law_574 rfl (lv_at hl 3 rfl) ?_
  refine lv_iload_n hx hb dL_law_575 rfl (lv_at hl 0 rfl) ?_
  refine lv_iconst (v := 1) hx hb dL_law_576 rfl ?_
  refine lv_iadd hx hb dL_law_577 (lv_topi (fun v21 e21 => ?_))
  have e21i : v21.toInt = z + 1 := i_add e21 ez (by decide) (by omega) (by omega)
  refine va_sld hx hb K.hX K.hbl K.hbA hS (i_in e21i (by omega) (by omega)) dL_law_578 ?_
  refine r_goI (r_runV (As := [.int (xs v21.toNatClampNeg)]) (rest := []) E hC hS (m_X11_orders l X Γ H hC x1 K.g1 (xs v21.toNatClampNeg) (a1 := ((xs v21.toNatClampNeg) : Int32).toInt) rfl ra K.gra K.ur) lcw_X11_orders lcl_59 K.g1 ⟨rfl, rfl⟩ rfl hl.1 rfl (Nat.zero_le _) (by decide) (by decide) (by decide) (by decide) dL_law_579) hS (fun v22 H22 locs22 hp hC22 hS22 => ?_)
  obtain ⟨hp1, hp2a⟩ := hp
  have hMI : MI X H22 m1 ca := hMI.cl hC K.gca K.g2 hp1 rfl
  have hMR : mkI X H22 x1 = mmI X H22 m1 := (mk_kp hp1 K.g1 rfl).trans (hMR.trans (mm_kp hp1 K.g2 rfl).symm)
  have hF0 := hFR; have hB1 := tpd_kp hp1 K.g2 rfl; have hp9 := hp2a
  have hSd := hSH; have hSH : SHP X Γ H22 x1 ta td nd := hSH.kp K.g1 hp1 rfl
  have hTr0 := hTR; have hNr0 := hNR; have hTm : TMm tm ts H H22 := TMm.kp0 hp1 K.gtm K.gts rfl; have hNm : NSm (nM na H) (nM na H22) := nM_kp0 hp1 K.gna rfl
  have hTc : TSm X td H H22 := TSm.kp TSm.rf hp1 hSH rfl; have hTR := hTR.same hTc hTm
  have hNc : NSm (nC nd H) (nC nd H22) := nC_kp NSm.rf hp1 hSH rfl; have hNR := hNR.same hTc hNc hNm
  have hpa := hp2a; have hCA := hC
  have hC := hC22; have hS := hS22
  refine lv_pop hx hb dL_law_582 rfl ?_
  refine lv_aload_n hx hb dL_law_583 rfl (lv_at hl 1 rfl) ?_
  refine lv_aload_n hx hb dL_law_584 rfl (lv_at hl 3 rfl) ?_
  refine lv_iload_n hx hb dL_law_585 rfl (lv_at hl 0 rfl) ?_
  refine lv_iconst (v := 1) hx hb dL_law_586 rfl ?_
  refine lv_iadd hx hb dL_law_587 (lv_topi (fun v23 e23 => ?_))
  have e23i : v23.toInt = z + 1 := i_add e23 ez (by decide) (by omega) (by omega)
  have hq23 : v23 = v21 := e23.trans e21.symm
  refine va_sld hx hb K.hX K.hbl K.hbA hS (i_in e23i (by omega) (by omega)) dL_law_588 ?_
  rw [hq23]
  refine r_goI (r_runV (As := [.int (xs v21.toNatClampNeg)]) (rest := []) E hC hS (m_X12_orders l X Γ H22 hC m1 K.g2 (xs v21.toNatClampNeg) (a1 := ((xs v21.toNatClampNeg) : Int32).toInt) rfl ca K.gca K.uc) lcw_X12_orders lcl_62 K.g2 ⟨rfl, rfl⟩ rfl hl.1 rfl (Nat.zero_le _) (by decide) (by decide) (by decide) (by decide) dL_law_589) hS (fun v24 H24 locs24 hp hC24 hS24 => ?_)
  obtain ⟨hp1, hp2b⟩ := hp
  have hMI : MI X H24 m1 ca := hMI.orders hC K.gca hp2b.1 (mm_kp hp1 K.g2 rfl)
  have hMR : mkI X H24 x1 = mmI X H24 m1 := (mk_kp hp1 K.g1 rfl).trans (hMR.trans (mm_kp hp1 K.g2 rfl).symm)
  have hB2 := fl_kp hp1 K.gra rfl; have hp8 := hp2b.2
  have hFR : flI X H24 ra = tpdI X H24 m1 := by simp only [flI, tpdI] at hF0 hB1 hB2 ⊢; omega
  have hSd := hSH; have hSH : SHP X Γ H24 x1 ta td nd := hSH.kpM K.g1 hp1 rfl
  have hTc2 : TSm X td H22 H24 := TSm.kp1 hp1 hSH rfl; have hNc2 : NSm (nC nd H22) (nC nd H24) := nC_kp1 hp1 hSH rfl
  have hTrm := hTR; have hTm2 : TMm tm ts H22 H24 := TMm.kp TMm.rf hp1 K.gtm K.gts rfl; have hTR := hTR.same hTc2 hTm2
  have hpb := hp2b
  have hNm2 : NSm (nM na H22) (nM na H24) := nM_kp NSm.rf hp1 K.gna rfl; have hNrm := hNR; have hNR := hNR.same hTc2 hNc2 hNm2
  have hC := hC24; have hS := hS24
  refine lv_pop hx hb dL_law_592 rfl ?_
  refine lv_goto (tgt := 1667) hx hb dL_law_593 rfl ?_
  exact hk _ _ hC hS hMI hMR hFR hSH hTR hNR
set_option maxRecDepth 100000 in
set_option maxHeartbeats 4000000 in
theorem law_10 (l : Launch) {p : Program} {e : Env} {s : State} {m : MethodId} {below : List Frame} {meth : Method} {c : Code} {X : xW} {Γ : Nat → Option Nat} {b L : Nat} {xs : Nat → Int32} {x1 m1 ca ka oa ra ta tm ts na : Nat} {td nd : Nat → Nat} (K : LK p s m meth c X Γ b L xs x1 m1 ca ka oa ra tm ts na) {H : Heap} {locs : List Loc} {ls : Array Slot} {Q : State → Prop} {i : Int32} {z : Int} (ez : i.toInt = z) (h0z : 0 ≤ z) (hzL : z + 6 ≤ L) (hC : Conf X Γ H) (hS : va_S (AΓ Γ) s.heap H locs) (hMI : MI X H m1 ca) (hMR : mkI X H x1 = mmI X H m1) (hFR : flI X H ra = tpdI X H m1) (hSH : SHP X Γ H x1 ta td nd) (hTR : TRl X td tm ts H) (hNR : NRl X td nd na H) (hl : lv_has ls 4 [(3, .int i), (2, .ref m1), (1, .ref x1), (0, .ref b)]) (hk : ∀ (H1 : Heap) (locs1 : List Loc), Conf X Γ H1 → va_S (AΓ Γ) s.heap H1 locs1 → MI X H1 m1 ca → mkI X H1 x1 = mmI X H1 m1 → flI X H1 ra = tpdI X H1 m1 → SHP X Γ H1 x1 ta td nd → TRl X td tm ts H1 → NRl X td nd na H1 → W p l e room_1 s m #[Value.ref b] below meth c H1 locs1 147 13128 Q (F0 m 1667 ls [])) : W p l e room_1 s m #[Value.ref b] below meth c H locs 147 13128 Q (F0 m 596 ls []) := by
  have E := K.E; have hx := E.1; have hb := E.2.1; have hLl := K.hL
  refine lv_aload_n hx hb dL_law_596 rfl (lv_at hl 2 rfl) ?_
  refine lv_aload_n hx hb dL_law_597 rfl (lv_at hl 3 rfl) ?_
  refine lv_iload_n hx hb dL_law_598 rfl (lv_at hl 0 rfl) ?_
  refine lv_iconst (v := 1) hx hb dL_law_599 rfl ?_
  refine lv_iadd hx hb dL_law_600 (lv_topi (fun v21 e21 => ?_))
  have e21i : v21.toInt = z + 1 := i_add e21 ez (by decide) (by omega) (by omega)
  refine va_sld hx hb K.hX K.hbl K.hbA hS (i_in e21i (by omega) (by omega)) dL_law_601 ?_
  refine r_goI (r_runV (As := [.int (xs v21.toNatClampNeg)]) (rest := []) E hC hS (m_X11_fault l X Γ H hC x1 K.g1 (xs v21.toNatClampNeg) (a1 := ((xs v21.toNatClampNeg) : Int32).toInt) rfl) lcw_X11_fault lcl_63 K.g1 ⟨rfl, rfl⟩ rfl hl.1 rfl (Nat.zero_le _) (by decide) (by decide) (by decide) (by decide) dL_law_602) hS (fun v22 H22 locs22 hp hC22 hS22 => ?_)
  obtain ⟨hp1, hp2a⟩ := hp
  have hMI : MI X H22 m1 ca := by rw [hp1]; exact hMI
  have hMR : mkI X H22 x1 = mmI X H22 m1 := by rw [hp1]; exact hMR
  have hFR : flI X H22 ra = tpdI X H22 m1 := by rw [hp1]; exact hFR
  have hSH : SHP X Γ H22 x1 ta td nd := by rw [hp1]; exact hSH
  have hTR : TRl X td tm ts H22 := by rw [hp1]; exact hTR
  have hNR : NRl X td nd na H22 := by rw [hp1]; exact hNR
  have hC := hC22; have hS := hS22
  refine lv_pop hx hb dL_law_605 rfl ?_
  refine lv_aload_n hx hb dL_law_606 rfl (lv_at hl 1 rfl) ?_
  refine lv_aload_n hx hb dL_law_607 rfl (lv_at hl 3 rfl) ?_
  refine lv_iload_n hx hb dL_law_608 rfl (lv_at hl 0 rfl) ?_
  refine lv_iconst (v := 1) hx hb dL_law_609 rfl ?_
  refine lv_iadd hx hb dL_law_610 (lv_topi (fun v23 e23 => ?_))
  have e23i : v23.toInt = z + 1 := i_add e23 ez (by decide) (by omega) (by omega)
  have hq23 : v23 = v21 := e23.trans e21.symm
  refine va_sld hx hb K.hX K.hbl K.hbA hS (i_in e23i (by omega) (by omega)) dL_law_611 ?_
  rw [hq23]
  refine r_goI (r_runV (As := [.int (xs v21.toNatClampNeg)]) (rest := []) E hC hS (m_X12_fault l X Γ H22 hC m1 K.g2 (xs v21.toNatClampNeg) (a1 := ((xs v21.toNatClampNeg) : Int32).toInt) rfl ca K.gca K.uc) lcw_X12_fault lcl_66 K.g2 ⟨rfl, rfl⟩ rfl hl.1 rfl (Nat.zero_le _) (by decide) (by decide) (by decide) (by decide) dL_law_612) hS (fun v24 H24 locs24 hp hC24 hS24 => ?_)
  obtain ⟨hp1, hp2b⟩ := hp
  have hMI : MI X H24 m1 ca := hMI.kp hC K.gca K.g2 hp1 rfl rfl rfl
  have hMR : mkI X H24 x1 = mmI X H24 m1 := (mk_kp hp1 K.g1 rfl).trans (hMR.trans (mm_kp hp1 K.g2 rfl).symm)
  have hFR : flI X H24 ra = tpdI X H24 m1 := (fl_kp hp1 K.gra rfl).trans (hFR.trans (tpd_kp hp1 K.g2 rfl).symm)
  have hSd := hSH; have hSH : SHP X Γ H24 x1 ta td nd := hSH.kpM K.g1 hp1 rfl
  have hTc2 : TSm X td H22 H24 := TSm.kp1 hp1 hSH rfl; have hNc2 : NSm (nC nd H22) (nC nd H24) := nC_kp1 hp1 hSH rfl
  have hTrm := hTR; have hTm2 : TMm tm ts H22 H24 := TMm.kp TMm.rf hp1 K.gtm K.gts rfl; have hTR := hTR.same hTc2 hTm2
  have hpb := hp2b
  have hNm2 : NSm (nM na H22) (nM na H24) := nM_kp NSm.rf hp1 K.gna rfl; have hNrm := hNR; have hNR := hNR.same hTc2 hNc2 hNm2
  have hC := hC24; have hS := hS24
  refine lv_pop hx hb dL_law_615 rfl ?_
  refine lv_goto (tgt := 1667) hx hb dL_law_616 rfl ?_
  exact hk _ _ hC hS hMI hMR hFR hSH hTR hNR
set_option maxRecDepth 100000 in
set_option maxHeartbeats 4000000 in
theorem law_11 (l : Launch) {p : Program} {e : Env} {s : State} {m : MethodId} {below : List Frame} {meth : Method} {c : Code} {X : xW} {Γ : Nat → Option Nat} {b L : Nat} {xs : Nat → Int32} {x1 m1 ca ka oa ra ta tm ts na : Nat} {td nd : Nat → Nat} (K : LK p s m meth c X Γ b L xs x1 m1 ca ka oa ra tm ts na) {H : Heap} {locs : List Loc} {ls : Array Slot} {Q : State → Prop} {i : Int32} {z : Int} (ez : i.toInt = z) (h0z : 0 ≤ z) (hzL : z + 6 ≤ L) (hC : Conf X Γ H) (hS : va_S (AΓ Γ) s.heap H locs) (hMI : MI X H m1 ca) (hMR : mkI X H x1 = mmI X H m1) (hFR : flI X H ra = tpdI X H m1) (hSH : SHP X Γ H x1 ta td nd) (hTR : TRl X td tm ts H) (hNR : NRl X td nd na H) (hl : lv_has ls 4 [(3, .int i), (2, .ref m1), (1, .ref x1), (0, .ref b)]) (hk : ∀ (H1 : Heap) (locs1 : List Loc), Conf X Γ H1 → va_S (AΓ Γ) s.heap H1 locs1 → MI X H1 m1 ca → mkI X H1 x1 = mmI X H1 m1 → flI X H1 ra = tpdI X H1 m1 → SHP X Γ H1 x1 ta td nd → TRl X td tm ts H1 → NRl X td nd na H1 → W p l e room_1 s m #[Value.ref b] below meth c H1 locs1 147 13128 Q (F0 m 1667 ls [])) : W p l e room_1 s m #[Value.ref b] below meth c H locs 147 13128 Q (F0 m 619 ls []) := by
  have E := K.E; have hx := E.1; have hb := E.2.1; have hLl := K.hL
  refine lv_aload_n hx hb dL_law_619 rfl (lv_at hl 2 rfl) ?_
  refine lv_aload_n hx hb dL_law_620 rfl (lv_at hl 3 rfl) ?_
  refine lv_iload_n hx hb dL_law_621 rfl (lv_at hl 0 rfl) ?_
  refine lv_iconst (v := 1) hx hb dL_law_622 rfl ?_
  refine lv_iadd hx hb dL_law_623 (lv_topi (fun v21 e21 => ?_))
  have e21i : v21.toInt = z + 1 := i_add e21 ez (by decide) (by omega) (by omega)
  refine va_sld hx hb K.hX K.hbl K.hbA hS (i_in e21i (by omega) (by omega)) dL_law_624 ?_
  refine r_goI (r_runV (As := [.int (xs v21.toNatClampNeg)]) (rest := []) E hC hS (m_X11_many l X Γ H hC x1 K.g1 (xs v21.toNatClampNeg) (a1 := ((xs v21.toNatClampNeg) : Int32).toInt) rfl) lcw_X11_many lcl_67 K.g1 ⟨rfl, rfl⟩ rfl hl.1 rfl (Nat.zero_le _) (by decide) (by decide) (by decide) (by decide) dL_law_625) hS (fun v22 H22 locs22 hp hC22 hS22 => ?_)
  obtain ⟨hp1, hp2a⟩ := hp
  have hMI : MI X H22 m1 ca := hMI.cl hC K.gca K.g2 hp1 rfl
  have hMR : mkI X H22 x1 = mmI X H22 m1 := (mk_kp hp1 K.g1 rfl).trans (hMR.trans (mm_kp hp1 K.g2 rfl).symm)
  have hFR : flI X H22 ra = tpdI X H22 m1 := (fl_kp hp1 K.gra rfl).trans (hFR.trans (tpd_kp hp1 K.g2 rfl).symm)
  have hSd := hSH; have hSH : SHP X Γ H22 x1 ta td nd := hSH.kp K.g1 hp1 rfl
  have hTr0 := hTR; have hNr0 := hNR; have hTm : TMm tm ts H H22 := TMm.kp0 hp1 K.gtm K.gts rfl; have hNm : NSm (nM na H) (nM na H22) := nM_kp0 hp1 K.gna rfl
  have hTc : TSm X td H H22 := TSm.kp TSm.rf hp1 hSH rfl; have hTR := hTR.same hTc hTm
  have hNc : NSm (nC nd H) (nC nd H22) := nC_kp NSm.rf hp1 hSH rfl; have hNR := hNR.same hTc hNc hNm
  have hpa := hp2a; have hCA := hC
  have hC := hC22; have hS := hS22
  refine lv_pop hx hb dL_law_628 rfl ?_
  refine lv_aload_n hx hb dL_law_629 rfl (lv_at hl 1 rfl) ?_
  refine lv_aload_n hx hb dL_law_630 rfl (lv_at hl 3 rfl) ?_
  refine lv_iload_n hx hb dL_law_631 rfl (lv_at hl 0 rfl) ?_
  refine lv_iconst (v := 1) hx hb dL_law_632 rfl ?_
  refine lv_iadd hx hb dL_law_633 (lv_topi (fun v23 e23 => ?_))
  have e23i : v23.toInt = z + 1 := i_add e23 ez (by decide) (by omega) (by omega)
  have hq23 : v23 = v21 := e23.trans e21.symm
  refine va_sld hx hb K.hX K.hbl K.hbA hS (i_in e23i (by omega) (by omega)) dL_law_634 ?_
  rw [hq23]
  refine r_goI (r_runV (As := [.int (xs v21.toNatClampNeg)]) (rest := []) E hC hS (m_X12_many l X Γ H22 hC m1 K.g2 (xs v21.toNatClampNeg) (a1 := ((xs v21.toNatClampNeg) : Int32).toInt) rfl ca K.gca K.uc) lcw_X12_many lcl_70 K.g2 ⟨rfl, rfl⟩ rfl hl.1 rfl (Nat.zero_le _) (by decide) (by decide) (by decide) (by decide) dL_law_635) hS (fun v24 H24 locs24 hp hC24 hS24 => ?_)
  obtain ⟨hp1, hp2b⟩ := hp
  have hMI : MI X H24 m1 ca := hMI.kp hC K.gca K.g2 hp1 rfl rfl rfl
  have hMR : mkI X H24 x1 = mmI X H24 m1 := (mk_kp hp1 K.g1 rfl).trans (hMR.trans (mm_kp hp1 K.g2 rfl).symm)
  have hFR : flI X H24 ra = tpdI X H24 m1 := (fl_kp hp1 K.gra rfl).trans (hFR.trans (tpd_kp hp1 K.g2 rfl).symm)
  have hSd := hSH; have hSH : SHP X Γ H24 x1 ta td nd := hSH.kpM K.g1 hp1 rfl
  have hTc2 : TSm X td H22 H24 := TSm.kp1 hp1 hSH rfl; have hNc2 : NSm (nC nd H22) (nC nd H24) := nC_kp1 hp1 hSH rfl
  have hTrm := hTR; have hTm2 : TMm tm ts H22 H24 := TMm.kp TMm.rf hp1 K.gtm K.gts rfl; have hTR := hTR.same hTc2 hTm2
  have hpb := hp2b
  have hNm2 : NSm (nM na H22) (nM na H24) := nM_kp NSm.rf hp1 K.gna rfl; have hNrm := hNR; have hNR := hNR.same hTc2 hNc2 hNm2
  have hC := hC24; have hS := hS24
  refine lv_pop hx hb dL_law_638 rfl ?_
  refine lv_goto (tgt := 1667) hx hb dL_law_639 rfl ?_
  exact hk _ _ hC hS hMI hMR hFR hSH hTR hNR
set_option maxRecDepth 100000 in
set_option maxHeartbeats 4000000 in
theorem law_12 (l : Launch) {p : Program} {e : Env} {s : State} {m : MethodId} {below : List Frame} {meth : Method} {c : Code} {X : xW} {Γ : Nat → Option Nat} {b L : Nat} {xs : Nat → Int32} {x1 m1 ca ka oa ra ta tm ts na : Nat} {td nd : Nat → Nat} (K : LK p s m meth c X Γ b L xs x1 m1 ca ka oa ra tm ts na) {H : Heap} {locs : List Loc} {ls : Array Slot} {Q : State → Prop} {i : Int32} {z : Int} (ez : i.toInt = z) (h0z : 0 ≤ z) (hzL : z + 6 ≤ L) (hC : Conf X Γ H) (hS : va_S (AΓ Γ) s.heap H locs) (hMI : MI X H m1 ca) (hMR : mkI X H x1 = mmI X H m1) (hFR : flI X H ra = tpdI X H m1) (hSH : SHP X Γ H x1 ta td nd) (hTR : TRl X td tm ts H) (hNR : NRl X td nd na H) (hl : lv_has ls 4 [(3, .int i), (2, .ref m1), (1, .ref x1), (0, .ref b)]) (hk : ∀ (H1 : Heap) (locs1 : List Loc), Conf X Γ H1 → va_S (AΓ Γ) s.heap H1 locs1 → MI X H1 m1 ca → mkI X H1 x1 = mmI X H1 m1 → flI X H1 ra = tpdI X H1 m1 → SHP X Γ H1 x1 ta td nd → TRl X td tm ts H1 → NRl X td nd na H1 → W p l e room_1 s m #[Value.ref b] below meth c H1 locs1 147 13128 Q (F0 m 1667 ls [])) : W p l e room_1 s m #[Value.ref b] below meth c H locs 147 13128 Q (F0 m 642 ls []) := by
  have E := K.E; have hx := E.1; have hb := E.2.1; have hLl := K.hL
  refine lv_aload_n hx hb dL_law_642 rfl (lv_at hl 2 rfl) ?_
  refine lv_aload_n hx hb dL_law_643 rfl (lv_at hl 3 rfl) ?_
  refine lv_iload_n hx hb dL_law_644 rfl (lv_at hl 0 rfl) ?_
  refine lv_iconst (v := 1) hx hb dL_law_645 rfl ?_
  refine lv_iadd hx hb dL_law_646 (lv_topi (fun v21 e21 => ?_))
  have e21i : v21.toInt = z + 1 := i_add e21 ez (by decide) (by omega) (by omega)
  refine va_sld hx hb K.hX K.hbl K.hbA hS (i_in e21i (by omega) (by omega)) dL_law_647 ?_
  refine lv_aload_n hx hb dL_law_648 rfl (lv_at hl 3 rfl) ?_
  refine lv_iload_n hx hb dL_law_649 rfl (lv_at hl 0 rfl) ?_
  refine lv_iconst (v := 2) hx hb dL_law_650 rfl ?_
  refine lv_iadd hx hb dL_law_651 (lv_topi (fun v22 e22 => ?_))
  have e22i : v22.toInt = z + 2 := i_add e22 ez (by decide) (by omega) (by omega)
  refine va_sld hx hb K.hX K.hbl K.hbA hS (i_in e22i (by omega) (by omega)) dL_law_652 ?_
  refine lv_aload_n hx hb dL_law_653 rfl (lv_at hl 3 rfl) ?_
  refine lv_iload_n hx hb dL_law_654 rfl (lv_at hl 0 rfl) ?_
  refine lv_iconst (v := 3) hx hb dL_law_655 rfl ?_
  refine lv_iadd hx hb dL_law_656 (lv_topi (fun v23 e23 => ?_))
  have e23i : v23.toInt = z + 3 := i_add e23 ez (by decide) (by omega) (by omega)
  refine va_sld hx hb K.hX K.hbl K.hbA hS (i_in e23i (by omega) (by omega)) dL_law_657 ?_
  refine r_goI (r_runV (As := [.int (xs v21.toNatClampNeg), .int (xs v22.toNatClampNeg), .int (xs v23.toNatClampNeg)]) (rest := []) E hC hS (m_X11_cell l X Γ H hC x1 K.g1 (xs v21.toNatClampNeg) (a1 := ((xs v21.toNatClampNeg) : Int32).toInt) rfl (xs v22.toNatClampNeg) (a2 := ((xs v22.toNatClampNeg) : Int32).toInt) rfl (xs v23.toNatClampNeg) (a3 := ((xs v23.toNatClampNeg) : Int32).toInt) rfl) lcw_X11_cell lcl_71 K.g1 ⟨rfl, rfl⟩ rfl hl.1 rfl (Nat.zero_le _) (by decide) (by decide) (by decide) (by decide) dL_law_658) hS (fun v24 H24 locs24 hp hC24 hS24 => ?_)
  obtain ⟨hp1, hp2a⟩ := hp
  have hMI : MI X H24 m1 ca := hMI.cl hC K.gca K.g2 hp1 rfl
  have hMR : mkI X H24 x1 = mmI X H24 m1 := (mk_kp hp1 K.g1 rfl).trans (hMR.trans (mm_kp hp1 K.g2 rfl).symm)
  have hFR : flI X H24 ra = tpdI X H24 m1 := (fl_kp hp1 K.gra rfl).trans (hFR.trans (tpd_kp hp1 K.g2 rfl).symm)
  have hSd := hSH; have hSH : SHP X Γ H24 x1 ta td nd := hSH.kp K.g1 hp1 rfl
  have hTr0 := hTR; have hNr0 := hNR; have hTm : TMm tm ts H H24 := TMm.kp0 hp1 K.gtm K.gts rfl; have hNm : NSm (nM na H) (nM na H24) := nM_kp0 hp1 K.gna rfl
  have hTc : TSm X td H H24 := TSm.kp TSm.rf hp1 hSH rfl; have hTR := hTR.same hTc hTm
  have hNc : NSm (nC nd H) (nC nd H24) := nC_kp NSm.rf hp1 hSH rfl; have hNR := hNR.same hTc hNc hNm
  have hpa := hp2a; have hCA := hC
  have hC := hC24; have hS := hS24
  refine lv_pop hx hb dL_law_661 rfl ?_
  refine lv_aload_n hx hb dL_law_662 rfl (lv_at hl 1 rfl) ?_
  refine lv_aload_n hx hb dL_law_663 rfl (lv_at hl 3 rfl) ?_
  refine lv_iload_n hx hb dL_law_664 rfl (lv_at hl 0 rfl) ?_
  refine lv_iconst (v := 1) hx hb dL_law_665 rfl ?_
  refine lv_iadd hx hb dL_law_666 (lv_topi (fun v25 e25 => ?_))
  have e25i : v25.toInt = z + 1 := i_add e25 ez (by decide) (by omega) (by omega)
  have hq25 : v25 = v21 := e25.trans e21.symm
  refine va_sld hx hb K.hX K.hbl K.hbA hS (i_in e25i (by omega) (by omega)) dL_law_667 ?_
  rw [hq25]
  refine lv_aload_n hx hb dL_law_668 rfl (lv_at hl 3 rfl) ?_
  refine lv_iload_n hx hb dL_law_669 rfl (lv_at hl 0 rfl) ?_
  refine lv_iconst (v := 2) hx hb dL_law_670 rfl ?_
  refine lv_iadd hx hb dL_law_671 (lv_topi (fun v26 e26 => ?_))
  have e26i : v26.toInt = z + 2 := i_add e26 ez (by decide) (by omega) (by omega)
  have hq26 : v26 = v22 := e26.trans e22.symm
  refine va_sld hx hb K.hX K.hbl K.hbA hS (i_in e26i (by omega) (by omega)) dL_law_672 ?_
  rw [hq26]
  refine lv_aload_n hx hb dL_law_673 rfl (lv_at hl 3 rfl) ?_
  refine lv_iload_n hx hb dL_law_674 rfl (lv_at hl 0 rfl) ?_
  refine lv_iconst (v := 3) hx hb dL_law_675 rfl ?_
  refine lv_iadd hx hb dL_law_676 (lv_topi (fun v27 e27 => ?_))
  have e27i : v27.toInt = z + 3 := i_add e27 ez (by decide) (by omega) (by omega)
  have hq27 : v27 = v23 := e27.trans e23.symm
  refine va_sld hx hb K.hX K.hbl K.hbA hS (i_in e27i (by omega) (by omega)) dL_law_677 ?_
  rw [hq27]
  refine r_goI (r_runV (As := [.int (xs v21.toNatClampNeg), .int (xs v22.toNatClampNeg), .int (xs v23.toNatClampNeg)]) (rest := []) E hC hS (m_X12_cell l X Γ H24 hC m1 K.g2 (xs v21.toNatClampNeg) (a1 := ((xs v21.toNatClampNeg) : Int32).toInt) rfl (xs v22.toNatClampNeg) (a2 := ((xs v22.toNatClampNeg) : Int32).toInt) rfl (xs v23.toNatClampNeg) (a3 := ((xs v23.toNatClampNeg) : Int32).toInt) rfl ca K.gca K.uc) lcw_X12_cell lcl_75 K.g2 ⟨rfl, rfl⟩ rfl hl.1 rfl (Nat.zero_le _) (by decide) (by decide) (by decide) (by decide) dL_law_678) hS (fun v28 H28 locs28 hp hC28 hS28 => ?_)
  obtain ⟨hp1, hp2b⟩ := hp
  have hMI : MI X H28 m1 ca := hMI.kp hC K.gca K.g2 hp1 rfl rfl rfl
  have hMR : mkI X H28 x1 = mmI X H28 m1 := (mk_kp hp1 K.g1 rfl).trans (hMR.trans (mm_kp hp1 K.g2 rfl).symm)
  have hFR : flI X H28 ra = tpdI X H28 m1 := (fl_kp hp1 K.gra rfl).trans (hFR.trans (tpd_kp hp1 K.g2 rfl).symm)
  have hSd := hSH; have hSH : SHP X Γ H28 x1 ta td nd := hSH.kpM K.g1 hp1 rfl
  have hTc2 : TSm X td H24 H28 := TSm.kp1 hp1 hSH rfl; have hNc2 : NSm (nC nd H24) (nC nd H28) := nC_kp1 hp1 hSH rfl
  have hTrm := hTR; have hTm2 : TMm tm ts H24 H28 := TMm.kp TMm.rf hp1 K.gtm K.gts rfl; have hTR := hTR.same hTc2 hTm2
  have hpb := hp2b
  have hNm2 : NSm (nM na H24) (nM na H28) := nM_kp NSm.rf hp1 K.gna rfl; have hNrm := hNR; have hNR := hNR.same hTc2 hNc2 hNm2
  have hC := hC28; have hS := hS28
  refine lv_pop hx hb dL_law_681 rfl ?_
  refine lv_goto (tgt := 1667) hx hb dL_law_682 rfl ?_
  exact hk _ _ hC hS hMI hMR hFR hSH hTR hNR
set_option maxRecDepth 100000 in
set_option maxHeartbeats 4000000 in
theorem law_13 (l : Launch) {p : Program} {e : Env} {s : State} {m : MethodId} {below : List Frame} {meth : Method} {c : Code} {X : xW} {Γ : Nat → Option Nat} {b L : Nat} {xs : Nat → Int32} {x1 m1 ca ka oa ra ta tm ts na : Nat} {td nd : Nat → Nat} (K : LK p s m meth c X Γ b L xs x1 m1 ca ka oa ra tm ts na) {H : Heap} {locs : List Loc} {ls : Array Slot} {Q : State → Prop} {i : Int32} {z : Int} (ez : i.toInt = z) (h0z : 0 ≤ z) (hzL : z + 6 ≤ L) (hC : Conf X Γ H) (hS : va_S (AΓ Γ) s.heap H locs) (hMI : MI X H m1 ca) (hMR : mkI X H x1 = mmI X H m1) (hFR : flI X H ra = tpdI X H m1) (hSH : SHP X Γ H x1 ta td nd) (hTR : TRl X td tm ts H) (hNR : NRl X td nd na H) (hl : lv_has ls 4 [(3, .int i), (2, .ref m1), (1, .ref x1), (0, .ref b)]) (hk : ∀ (H1 : Heap) (locs1 : List Loc), Conf X Γ H1 → va_S (AΓ Γ) s.heap H1 locs1 → MI X H1 m1 ca → mkI X H1 x1 = mmI X H1 m1 → flI X H1 ra = tpdI X H1 m1 → SHP X Γ H1 x1 ta td nd → TRl X td tm ts H1 → NRl X td nd na H1 → W p l e room_1 s m #[Value.ref b] below meth c H1 locs1 147 13128 Q (F0 m 1667 ls [])) : W p l e room_1 s m #[Value.ref b] below meth c H locs 147 13128 Q (F0 m 685 ls []) := by
  have E := K.E; have hx := E.1; have hb := E.2.1; have hLl := K.hL
  refine lv_aload_n hx hb dL_law_685 rfl (lv_at hl 2 rfl) ?_
  refine lv_aload_n hx hb dL_law_686 rfl (lv_at hl 3 rfl) ?_
  refine lv_iload_n hx hb dL_law_687 rfl (lv_at hl 0 rfl) ?_
  refine lv_iconst (v := 1) hx hb dL_law_688 rfl ?_
  refine lv_iadd hx hb dL_law_689 (lv_topi (fun v21 e21 => ?_))
  have e21i : v21.toInt = z + 1 := i_add e21 ez (by decide) (by omega) (by omega)
  refine va_sld hx hb K.hX K.hbl K.hbA hS (i_in e21i (by omega) (by omega)) dL_law_690 ?_
  refine lv_aload_n hx hb dL_law_691 rfl (lv_at hl 3 rfl) ?_
  refine lv_iload_n hx hb dL_law_692 rfl (lv_at hl 0 rfl) ?_
  refine lv_iconst (v := 2) hx hb dL_law_693 rfl ?_
  refine lv_iadd hx hb dL_law_694 (lv_topi (fun v22 e22 => ?_))
  have e22i : v22.toInt = z + 2 := i_add e22 ez (by decide) (by omega) (by omega)
  refine va_sld hx hb K.hX K.hbl K.hbA hS (i_in e22i (by omega) (by omega)) dL_law_695 ?_
  refine r_goI (r_runV (As := [.int (xs v21.toNatClampNeg), .int (xs v22.toNatClampNeg)]) (rest := []) E hC hS (m_X11_school l X Γ H hC x1 K.g1 (xs v21.toNatClampNeg) (a1 := ((xs v21.toNatClampNeg) : Int32).toInt) rfl (xs v22.toNatClampNeg) (a2 := ((xs v22.toNatClampNeg) : Int32).toInt) rfl) lcw_X11_school lcl_76 K.g1 ⟨rfl, rfl⟩ rfl hl.1 rfl (Nat.zero_le _) (by decide) (by decide) (by decide) (by decide) dL_law_696) hS (fun v23 H23 locs23 hp hC23 hS23 => ?_)
  obtain ⟨hp1, hp2a⟩ := hp
  have hMI : MI X H23 m1 ca := hMI.cl hC K.gca K.g2 hp1 rfl
  have hMR : mkI X H23 x1 = mmI X H23 m1 := (mk_kp hp1 K.g1 rfl).trans (hMR.trans (mm_kp hp1 K.g2 rfl).symm)
  have hFR : flI X H23 ra = tpdI X H23 m1 := (fl_kp hp1 K.gra rfl).trans (hFR.trans (tpd_kp hp1 K.g2 rfl).symm)
  have hSd := hSH; have hSH : SHP X Γ H23 x1 ta td nd := hSH.kp K.g1 hp1 rfl
  have hTr0 := hTR; have hNr0 := hNR; have hTm : TMm tm ts H H23 := TMm.kp0 hp1 K.gtm K.gts rfl; have hNm : NSm (nM na H) (nM na H23) := nM_kp0 hp1 K.gna rfl
  have hTc : TSm X td H H23 := TSm.kp TSm.rf hp1 hSH rfl; have hTR := hTR.same hTc hTm
  have hNc : NSm (nC nd H) (nC nd H23) := nC_kp NSm.rf hp1 hSH rfl; have hNR := hNR.same hTc hNc hNm
  have hpa := hp2a; have hCA := hC
  have hC := hC23; have hS := hS23
  refine lv_pop hx hb dL_law_699 rfl ?_
  refine lv_aload_n hx hb dL_law_700 rfl (lv_at hl 1 rfl) ?_
  refine lv_aload_n hx hb dL_law_701 rfl (lv_at hl 3 rfl) ?_
  refine lv_iload_n hx hb dL_law_702 rfl (lv_at hl 0 rfl) ?_
  refine lv_iconst (v := 1) hx hb dL_law_703 rfl ?_
  refine lv_iadd hx hb dL_law_704 (lv_topi (fun v24 e24 => ?_))
  have e24i : v24.toInt = z + 1 := i_add e24 ez (by decide) (by omega) (by omega)
  have hq24 : v24 = v21 := e24.trans e21.symm
  refine va_sld hx hb K.hX K.hbl K.hbA hS (i_in e24i (by omega) (by omega)) dL_law_705 ?_
  rw [hq24]
  refine lv_aload_n hx hb dL_law_706 rfl (lv_at hl 3 rfl) ?_
  refine lv_iload_n hx hb dL_law_707 rfl (lv_at hl 0 rfl) ?_
  refine lv_iconst (v := 2) hx hb dL_law_708 rfl ?_
  refine lv_iadd hx hb dL_law_709 (lv_topi (fun v25 e25 => ?_))
  have e25i : v25.toInt = z + 2 := i_add e25 ez (by decide) (by omega) (by omega)
  have hq25 : v25 = v22 := e25.trans e22.symm
  refine va_sld hx hb K.hX K.hbl K.hbA hS (i_in e25i (by omega) (by omega)) dL_law_710 ?_
  rw [hq25]
  refine r_goI (r_runV (As := [.int (xs v21.toNatClampNeg), .int (xs v22.toNatClampNeg)]) (rest := []) E hC hS (m_X12_school l X Γ H23 hC m1 K.g2 (xs v21.toNatClampNeg) (a1 := ((xs v21.toNatClampNeg) : Int32).toInt) rfl (xs v22.toNatClampNeg) (a2 := ((xs v22.toNatClampNeg) : Int32).toInt) rfl ca K.gca K.uc) lcw_X12_school lcl_80 K.g2 ⟨rfl, rfl⟩ rfl hl.1 rfl (Nat.zero_le _) (by decide) (by decide) (by decide) (by decide) dL_law_711) hS (fun v26 H26 locs26 hp hC26 hS26 => ?_)
  obtain ⟨hp1, hp2b⟩ := hp
  have hMI : MI X H26 m1 ca := hMI.kp hC K.gca K.g2 hp1 rfl rfl rfl
  have hMR : mkI X H26 x1 = mmI X H26 m1 := (mk_kp hp1 K.g1 rfl).trans (hMR.trans (mm_kp hp1 K.g2 rfl).symm)
  have hFR : flI X H26 ra = tpdI X H26 m1 := (fl_kp hp1 K.gra rfl).trans (hFR.trans (tpd_kp hp1 K.g2 rfl).symm)
  have hSd := hSH; have hSH : SHP X Γ H26 x1 ta td nd := hSH.kpM K.g1 hp1 rfl
  have hTc2 : TSm X td H23 H26 := TSm.kp1 hp1 hSH rfl; have hNc2 : NSm (nC nd H23) (nC nd H26) := nC_kp1 hp1 hSH rfl
  have hTrm := hTR; have hTm2 : TMm tm ts H23 H26 := TMm.kp TMm.rf hp1 K.gtm K.gts rfl; have hTR := hTR.same hTc2 hTm2
  have hpb := hp2b
  have hNm2 : NSm (nM na H23) (nM na H26) := nM_kp NSm.rf hp1 K.gna rfl; have hNrm := hNR; have hNR := hNR.same hTc2 hNc2 hNm2
  have hC := hC26; have hS := hS26
  refine lv_pop hx hb dL_law_714 rfl ?_
  refine lv_goto (tgt := 1667) hx hb dL_law_715 rfl ?_
  exact hk _ _ hC hS hMI hMR hFR hSH hTR hNR
set_option maxRecDepth 100000 in
set_option maxHeartbeats 4000000 in
theorem law_14 (l : Launch) {p : Program} {e : Env} {s : State} {m : MethodId} {below : List Frame} {meth : Method} {c : Code} {X : xW} {Γ : Nat → Option Nat} {b L : Nat} {xs : Nat → Int32} {x1 m1 ca ka oa ra ta tm ts na : Nat} {td nd : Nat → Nat} (K : LK p s m meth c X Γ b L xs x1 m1 ca ka oa ra tm ts na) {H : Heap} {locs : List Loc} {ls : Array Slot} {Q : State → Prop} {i : Int32} {z : Int} (ez : i.toInt = z) (h0z : 0 ≤ z) (hzL : z + 6 ≤ L) (hC : Conf X Γ H) (hS : va_S (AΓ Γ) s.heap H locs) (hMI : MI X H m1 ca) (hMR : mkI X H x1 = mmI X H m1) (hFR : flI X H ra = tpdI X H m1) (hSH : SHP X Γ H x1 ta td nd) (hTR : TRl X td tm ts H) (hNR : NRl X td nd na H) (hl : lv_has ls 4 [(3, .int i), (2, .ref m1), (1, .ref x1), (0, .ref b)]) (hk : ∀ (H1 : Heap) (locs1 : List Loc), Conf X Γ H1 → va_S (AΓ Γ) s.heap H1 locs1 → MI X H1 m1 ca → mkI X H1 x1 = mmI X H1 m1 → flI X H1 ra = tpdI X H1 m1 → SHP X Γ H1 x1 ta td nd → TRl X td tm ts H1 → NRl X td nd na H1 → W p l e room_1 s m #[Value.ref b] below meth c H1 locs1 147 13128 Q (F0 m 1667 ls [])) : W p l e room_1 s m #[Value.ref b] below meth c H locs 147 13128 Q (F0 m 718 ls []) := by
  have E := K.E; have hx := E.1; have hb := E.2.1; have hLl := K.hL
  refine lv_aload_n hx hb dL_law_718 rfl (lv_at hl 2 rfl) ?_
  refine lv_aload_n hx hb dL_law_719 rfl (lv_at hl 3 rfl) ?_
  refine lv_iload_n hx hb dL_law_720 rfl (lv_at hl 0 rfl) ?_
  refine lv_iconst (v := 1) hx hb dL_law_721 rfl ?_
  refine lv_iadd hx hb dL_law_722 (lv_topi (fun v21 e21 => ?_))
  have e21i : v21.toInt = z + 1 := i_add e21 ez (by decide) (by omega) (by omega)
  refine va_sld hx hb K.hX K.hbl K.hbA hS (i_in e21i (by omega) (by omega)) dL_law_723 ?_
  refine r_goI (r_runV (As := [.int (xs v21.toNatClampNeg)]) (rest := []) E hC hS (m_X11_article l X Γ H hC x1 K.g1 (xs v21.toNatClampNeg) (a1 := ((xs v21.toNatClampNeg) : Int32).toInt) rfl) lcw_X11_article lcl_81 K.g1 ⟨rfl, rfl⟩ rfl hl.1 rfl (Nat.zero_le _) (by decide) (by decide) (by decide) (by decide) dL_law_724) hS (fun v22 H22 locs22 hp hC22 hS22 => ?_)
  obtain ⟨hp1, hp2a⟩ := hp
  have hMI : MI X H22 m1 ca := hMI.cl hC K.gca K.g2 hp1 rfl
  have hMR : mkI X H22 x1 = mmI X H22 m1 := (mk_kp hp1 K.g1 rfl).trans (hMR.trans (mm_kp hp1 K.g2 rfl).symm)
  have hFR : flI X H22 ra = tpdI X H22 m1 := (fl_kp hp1 K.gra rfl).trans (hFR.trans (tpd_kp hp1 K.g2 rfl).symm)
  have hSd := hSH; have hSH : SHP X Γ H22 x1 ta td nd := hSH.kp K.g1 hp1 rfl
  have hTr0 := hTR; have hNr0 := hNR; have hTm : TMm tm ts H H22 := TMm.kp0 hp1 K.gtm K.gts rfl; have hNm : NSm (nM na H) (nM na H22) := nM_kp0 hp1 K.gna rfl
  have hTc : TSm X td H H22 := TSm.kp TSm.rf hp1 hSH rfl; have hTR := hTR.same hTc hTm
  have hNc : NSm (nC nd H) (nC nd H22) := nC_kp NSm.rf hp1 hSH rfl; have hNR := hNR.same hTc hNc hNm
  have hpa := hp2a; have hCA := hC
  have hC := hC22; have hS := hS22
  refine lv_pop hx hb dL_law_727 rfl ?_
  refine lv_aload_n hx hb dL_law_728 rfl (lv_at hl 1 rfl) ?_
  refine lv_aload_n hx hb dL_law_729 rfl (lv_at hl 3 rfl) ?_
  refine lv_iload_n hx hb dL_law_730 rfl (lv_at hl 0 rfl) ?_
  refine lv_iconst (v := 1) hx hb dL_law_731 rfl ?_
  refine lv_iadd hx hb dL_law_732 (lv_topi (fun v23 e23 => ?_))
  have e23i : v23.toInt = z + 1 := i_add e23 ez (by decide) (by omega) (by omega)
  have hq23 : v23 = v21 := e23.trans e21.symm
  refine va_sld hx hb K.hX K.hbl K.hbA hS (i_in e23i (by omega) (by omega)) dL_law_733 ?_
  rw [hq23]
  refine r_goI (r_runV (As := [.int (xs v21.toNatClampNeg)]) (rest := []) E hC hS (m_X12_article l X Γ H22 hC m1 K.g2 (xs v21.toNatClampNeg) (a1 := ((xs v21.toNatClampNeg) : Int32).toInt) rfl ca K.gca K.uc) lcw_X12_article lcl_84 K.g2 ⟨rfl, rfl⟩ rfl hl.1 rfl (Nat.zero_le _) (by decide) (by decide) (by decide) (by decide) dL_law_734) hS (fun v24 H24 locs24 hp hC24 hS24 => ?_)
  obtain ⟨hp1, hp2b⟩ := hp
  have hMI : MI X H24 m1 ca := hMI.kp hC K.gca K.g2 hp1 rfl rfl rfl
  have hMR : mkI X H24 x1 = mmI X H24 m1 := (mk_kp hp1 K.g1 rfl).trans (hMR.trans (mm_kp hp1 K.g2 rfl).symm)
  have hFR : flI X H24 ra = tpdI X H24 m1 := (fl_kp hp1 K.gra rfl).trans (hFR.trans (tpd_kp hp1 K.g2 rfl).symm)
  have hSd := hSH; have hSH : SHP X Γ H24 x1 ta td nd := hSH.kpM K.g1 hp1 rfl
  have hTc2 : TSm X td H22 H24 := TSm.kp1 hp1 hSH rfl; have hNc2 : NSm (nC nd H22) (nC nd H24) := nC_kp1 hp1 hSH rfl
  have hTrm := hTR; have hTm2 : TMm tm ts H22 H24 := TMm.kp TMm.rf hp1 K.gtm K.gts rfl; have hTR := hTR.same hTc2 hTm2
  have hpb := hp2b
  have hNm2 : NSm (nM na H22) (nM na H24) := nM_kp NSm.rf hp1 K.gna rfl; have hNrm := hNR; have hNR := hNR.same hTc2 hNc2 hNm2
  have hC := hC24; have hS := hS24
  refine lv_pop hx hb dL_law_737 rfl ?_
  refine lv_goto (tgt := 1667) hx hb dL_law_738 rfl ?_
  exact hk _ _ hC hS hMI hMR hFR hSH hTR hNR
set_option maxRecDepth 100000 in
set_option maxHeartbeats 4000000 in
theorem law_15 (l : Launch) {p : Program} {e : Env} {s : State} {m : MethodId} {below : List Frame} {meth : Method} {c : Code} {X : xW} {Γ : Nat → Option Nat} {b L : Nat} {xs : Nat → Int32} {x1 m1 ca ka oa ra ta tm ts na : Nat} {td nd : Nat → Nat} (K : LK p s m meth c X Γ b L xs x1 m1 ca ka oa ra tm ts na) {H : Heap} {locs : List Loc} {ls : Array Slot} {Q : State → Prop} {i : Int32} {z : Int} (ez : i.toInt = z) (h0z : 0 ≤ z) (hzL : z + 6 ≤ L) (hC : Conf X Γ H) (hS : va_S (AΓ Γ) s.heap H locs) (hMI : MI X H m1 ca) (hMR : mkI X H x1 = mmI X H m1) (hFR : flI X H ra = tpdI X H m1) (hSH : SHP X Γ H x1 ta td nd) (hTR : TRl X td tm ts H) (hNR : NRl X td nd na H) (hl : lv_has ls 4 [(3, .int i), (2, .ref m1), (1, .ref x1), (0, .ref b)]) (hk : ∀ (H1 : Heap) (locs1 : List Loc), Conf X Γ H1 → va_S (AΓ Γ) s.heap H1 locs1 → MI X H1 m1 ca → mkI X H1 x1 = mmI X H1 m1 → flI X H1 ra = tpdI X H1 m1 → SHP X Γ H1 x1 ta td nd → TRl X td tm ts H1 → NRl X td nd na H1 → W p l e room_1 s m #[Value.ref b] below meth c H1 locs1 147 13128 Q (F0 m 1667 ls [])) : W p l e room_1 s m #[Value.ref b] below meth c H locs 147 13128 Q (F0 m 741 ls []) := by
  have E := K.E; have hx := E.1; have hb := E.2.1; have hLl := K.hL
  refine lv_aload_n hx hb dL_law_741 rfl (lv_at hl 2 rfl) ?_
  refine lv_aload_n hx hb dL_law_742 rfl (lv_at hl 3 rfl) ?_
  refine lv_iload_n hx hb dL_law_743 rfl (lv_at hl 0 rfl) ?_
  refine lv_iconst (v := 1) hx hb dL_law_744 rfl ?_
  refine lv_iadd hx hb dL_law_745 (lv_topi (fun v21 e21 => ?_))
  have e21i : v21.toInt = z + 1 := i_add e21 ez (by decide) (by omega) (by omega)
  refine va_sld hx hb K.hX K.hbl K.hbA hS (i_in e21i (by omega) (by omega)) dL_law_746 ?_
  refine r_goI (r_runV (As := [.int (xs v21.toNatClampNeg)]) (rest := []) E hC hS (m_X11_breach l X Γ H hC x1 K.g1 (xs v21.toNatClampNeg) (a1 := ((xs v21.toNatClampNeg) : Int32).toInt) rfl) lcw_X11_breach lcl_85 K.g1 ⟨rfl, rfl⟩ rfl hl.1 rfl (Nat.zero_le _) (by decide) (by decide) (by decide) (by decide) dL_law_747) hS (fun v22 H22 locs22 hp hC22 hS22 => ?_)
  obtain ⟨hp1, hp2a⟩ := hp
  have hMI : MI X H22 m1 ca := hMI.cl hC K.gca K.g2 hp1 rfl
  have hMR : mkI X H22 x1 = mmI X H22 m1 := (mk_kp hp1 K.g1 rfl).trans (hMR.trans (mm_kp hp1 K.g2 rfl).symm)
  have hFR : flI X H22 ra = tpdI X H22 m1 := (fl_kp hp1 K.gra rfl).trans (hFR.trans (tpd_kp hp1 K.g2 rfl).symm)
  have hSd := hSH; have hSH : SHP X Γ H22 x1 ta td nd := hSH.kp K.g1 hp1 rfl
  have hTr0 := hTR; have hNr0 := hNR; have hTm : TMm tm ts H H22 := TMm.kp0 hp1 K.gtm K.gts rfl; have hNm : NSm (nM na H) (nM na H22) := nM_kp0 hp1 K.gna rfl
  have hTc : TSm X td H H22 := TSm.kp TSm.rf hp1 hSH rfl; have hTR := hTR.same hTc hTm
  have hNc : NSm (nC nd H) (nC nd H22) := nC_kp NSm.rf hp1 hSH rfl; have hNR := hNR.same hTc hNc hNm
  have hpa := hp2a; have hCA := hC
  have hC := hC22; have hS := hS22
  refine lv_pop hx hb dL_law_750 rfl ?_
  refine lv_aload_n hx hb dL_law_751 rfl (lv_at hl 1 rfl) ?_
  refine lv_aload_n hx hb dL_law_752 rfl (lv_at hl 3 rfl) ?_
  refine lv_iload_n hx hb dL_law_753 rfl (lv_at hl 0 rfl) ?_
  refine lv_iconst (v := 1) hx hb dL_law_754 rfl ?_
  refine lv_iadd hx hb dL_law_755 (lv_topi (fun v23 e23 => ?_))
  have e23i : v23.toInt = z + 1 := i_add e23 ez (by decide) (by omega) (by omega)
  have hq23 : v23 = v21 := e23.trans e21.symm
  refine va_sld hx hb K.hX K.hbl K.hbA hS (i_in e23i (by omega) (by omega)) dL_law_756 ?_
  rw [hq23]
  refine r_goI (r_runV (As := [.int (xs v21.toNatClampNeg)]) (rest := []) E hC hS (m_X12_breach l X Γ H22 hC m1 K.g2 (xs v21.toNatClampNeg) (a1 := ((xs v21.toNatClampNeg) : Int32).toInt) rfl ca K.gca K.uc) lcw_X12_breach lcl_88 K.g2 ⟨rfl, rfl⟩ rfl hl.1 rfl (Nat.zero_le _) (by decide) (by decide) (by decide) (by decide) dL_law_757) hS (fun v24 H24 locs24 hp hC24 hS24 => ?_)
  obtain ⟨hp1, hp2b⟩ := hp
  have hMI : MI X H24 m1 ca := hMI.kp hC K.gca K.g2 hp1 rfl rfl rfl
  have hMR : mkI X H24 x1 = mmI X H24 m1 := (mk_kp hp1 K.g1 rfl).trans (hMR.trans (mm_kp hp1 K.g2 rfl).symm)
  have hFR : flI X H24 ra = tpdI X H24 m1 := (fl_kp hp1 K.gra rfl).trans (hFR.trans (tpd_kp hp1 K.g2 rfl).symm)
  have hSd := hSH; have hSH : SHP X Γ H24 x1 ta td nd := hSH.kpM K.g1 hp1 rfl
  have hTc2 : TSm X td H22 H24 := TSm.kp1 hp1 hSH rfl; have hNc2 : NSm (nC nd H22) (nC nd H24) := nC_kp1 hp1 hSH rfl
  have hTrm := hTR; have hTm2 : TMm tm ts H22 H24 := TMm.kp TMm.rf hp1 K.gtm K.gts rfl; have hTR := hTR.same hTc2 hTm2
  have hpb := hp2b
  have hNm2 : NSm (nM na H22) (nM na H24) := nM_kp NSm.rf hp1 K.gna rfl; have hNrm := hNR; have hNR := hNR.same hTc2 hNc2 hNm2
  have hC := hC24; have hS := hS24
  refine lv_pop hx hb dL_law_760 rfl ?_
  refine lv_goto (tgt := 1667) hx hb dL_law_761 rfl ?_
  exact hk _ _ hC hS hMI hMR hFR hSH hTR hNR
set_option maxRecDepth 100000 in
set_option maxHeartbeats 4000000 in
theorem law_16 (l : Launch) {p : Program} {e : Env} {s : State} {m : MethodId} {below : List Frame} {meth : Method} {c : Code} {X : xW} {Γ : Nat → Option Nat} {b L : Nat} {xs : Nat → Int32} {x1 m1 ca ka oa ra ta tm ts na : Nat} {td nd : Nat → Nat} (K : LK p s m meth c X Γ b L xs x1 m1 ca ka oa ra tm ts na) {H : Heap} {locs : List Loc} {ls : Array Slot} {Q : State → Prop} {i : Int32} {z : Int} (ez : i.toInt = z) (h0z : 0 ≤ z) (hzL : z + 6 ≤ L) (hC : Conf X Γ H) (hS : va_S (AΓ Γ) s.heap H locs) (hMI : MI X H m1 ca) (hMR : mkI X H x1 = mmI X H m1) (hFR : flI X H ra = tpdI X H m1) (hSH : SHP X Γ H x1 ta td nd) (hTR : TRl X td tm ts H) (hNR : NRl X td nd na H) (hl : lv_has ls 4 [(3, .int i), (2, .ref m1), (1, .ref x1), (0, .ref b)]) (hk : ∀ (H1 : Heap) (locs1 : List Loc), Conf X Γ H1 → va_S (AΓ Γ) s.heap H1 locs1 → MI X H1 m1 ca → mkI X H1 x1 = mmI X H1 m1 → flI X H1 ra = tpdI X H1 m1 → SHP X Γ H1 x1 ta td nd → TRl X td tm ts H1 → NRl X td nd na H1 → W p l e room_1 s m #[Value.ref b] below meth c H1 locs1 147 13128 Q (F0 m 1667 ls [])) : W p l e room_1 s m #[Value.ref b] below meth c H locs 147 13128 Q (F0 m 764 ls []) := by
  have E := K.E; have hx := E.1; have hb := E.2.1; have hLl := K.hL
  refine lv_aload_n hx hb dL_law_764 rfl (lv_at hl 2 rfl) ?_
  refine lv_aload_n hx hb dL_law_765 rfl (lv_at hl 3 rfl) ?_
  refine lv_iload_n hx hb dL_law_766 rfl (lv_at hl 0 rfl) ?_
  refine lv_iconst (v := 1) hx hb dL_law_767 rfl ?_
  refine lv_iadd hx hb dL_law_768 (lv_topi (fun v21 e21 => ?_))
  have e21i : v21.toInt = z + 1 := i_add e21 ez (by decide) (by omega) (by omega)
  refine va_sld hx hb K.hX K.hbl K.hbA hS (i_in e21i (by omega) (by omega)) dL_law_769 ?_
  refine r_goI (r_runV (As := [.int (xs v21.toNatClampNeg)]) (rest := []) E hC hS (m_X11_fall l X Γ H hC x1 K.g1 (xs v21.toNatClampNeg) (a1 := ((xs v21.toNatClampNeg) : Int32).toInt) rfl) lcw_X11_fall lcl_89 K.g1 ⟨rfl, rfl⟩ rfl hl.1 rfl (Nat.zero_le _) (by decide) (by decide) (by decide) (by decide) dL_law_770) hS (fun v22 H22 locs22 hp hC22 hS22 => ?_)
  obtain ⟨hp1, hp2a⟩ := hp
  have hMI : MI X H22 m1 ca := hMI.cl hC K.gca K.g2 hp1 rfl
  have hMR : mkI X H22 x1 = mmI X H22 m1 := (mk_kp hp1 K.g1 rfl).trans (hMR.trans (mm_kp hp1 K.g2 rfl).symm)
  have hFR : flI X H22 ra = tpdI X H22 m1 := (fl_kp hp1 K.gra rfl).trans (hFR.trans (tpd_kp hp1 K.g2 rfl).symm)
  have hSd := hSH; have hSH : SHP X Γ H22 x1 ta td nd := hSH.kp K.g1 hp1 rfl
  have hTr0 := hTR; have hNr0 := hNR; have hTm : TMm tm ts H H22 := TMm.kp0 hp1 K.gtm K.gts rfl; have hNm : NSm (nM na H) (nM na H22) := nM_kp0 hp1 K.gna rfl
  have hTc : TSm X td H H22 := TSm.kp TSm.rf hp1 hSH rfl; have hTR := hTR.same hTc hTm
  have hNc : NSm (nC nd H) (nC nd H22) := nC_kp NSm.rf hp1 hSH rfl; have hNR := hNR.same hTc hNc hNm
  have hpa := hp2a; have hCA := hC
  have hC := hC22; have hS := hS22
  refine lv_pop hx hb dL_law_773 rfl ?_
  refine lv_aload_n hx hb dL_law_774 rfl (lv_at hl 1 rfl) ?_
  refine lv_aload_n hx hb dL_law_775 rfl (lv_at hl 3 rfl) ?_
  refine lv_iload_n hx hb dL_law_776 rfl (lv_at hl 0 rfl) ?_
  refine lv_iconst (v := 1) hx hb dL_law_777 rfl ?_
  refine lv_iadd hx hb dL_law_778 (lv_topi (fun v23 e23 => ?_))
  have e23i : v23.toInt = z + 1 := i_add e23 ez (by decide) (by omega) (by omega)
  have hq23 : v23 = v21 := e23.trans e21.symm
  refine va_sld hx hb K.hX K.hbl K.hbA hS (i_in e23i (by omega) (by omega)) dL_law_779 ?_
  rw [hq23]
  refine r_goI (r_runV (As := [.int (xs v21.toNatClampNeg)]) (rest := []) E hC hS (m_X12_fall l X Γ H22 hC m1 K.g2 (xs v21.toNatClampNeg) (a1 := ((xs v21.toNatClampNeg) : Int32).toInt) rfl ca K.gca K.uc) lcw_X12_fall lcl_92 K.g2 ⟨rfl, rfl⟩ rfl hl.1 rfl (Nat.zero_le _) (by decide) (by decide) (by decide) (by decide) dL_law_780) hS (fun v24 H24 locs24 hp hC24 hS24 => ?_)
  obtain ⟨hp1, hp2b⟩ := hp
  have hMI : MI X H24 m1 ca := hMI.kp hC K.gca K.g2 hp1 rfl rfl rfl
  have hMR : mkI X H24 x1 = mmI X H24 m1 := (mk_kp hp1 K.g1 rfl).trans (hMR.trans (mm_kp hp1 K.g2 rfl).symm)
  have hFR : flI X H24 ra = tpdI X H24 m1 := (fl_kp hp1 K.gra rfl).trans (hFR.trans (tpd_kp hp1 K.g2 rfl).symm)
  have hSd := hSH; have hSH : SHP X Γ H24 x1 ta td nd := hSH.kpM K.g1 hp1 rfl
  have hTc2 : TSm X td H22 H24 := TSm.kp1 hp1 hSH rfl; have hNc2 : NSm (nC nd H22) (nC nd H24) := nC_kp1 hp1 hSH rfl
  have hTrm := hTR; have hTm2 : TMm tm ts H22 H24 := TMm.kp TMm.rf hp1 K.gtm K.gts rfl; have hTR := hTR.same hTc2 hTm2
  have hpb := hp2b
  have hNm2 : NSm (nM na H22) (nM na H24) := nM_kp NSm.rf hp1 K.gna rfl; have hNrm := hNR; have hNR := hNR.same hTc2 hNc2 hNm2
  have hC := hC24; have hS := hS24
  refine lv_pop hx hb dL_law_783 rfl ?_
  refine lv_goto (tgt := 1667) hx hb dL_law_784 rfl ?_
  exact hk _ _ hC hS hMI hMR hFR hSH hTR hNR
set_option maxRecDepth 100000 in
set_option maxHeartbeats 4000000 in
theorem law_17 (l : Launch) {p : Program} {e : Env} {s : State} {m : MethodId} {below : List Frame} {meth : Method} {c : Code} {X : xW} {Γ : Nat → Option Nat} {b L : Nat} {xs : Nat → Int32} {x1 m1 ca ka oa ra ta tm ts na : Nat} {td nd : Nat → Nat} (K : LK p s m meth c X Γ b L xs x1 m1 ca ka oa ra tm ts na) {H : Heap} {locs : List Loc} {ls : Array Slot} {Q : State → Prop} {i : Int32} {z : Int} (ez : i.toInt = z) (h0z : 0 ≤ z) (hzL : z + 6 ≤ L) (hC : Conf X Γ H) (hS : va_S (AΓ Γ) s.heap H locs) (hMI : MI X H m1 ca) (hMR : mkI X H x1 = mmI X H m1) (hFR : flI X H ra = tpdI X H m1) (hSH : SHP X Γ H x1 ta td nd) (hTR : TRl X td tm ts H) (hNR : NRl X td nd na H) (hl : lv_has ls 4 [(3, .int i), (2, .ref m1), (1, .ref x1), (0, .ref b)]) (hk : ∀ (H1 : Heap) (locs1 : List Loc), Conf X Γ H1 → va_S (AΓ Γ) s.heap H1 locs1 → MI X H1 m1 ca → mkI X H1 x1 = mmI X H1 m1 → flI X H1 ra = tpdI X H1 m1 → SHP X Γ H1 x1 ta td nd → TRl X td tm ts H1 → NRl X td nd na H1 → W p l e room_1 s m #[Value.ref b] below meth c H1 locs1 147 13128 Q (F0 m 1667 ls [])) : W p l e room_1 s m #[Value.ref b] below meth c H locs 147 13128 Q (F0 m 787 ls []) := by
  have E := K.E; have hx := E.1; have hb := E.2.1; have hLl := K.hL
  refine lv_aload_n hx hb dL_law_787 rfl (lv_at hl 2 rfl) ?_
  refine lv_aload_n hx hb dL_law_788 rfl (lv_at hl 3 rfl) ?_
  refine lv_iload_n hx hb dL_law_789 rfl (lv_at hl 0 rfl) ?_
  refine lv_iconst (v := 1) hx hb dL_law_790 rfl ?_
  refine lv_iadd hx hb dL_law_791 (lv_topi (fun v21 e21 => ?_))
  have e21i : v21.toInt = z + 1 := i_add e21 ez (by decide) (by omega) (by omega)
  refine va_sld hx hb K.hX K.hbl K.hbA hS (i_in e21i (by omega) (by omega)) dL_law_792 ?_
  refine r_goI (r_runV (As := [.int (xs v21.toNatClampNeg)]) (rest := []) E hC hS (m_X11_thaw l X Γ H hC x1 K.g1 (xs v21.toNatClampNeg) (a1 := ((xs v21.toNatClampNeg) : Int32).toInt) rfl) lcw_X11_thaw lcl_93 K.g1 ⟨rfl, rfl⟩ rfl hl.1 rfl (Nat.zero_le _) (by decide) (by decide) (by decide) (by decide) dL_law_793) hS (fun v22 H22 locs22 hp hC22 hS22 => ?_)
  obtain ⟨hp1, hp2a⟩ := hp
  have hMI : MI X H22 m1 ca := hMI.cl hC K.gca K.g2 hp1 rfl
  have hMR : mkI X H22 x1 = mmI X H22 m1 := (mk_kp hp1 K.g1 rfl).trans (hMR.trans (mm_kp hp1 K.g2 rfl).symm)
  have hFR : flI X H22 ra = tpdI X H22 m1 := (fl_kp hp1 K.gra rfl).trans (hFR.trans (tpd_kp hp1 K.g2 rfl).symm)
  have hSd := hSH; have hSH : SHP X Γ H22 x1 ta td nd := hSH.kp K.g1 hp1 rfl
  have hTr0 := hTR; have hNr0 := hNR; have hTm : TMm tm ts H H22 := TMm.kp0 hp1 K.gtm K.gts rfl; have hNm : NSm (nM na H) (nM na H22) := nM_kp0 hp1 K.gna rfl
  have hTc : TSm X td H H22 := TSm.kp TSm.rf hp1 hSH rfl; have hTR := hTR.same hTc hTm
  have hNc : NSm (nC nd H) (nC nd H22) := nC_kp NSm.rf hp1 hSH rfl; have hNR := hNR.same hTc hNc hNm
  have hpa := hp2a; have hCA := hC
  have hC := hC22; have hS := hS22
  refine lv_pop hx hb dL_law_796 rfl ?_
  refine lv_aload_n hx hb dL_law_797 rfl (lv_at hl 1 rfl) ?_
  refine lv_aload_n hx hb dL_law_798 rfl (lv_at hl 3 rfl) ?_
  refine lv_iload_n hx hb dL_law_799 rfl (lv_at hl 0 rfl) ?_
  refine lv_iconst (v := 1) hx hb dL_law_800 rfl ?_
  refine lv_iadd hx hb dL_law_801 (lv_topi (fun v23 e23 => ?_))
  have e23i : v23.toInt = z + 1 := i_add e23 ez (by decide) (by omega) (by omega)
  have hq23 : v23 = v21 := e23.trans e21.symm
  refine va_sld hx hb K.hX K.hbl K.hbA hS (i_in e23i (by omega) (by omega)) dL_law_802 ?_
  rw [hq23]
  refine r_goI (r_runV (As := [.int (xs v21.toNatClampNeg)]) (rest := []) E hC hS (m_X12_thaw l X Γ H22 hC m1 K.g2 (xs v21.toNatClampNeg) (a1 := ((xs v21.toNatClampNeg) : Int32).toInt) rfl ca K.gca K.uc) lcw_X12_thaw lcl_96 K.g2 ⟨rfl, rfl⟩ rfl hl.1 rfl (Nat.zero_le _) (by decide) (by decide) (by decide) (by decide) dL_law_803) hS (fun v24 H24 locs24 hp hC24 hS24 => ?_)
  obtain ⟨hp1, hp2b⟩ := hp
  have hMI : MI X H24 m1 ca := hMI.kp hC K.gca K.g2 hp1 rfl rfl rfl
  have hMR : mkI X H24 x1 = mmI X H24 m1 := (mk_kp hp1 K.g1 rfl).trans (hMR.trans (mm_kp hp1 K.g2 rfl).symm)
  have hFR : flI X H24 ra = tpdI X H24 m1 := (fl_kp hp1 K.gra rfl).trans (hFR.trans (tpd_kp hp1 K.g2 rfl).symm)
  have hSd := hSH; have hSH : SHP X Γ H24 x1 ta td nd := hSH.kpM K.g1 hp1 rfl
  have hTc2 : TSm X td H22 H24 := TSm.kp1 hp1 hSH rfl; have hNc2 : NSm (nC nd H22) (nC nd H24) := nC_kp1 hp1 hSH rfl
  have hTrm := hTR; have hTm2 : TMm tm ts H22 H24 := TMm.kp TMm.rf hp1 K.gtm K.gts rfl; have hTR := hTR.same hTc2 hTm2
  have hpb := hp2b
  have hNm2 : NSm (nM na H22) (nM na H24) := nM_kp NSm.rf hp1 K.gna rfl; have hNrm := hNR; have hNR := hNR.same hTc2 hNc2 hNm2
  have hC := hC24; have hS := hS24
  refine lv_pop hx hb dL_law_806 rfl ?_
  refine lv_goto (tgt := 1667) hx hb dL_law_807 rfl ?_
  exact hk _ _ hC hS hMI hMR hFR hSH hTR hNR
set_option maxRecDepth 100000 in
set_option maxHeartbeats 4000000 in
theorem law_18 (l : Launch) {p : Program} {e : Env} {s : State} {m : MethodId} {below : List Frame} {meth : Method} {c : Code} {X : xW} {Γ : Nat → Option Nat} {b L : Nat} {xs : Nat → Int32} {x1 m1 ca ka oa ra ta tm ts na : Nat} {td nd : Nat → Nat} (K : LK p s m meth c X Γ b L xs x1 m1 ca ka oa ra tm ts na) {H : Heap} {locs : List Loc} {ls : Array Slot} {Q : State → Prop} {i : Int32} {z : Int} (ez : i.toInt = z) (h0z : 0 ≤ z) (hzL : z + 6 ≤ L) (hC : Conf X Γ H) (hS : va_S (AΓ Γ) s.heap H locs) (hMI : MI X H m1 ca) (hMR : mkI X H x1 = mmI X H m1) (hFR : flI X H ra = tpdI X H m1) (hSH : SHP X Γ H x1 ta td nd) (hTR : TRl X td tm ts H) (hNR : NRl X td nd na H) (hl : lv_has ls 4 [(3, .int i), (2, .ref m1), (1, .ref x1), (0, .ref b)]) (hk : ∀ (H1 : Heap) (locs1 : List Loc), Conf X Γ H1 → va_S (AΓ Γ) s.heap H1 locs1 → MI X H1 m1 ca → mkI X H1 x1 = mmI X H1 m1 → flI X H1 ra = tpdI X H1 m1 → SHP X Γ H1 x1 ta td nd → TRl X td tm ts H1 → NRl X td nd na H1 → W p l e room_1 s m #[Value.ref b] below meth c H1 locs1 147 13128 Q (F0 m 1667 ls [])) : W p l e room_1 s m #[Value.ref b] below meth c H locs 147 13128 Q (F0 m 810 ls []) := by
  have E := K.E; have hx := E.1; have hb := E.2.1; have hLl := K.hL
  refine lv_aload_n hx hb dL_law_810 rfl (lv_at hl 2 rfl) ?_
  refine lv_aload_n hx hb dL_law_811 rfl (lv_at hl 3 rfl) ?_
  refine lv_iload_n hx hb dL_law_812 rfl (lv_at hl 0 rfl) ?_
  refine lv_iconst (v := 1) hx hb dL_law_813 rfl ?_
  refine lv_iadd hx hb dL_law_814 (lv_topi (fun v21 e21 => ?_))
  have e21i : v21.toInt = z + 1 := i_add e21 ez (by decide) (by omega) (by omega)
  refine va_sld hx hb K.hX K.hbl K.hbA hS (i_in e21i (by omega) (by omega)) dL_law_815 ?_
  refine lv_aload_n hx hb dL_law_816 rfl (lv_at hl 3 rfl) ?_
  refine lv_iload_n hx hb dL_law_817 rfl (lv_at hl 0 rfl) ?_
  refine lv_iconst (v := 2) hx hb dL_law_818 rfl ?_
  refine lv_iadd hx hb dL_law_819 (lv_topi (fun v22 e22 => ?_))
  have e22i : v22.toInt = z + 2 := i_add e22 ez (by decide) (by omega) (by omega)
  refine va_sld hx hb K.hX K.hbl K.hbA hS (i_in e22i (by omega) (by omega)) dL_law_820 ?_
  refine lv_aload_n hx hb dL_law_821 rfl (lv_at hl 3 rfl) ?_
  refine lv_iload_n hx hb dL_law_822 rfl (lv_at hl 0 rfl) ?_
  refine lv_iconst (v := 3) hx hb dL_law_823 rfl ?_
  refine lv_iadd hx hb dL_law_824 (lv_topi (fun v23 e23 => ?_))
  have e23i : v23.toInt = z + 3 := i_add e23 ez (by decide) (by omega) (by omega)
  refine va_sld hx hb K.hX K.hbl K.hbA hS (i_in e23i (by omega) (by omega)) dL_law_825 ?_
  refine r_goI (r_runV (As := [.int (xs v21.toNatClampNeg), .int (xs v22.toNatClampNeg), .int (xs v23.toNatClampNeg)]) (rest := []) E hC hS (m_X11_build l X Γ H hC x1 K.g1 (xs v21.toNatClampNeg) (a1 := ((xs v21.toNatClampNeg) : Int32).toInt) rfl (xs v22.toNatClampNeg) (a2 := ((xs v22.toNatClampNeg) : Int32).toInt) rfl (xs v23.toNatClampNeg) (a3 := ((xs v23.toNatClampNeg) : Int32).toInt) rfl) lcw_X11_build lcl_97 K.g1 ⟨rfl, rfl⟩ rfl hl.1 rfl (Nat.zero_le _) (by decide) (by decide) (by decide) (by decide) dL_law_826) hS (fun v24 H24 locs24 hp hC24 hS24 => ?_)
  obtain ⟨hp1, hp2a⟩ := hp
  have hMI : MI X H24 m1 ca := hMI.cl hC K.gca K.g2 hp1 rfl
  have hMR : mkI X H24 x1 = mmI X H24 m1 := (mk_kp hp1 K.g1 rfl).trans (hMR.trans (mm_kp hp1 K.g2 rfl).symm)
  have hFR : flI X H24 ra = tpdI X H24 m1 := (fl_kp hp1 K.gra rfl).trans (hFR.trans (tpd_kp hp1 K.g2 rfl).symm)
  have hSd := hSH; have hSH : SHP X Γ H24 x1 ta td nd := hSH.kp K.g1 hp1 rfl
  have hTr0 := hTR; have hNr0 := hNR; have hTm : TMm tm ts H H24 := TMm.kp0 hp1 K.gtm K.gts rfl; have hNm : NSm (nM na H) (nM na H24) := nM_kp0 hp1 K.gna rfl
  have hTc : TSm X td H H24 := TSm.kp TSm.rf hp1 hSH rfl; have hTR := hTR.same hTc hTm
  have hNc : NSm (nC nd H) (nC nd H24) := nC_kp NSm.rf hp1 hSH rfl; have hNR := hNR.same hTc hNc hNm
  have hpa := hp2a; have hCA := hC
  have hC := hC24; have hS := hS24
  refine lv_pop hx hb dL_law_829 rfl ?_
  refine lv_aload_n hx hb dL_law_830 rfl (lv_at hl 1 rfl) ?_
  refine lv_aload_n hx hb dL_law_831 rfl (lv_at hl 3 rfl) ?_
  refine lv_iload_n hx hb dL_law_832 rfl (lv_at hl 0 rfl) ?_
  refine lv_iconst (v := 1) hx hb dL_law_833 rfl ?_
  refine lv_iadd hx hb dL_law_834 (lv_topi (fun v25 e25 => ?_))
  have e25i : v25.toInt = z + 1 := i_add e25 ez (by decide) (by omega) (by omega)
  have hq25 : v25 = v21 := e25.trans e21.symm
  refine va_sld hx hb K.hX K.hbl K.hbA hS (i_in e25i (by omega) (by omega)) dL_law_835 ?_
  rw [hq25]
  refine lv_aload_n hx hb dL_law_836 rfl (lv_at hl 3 rfl) ?_
  refine lv_iload_n hx hb dL_law_837 rfl (lv_at hl 0 rfl) ?_
  refine lv_iconst (v := 2) hx hb dL_law_838 rfl ?_
  refine lv_iadd hx hb dL_law_839 (lv_topi (fun v26 e26 => ?_))
  have e26i : v26.toInt = z + 2 := i_add e26 ez (by decide) (by omega) (by omega)
  have hq26 : v26 = v22 := e26.trans e22.symm
  refine va_sld hx hb K.hX K.hbl K.hbA hS (i_in e26i (by omega) (by omega)) dL_law_840 ?_
  rw [hq26]
  refine lv_aload_n hx hb dL_law_841 rfl (lv_at hl 3 rfl) ?_
  refine lv_iload_n hx hb dL_law_842 rfl (lv_at hl 0 rfl) ?_
  refine lv_iconst (v := 3) hx hb dL_law_843 rfl ?_
  refine lv_iadd hx hb dL_law_844 (lv_topi (fun v27 e27 => ?_))
  have e27i : v27.toInt = z + 3 := i_add e27 ez (by decide) (by omega) (by omega)
  have hq27 : v27 = v23 := e27.trans e23.symm
  refine va_sld hx hb K.hX K.hbl K.hbA hS (i_in e27i (by omega) (by omega)) dL_law_845 ?_
  rw [hq27]
  refine r_goI (r_runV (As := [.int (xs v21.toNatClampNeg), .int (xs v22.toNatClampNeg), .int (xs v23.toNatClampNeg)]) (rest := []) E hC hS (m_X12_build l X Γ H24 hC m1 K.g2 (xs v21.toNatClampNeg) (a1 := ((xs v21.toNatClampNeg) : Int32).toInt) rfl (xs v22.toNatClampNeg) (a2 := ((xs v22.toNatClampNeg) : Int32).toInt) rfl (xs v23.toNatClampNeg) (a3 := ((xs v23.toNatClampNeg) : Int32).toInt) rfl ca K.gca K.uc hMI.c0.2.2.1) lcw_X12_build lcl_100 K.g2 ⟨rfl, rfl⟩ rfl hl.1 rfl (Nat.zero_le _) (by decide) (by decide) (by decide) (by decide) dL_law_846) hS (fun v28 H28 locs28 hp hC28 hS28 => ?_)
  obtain ⟨hp1, hp2b⟩ := hp
  obtain ⟨hp1, hu⟩ := hp1
  have hMI : MI X H28 m1 ca := hMI.uh hC K.gca K.g2 hp1 hu rfl rfl
  have hMR : mkI X H28 x1 = mmI X H28 m1 := (mk_kp hp1 K.g1 rfl).trans (hMR.trans (mm_kp hp1 K.g2 rfl).symm)
  have hFR : flI X H28 ra = tpdI X H28 m1 := (fl_kp hp1 K.gra rfl).trans (hFR.trans (tpd_kp hp1 K.g2 rfl).symm)
  have hSd := hSH; have hSH : SHP X Γ H28 x1 ta td nd := hSH.kpM K.g1 hp1 rfl
  have hTc2 : TSm X td H24 H28 := TSm.kp1 hp1 hSH rfl; have hNc2 : NSm (nC nd H24) (nC nd H28) := nC_kp1 hp1 hSH rfl
  have hTrm := hTR; have hTm2 : TMm tm ts H24 H28 := TMm.kp TMm.rf hp1 K.gtm K.gts rfl; have hTR := hTR.same hTc2 hTm2
  have hpb := hp2b
  have hNm2 : NSm (nM na H24) (nM na H28) := nM_kp NSm.rf hp1 K.gna rfl; have hNrm := hNR; have hNR := hNR.same hTc2 hNc2 hNm2
  have hC := hC28; have hS := hS28
  refine lv_pop hx hb dL_law_849 rfl ?_
  refine lv_goto (tgt := 1667) hx hb dL_law_850 rfl ?_
  exact hk _ _ hC hS hMI hMR hFR hSH hTR hNR
set_option maxRecDepth 100000 in
set_option maxHeartbeats 4000000 in
theorem law_19 (l : Launch) {p : Program} {e : Env} {s : State} {m : MethodId} {below : List Frame} {meth : Method} {c : Code} {X : xW} {Γ : Nat → Option Nat} {b L : Nat} {xs : Nat → Int32} {x1 m1 ca ka oa ra ta tm ts na : Nat} {td nd : Nat → Nat} (K : LK p s m meth c X Γ b L xs x1 m1 ca ka oa ra tm ts na) {H : Heap} {locs : List Loc} {ls : Array Slot} {Q : State → Prop} {i : Int32} {z : Int} (ez : i.toInt = z) (h0z : 0 ≤ z) (hzL : z + 6 ≤ L) (hC : Conf X Γ H) (hS : va_S (AΓ Γ) s.heap H locs) (hMI : MI X H m1 ca) (hMR : mkI X H x1 = mmI X H m1) (hFR : flI X H ra = tpdI X H m1) (hSH : SHP X Γ H x1 ta td nd) (hTR : TRl X td tm ts H) (hNR : NRl X td nd na H) (hl : lv_has ls 4 [(3, .int i), (2, .ref m1), (1, .ref x1), (0, .ref b)]) (hk : ∀ (H1 : Heap) (locs1 : List Loc), Conf X Γ H1 → va_S (AΓ Γ) s.heap H1 locs1 → MI X H1 m1 ca → mkI X H1 x1 = mmI X H1 m1 → flI X H1 ra = tpdI X H1 m1 → SHP X Γ H1 x1 ta td nd → TRl X td tm ts H1 → NRl X td nd na H1 → W p l e room_1 s m #[Value.ref b] below meth c H1 locs1 147 13128 Q (F0 m 1667 ls [])) : W p l e room_1 s m #[Value.ref b] below meth c H locs 147 13128 Q (F0 m 853 ls []) := by
  have E := K.E; have hx := E.1; have hb := E.2.1; have hLl := K.hL
  refine lv_aload_n hx hb dL_law_853 rfl (lv_at hl 2 rfl) ?_
  refine lv_aload_n hx hb dL_law_854 rfl (lv_at hl 3 rfl) ?_
  refine lv_iload_n hx hb dL_law_855 rfl (lv_at hl 0 rfl) ?_
  refine lv_iconst (v := 1) hx hb dL_law_856 rfl ?_
  refine lv_iadd hx hb dL_law_857 (lv_topi (fun v21 e21 => ?_))
  have e21i : v21.toInt = z + 1 := i_add e21 ez (by decide) (by omega) (by omega)
  refine va_sld hx hb K.hX K.hbl K.hbA hS (i_in e21i (by omega) (by omega)) dL_law_858 ?_
  refine lv_aload_n hx hb dL_law_859 rfl (lv_at hl 3 rfl) ?_
  refine lv_iload_n hx hb dL_law_860 rfl (lv_at hl 0 rfl) ?_
  refine lv_iconst (v := 2) hx hb dL_law_861 rfl ?_
  refine lv_iadd hx hb dL_law_862 (lv_topi (fun v22 e22 => ?_))
  have e22i : v22.toInt = z + 2 := i_add e22 ez (by decide) (by omega) (by omega)
  refine va_sld hx hb K.hX K.hbl K.hbA hS (i_in e22i (by omega) (by omega)) dL_law_863 ?_
  refine r_goI (r_runV (As := [.int (xs v21.toNatClampNeg), .int (xs v22.toNatClampNeg)]) (rest := []) E hC hS (m_X11_ice l X Γ H hC x1 K.g1 (xs v21.toNatClampNeg) (a1 := ((xs v21.toNatClampNeg) : Int32).toInt) rfl (xs v22.toNatClampNeg) (a2 := ((xs v22.toNatClampNeg) : Int32).toInt) rfl) lcw_X11_ice lcl_101 K.g1 ⟨rfl, rfl⟩ rfl hl.1 rfl (Nat.zero_le _) (by decide) (by decide) (by decide) (by decide) dL_law_864) hS (fun v23 H23 locs23 hp hC23 hS23 => ?_)
  obtain ⟨hp1, hp2a⟩ := hp
  have hMI : MI X H23 m1 ca := hMI.cl hC K.gca K.g2 hp1 rfl
  have hMR : mkI X H23 x1 = mmI X H23 m1 := (mk_kp hp1 K.g1 rfl).trans (hMR.trans (mm_kp hp1 K.g2 rfl).symm)
  have hFR : flI X H23 ra = tpdI X H23 m1 := (fl_kp hp1 K.gra rfl).trans (hFR.trans (tpd_kp hp1 K.g2 rfl).symm)
  have hSd := hSH; have hSH : SHP X Γ H23 x1 ta td nd := hSH.kp K.g1 hp1 rfl
  have hTr0 := hTR; have hNr0 := hNR; have hTm : TMm tm ts H H23 := TMm.kp0 hp1 K.gtm K.gts rfl; have hNm : NSm (nM na H) (nM na H23) := nM_kp0 hp1 K.gna rfl
  have hTc : TSm X td H H23 := TSm.kp TSm.rf hp1 hSH rfl; have hTR := hTR.same hTc hTm
  have hNc : NSm (nC nd H) (nC nd H23) := nC_kp NSm.rf hp1 hSH rfl; have hNR := hNR.same hTc hNc hNm
  have hpa := hp2a; have hCA := hC
  have hC := hC23; have hS := hS23
  refine lv_pop hx hb dL_law_867 rfl ?_
  refine lv_aload_n hx hb dL_law_868 rfl (lv_at hl 1 rfl) ?_
  refine lv_aload_n hx hb dL_law_869 rfl (lv_at hl 3 rfl) ?_
  refine lv_iload_n hx hb dL_law_870 rfl (lv_at hl 0 rfl) ?_
  refine lv_iconst (v := 1) hx hb dL_law_871 rfl ?_
  refine lv_iadd hx hb dL_law_872 (lv_topi (fun v24 e24 => ?_))
  have e24i : v24.toInt = z + 1 := i_add e24 ez (by decide) (by omega) (by omega)
  have hq24 : v24 = v21 := e24.trans e21.symm
  refine va_sld hx hb K.hX K.hbl K.hbA hS (i_in e24i (by omega) (by omega)) dL_law_873 ?_
  rw [hq24]
  refine lv_aload_n hx hb dL_law_874 rfl (lv_at hl 3 rfl) ?_
  refine lv_iload_n hx hb dL_law_875 rfl (lv_at hl 0 rfl) ?_
  refine lv_iconst (v := 2) hx hb dL_law_876 rfl ?_
  refine lv_iadd hx hb dL_law_877 (lv_topi (fun v25 e25 => ?_))
  have e25i : v25.toInt = z + 2 := i_add e25 ez (by decide) (by omega) (by omega)
  have hq25 : v25 = v22 := e25.trans e22.symm
  refine va_sld hx hb K.hX K.hbl K.hbA hS (i_in e25i (by omega) (by omega)) dL_law_878 ?_
  rw [hq25]
  refine r_goI (r_runV (As := [.int (xs v21.toNatClampNeg), .int (xs v22.toNatClampNeg)]) (rest := []) E hC hS (m_X12_ice l X Γ H23 hC m1 K.g2 (xs v21.toNatClampNeg) (a1 := ((xs v21.toNatClampNeg) : Int32).toInt) rfl (xs v22.toNatClampNeg) (a2 := ((xs v22.toNatClampNeg) : Int32).toInt) rfl ca K.gca K.uc hMI.c0.2.2.1) lcw_X12_ice lcl_105 K.g2 ⟨rfl, rfl⟩ rfl hl.1 rfl (Nat.zero_le _) (by decide) (by decide) (by decide) (by decide) dL_law_879) hS (fun v26 H26 locs26 hp hC26 hS26 => ?_)
  obtain ⟨hp1, hp2b⟩ := hp
  obtain ⟨hp1, hu⟩ := hp1
  have hMI : MI X H26 m1 ca := hMI.uh hC K.gca K.g2 hp1 hu rfl rfl
  have hMR : mkI X H26 x1 = mmI X H26 m1 := (mk_kp hp1 K.g1 rfl).trans (hMR.trans (mm_kp hp1 K.g2 rfl).symm)
  have hFR : flI X H26 ra = tpdI X H26 m1 := (fl_kp hp1 K.gra rfl).trans (hFR.trans (tpd_kp hp1 K.g2 rfl).symm)
  have hSd := hSH; have hSH : SHP X Γ H26 x1 ta td nd := hSH.kpM K.g1 hp1 rfl
  have hTc2 : TSm X td H23 H26 := TSm.kp1 hp1 hSH rfl; have hNc2 : NSm (nC nd H23) (nC nd H26) := nC_kp1 hp1 hSH rfl
  have hTrm := hTR; have hTm2 : TMm tm ts H23 H26 := TMm.kp TMm.rf hp1 K.gtm K.gts rfl; have hTR := hTR.same hTc2 hTm2
  have hpb := hp2b
  have hNm2 : NSm (nM na H23) (nM na H26) := nM_kp NSm.rf hp1 K.gna rfl; have hNrm := hNR; have hNR := hNR.same hTc2 hNc2 hNm2
  have hC := hC26; have hS := hS26
  refine lv_pop hx hb dL_law_882 rfl ?_
  refine lv_goto (tgt := 1667) hx hb dL_law_883 rfl ?_
  exact hk _ _ hC hS hMI hMR hFR hSH hTR hNR
set_option maxRecDepth 100000 in
set_option maxHeartbeats 4000000 in
theorem law_20 (l : Launch) {p : Program} {e : Env} {s : State} {m : MethodId} {below : List Frame} {meth : Method} {c : Code} {X : xW} {Γ : Nat → Option Nat} {b L : Nat} {xs : Nat → Int32} {x1 m1 ca ka oa ra ta tm ts na : Nat} {td nd : Nat → Nat} (K : LK p s m meth c X Γ b L xs x1 m1 ca ka oa ra tm ts na) {H : Heap} {locs : List Loc} {ls : Array Slot} {Q : State → Prop} {i : Int32} {z : Int} (ez : i.toInt = z) (h0z : 0 ≤ z) (hzL : z + 6 ≤ L) (hC : Conf X Γ H) (hS : va_S (AΓ Γ) s.heap H locs) (hMI : MI X H m1 ca) (hMR : mkI X H x1 = mmI X H m1) (hFR : flI X H ra = tpdI X H m1) (hSH : SHP X Γ H x1 ta td nd) (hTR : TRl X td tm ts H) (hNR : NRl X td nd na H) (hl : lv_has ls 4 [(3, .int i), (2, .ref m1), (1, .ref x1), (0, .ref b)]) (hk : ∀ (H1 : Heap) (locs1 : List Loc), Conf X Γ H1 → va_S (AΓ Γ) s.heap H1 locs1 → MI X H1 m1 ca → mkI X H1 x1 = mmI X H1 m1 → flI X H1 ra = tpdI X H1 m1 → SHP X Γ H1 x1 ta td nd → TRl X td tm ts H1 → NRl X td nd na H1 → W p l e room_1 s m #[Value.ref b] below meth c H1 locs1 147 13128 Q (F0 m 1667 ls [])) : W p l e room_1 s m #[Value.ref b] below meth c H locs 147 13128 Q (F0 m 886 ls []) := by
  have E := K.E; have hx := E.1; have hb := E.2.1; have hLl := K.hL
  refine lv_aload_n hx hb dL_law_886 rfl (lv_at hl 2 rfl) ?_
  refine lv_aload_n hx hb dL_law_887 rfl (lv_at hl 3 rfl) ?_
  refine lv_iload_n hx hb dL_law_888 rfl (lv_at hl 0 rfl) ?_
  refine lv_iconst (v := 1) hx hb dL_law_889 rfl ?_
  refine lv_iadd hx hb dL_law_890 (lv_topi (fun v21 e21 => ?_))
  have e21i : v21.toInt = z + 1 := i_add e21 ez (by decide) (by omega) (by omega)
  refine va_sld hx hb K.hX K.hbl K.hbA hS (i_in e21i (by omega) (by omega)) dL_law_891 ?_
  refine lv_aload_n hx hb dL_law_892 rfl (lv_at hl 3 rfl) ?_
  refine lv_iload_n hx hb dL_law_893 rfl (lv_at hl 0 rfl) ?_
  refine lv_iconst (v := 2) hx hb dL_law_894 rfl ?_
  refine lv_iadd hx hb dL_law_895 (lv_topi (fun v22 e22 => ?_))
  have e22i : v22.toInt = z + 2 := i_add e22 ez (by decide) (by omega) (by omega)
  refine va_sld hx hb K.hX K.hbl K.hbA hS (i_in e22i (by omega) (by omega)) dL_law_896 ?_
  refine lv_aload_n hx hb dL_law_897 rfl (lv_at hl 3 rfl) ?_
  refine lv_iload_n hx hb dL_law_898 rfl (lv_at hl 0 rfl) ?_
  refine lv_iconst (v := 3) hx hb dL_law_899 rfl ?_
  refine lv_iadd hx hb dL_law_900 (lv_topi (fun v23 e23 => ?_))
  have e23i : v23.toInt = z + 3 := i_add e23 ez (by decide) (by omega) (by omega)
  refine va_sld hx hb K.hX K.hbl K.hbA hS (i_in e23i (by omega) (by omega)) dL_law_901 ?_
  refine lv_aload_n hx hb dL_law_902 rfl (lv_at hl 3 rfl) ?_
  refine lv_iload_n hx hb dL_law_903 rfl (lv_at hl 0 rfl) ?_
  refine lv_iconst (v := 4) hx hb dL_law_904 rfl ?_
  refine lv_iadd hx hb dL_law_905 (lv_topi (fun v24 e24 => ?_))
  have e24i : v24.toInt = z + 4 := i_add e24 ez (by decide) (by omega) (by omega)
  refine va_sld hx hb K.hX K.hbl K.hbA hS (i_in e24i (by omega) (by omega)) dL_law_906 ?_
  refine lv_aload_n hx hb dL_law_907 rfl (lv_at hl 3 rfl) ?_
  refine lv_iload_n hx hb dL_law_908 rfl (lv_at hl 0 rfl) ?_
  refine lv_iconst (v := 5) hx hb dL_law_909 rfl ?_
  refine lv_iadd hx hb dL_law_910 (lv_topi (fun v25 e25 => ?_))
  have e25i : v25.toInt = z + 5 := i_add e25 ez (by decide) (by omega) (by omega)
  refine va_sld hx hb K.hX K.hbl K.hbA hS (i_in e25i (by omega) (by omega)) dL_law_911 ?_
  refine r_goI (r_runV (As := [.int (xs v21.toNatClampNeg), .int (xs v22.toNatClampNeg), .int (xs v23.toNatClampNeg), .int (xs v24.toNatClampNeg), .int (xs v25.toNatClampNeg)]) (rest := []) E hC hS (m_X11_steal l X Γ H hC x1 K.g1 (xs v21.toNatClampNeg) (a1 := ((xs v21.toNatClampNeg) : Int32).toInt) rfl (xs v22.toNatClampNeg) (a2 := ((xs v22.toNatClampNeg) : Int32).toInt) rfl (xs v23.toNatClampNeg) (a3 := ((xs v23.toNatClampNeg) : Int32).toInt) rfl (xs v24.toNatClampNeg) (a4 := ((xs v24.toNatClampNeg) : Int32).toInt) rfl (xs v25.toNatClampNeg) (a5 := ((xs v25.toNatClampNeg) : Int32).toInt) rfl) lcw_X11_steal lcl_106 K.g1 ⟨rfl, rfl⟩ rfl hl.1 rfl (Nat.zero_le _) (by decide) (by decide) (by decide) (by decide) dL_law_912) hS (fun v26 H26 locs26 hp hC26 hS26 => ?_)
  obtain ⟨hp1, hp2a⟩ := hp
  have hMI : MI X H26 m1 ca := hMI.cl hC K.gca K.g2 hp1 rfl
  have hMR : mkI X H26 x1 = mmI X H26 m1 := (mk_kp hp1 K.g1 rfl).trans (hMR.trans (mm_kp hp1 K.g2 rfl).symm)
  have hFR : flI X H26 ra = tpdI X H26 m1 := (fl_kp hp1 K.gra rfl).trans (hFR.trans (tpd_kp hp1 K.g2 rfl).symm)
  have hSd := hSH; have hSH : SHP X Γ H26 x1 ta td nd := hSH.kp K.g1 hp1 rfl
  have hTr0 := hTR; have hNr0 := hNR; have hTm : TMm tm ts H H26 := TMm.kp0 hp1 K.gtm K.gts rfl; have hNm : NSm (nM na H) (nM na H26) := nM_kp0 hp1 K.gna rfl
  have hTc : TSm X td H H26 := TSm.kp TSm.rf hp1 hSH rfl; have hTR := hTR.same hTc hTm
  have hNc : NSm (nC nd H) (nC nd H26) := nC_kp NSm.rf hp1 hSH rfl; have hNR := hNR.same hTc hNc hNm
  have hpa := hp2a; have hCA := hC
  have hC := hC26; have hS := hS26
  refine lv_pop hx hb dL_law_915 rfl ?_
  refine lv_aload_n hx hb dL_law_916 rfl (lv_at hl 1 rfl) ?_
  refine lv_aload_n hx hb dL_law_917 rfl (lv_at hl 3 rfl) ?_
  refine lv_iload_n hx hb dL_law_918 rfl (lv_at hl 0 rfl) ?_
  refine lv_iconst (v := 1) hx hb dL_law_919 rfl ?_
  refine lv_iadd hx hb dL_law_920 (lv_topi (fun v27 e27 => ?_))
  have e27i : v27.toInt = z + 1 := i_add e27 ez (by decide) (by omega) (by omega)
  have hq27 : v27 = v21 := e27.trans e21.symm
  refine va_sld hx hb K.hX K.hbl K.hbA hS (i_in e27i (by omega) (by omega)) dL_law_921 ?_
  rw [hq27]
  refine lv_aload_n hx hb dL_law_922 rfl (lv_at hl 3 rfl) ?_
  refine lv_iload_n hx hb dL_law_923 rfl (lv_at hl 0 rfl) ?_
  refine lv_iconst (v := 2) hx hb dL_law_924 rfl ?_
  refine lv_iadd hx hb dL_law_925 (lv_topi (fun v28 e28 => ?_))
  have e28i : v28.toInt = z + 2 := i_add e28 ez (by decide) (by omega) (by omega)
  have hq28 : v28 = v22 := e28.trans e22.symm
  refine va_sld hx hb K.hX K.hbl K.hbA hS (i_in e28i (by omega) (by omega)) dL_law_926 ?_
  rw [hq28]
  refine lv_aload_n hx hb dL_law_927 rfl (lv_at hl 3 rfl) ?_
  refine lv_iload_n hx hb dL_law_928 rfl (lv_at hl 0 rfl) ?_
  refine lv_iconst (v := 3) hx hb dL_law_929 rfl ?_
  refine lv_iadd hx hb dL_law_930 (lv_topi (fun v29 e29 => ?_))
  have e29i : v29.toInt = z + 3 := i_add e29 ez (by decide) (by omega) (by omega)
  have hq29 : v29 = v23 := e29.trans e23.symm
  refine va_sld hx hb K.hX K.hbl K.hbA hS (i_in e29i (by omega) (by omega)) dL_law_931 ?_
  rw [hq29]
  refine lv_aload_n hx hb dL_law_932 rfl (lv_at hl 3 rfl) ?_
  refine lv_iload_n hx hb dL_law_933 rfl (lv_at hl 0 rfl) ?_
  refine lv_iconst (v := 4) hx hb dL_law_934 rfl ?_
  refine lv_iadd hx hb dL_law_935 (lv_topi (fun v30 e30 => ?_))
  have e30i : v30.toInt = z + 4 := i_add e30 ez (by decide) (by omega) (by omega)
  have hq30 : v30 = v24 := e30.trans e24.symm
  refine va_sld hx hb K.hX K.hbl K.hbA hS (i_in e30i (by omega) (by omega)) dL_law_936 ?_
  rw [hq30]
  refine lv_aload_n hx hb dL_law_937 rfl (lv_at hl 3 rfl) ?_
  refine lv_iload_n hx hb dL_law_938 rfl (lv_at hl 0 rfl) ?_
  refine lv_iconst (v := 5) hx hb dL_law_939 rfl ?_
  refine lv_iadd hx hb dL_law_940 (lv_topi (fun v31 e31 => ?_))
  have e31i : v31.toInt = z + 5 := i_add e31 ez (by decide) (by omega) (by omega)
  have hq31 : v31 = v25 := e31.trans e25.symm
  refine va_sld hx hb K.hX K.hbl K.hbA hS (i_in e31i (by omega) (by omega)) dL_law_941 ?_
  rw [hq31]
  refine r_goI (r_runV (As := [.int (xs v21.toNatClampNeg), .int (xs v22.toNatClampNeg), .int (xs v23.toNatClampNeg), .int (xs v24.toNatClampNeg), .int (xs v25.toNatClampNeg)]) (rest := []) E hC hS (m_X12_steal l X Γ H26 hC m1 K.g2 (xs v21.toNatClampNeg) (a1 := ((xs v21.toNatClampNeg) : Int32).toInt) rfl (xs v22.toNatClampNeg) (a2 := ((xs v22.toNatClampNeg) : Int32).toInt) rfl (xs v23.toNatClampNeg) (a3 := ((xs v23.toNatClampNeg) : Int32).toInt) rfl (xs v24.toNatClampNeg) (a4 := ((xs v24.toNatClampNeg) : Int32).toInt) rfl (xs v25.toNatClampNeg) (a5 := ((xs v25.toNatClampNeg) : Int32).toInt) rfl ca K.gca K.uc hMI.c0.2.2.1) lcw_X12_steal lcl_109 K.g2 ⟨rfl, rfl⟩ rfl hl.1 rfl (Nat.zero_le _) (by decide) (by decide) (by decide) (by decide) dL_law_942) hS (fun v32 H32 locs32 hp hC32 hS32 => ?_)
  obtain ⟨hp1, hp2b⟩ := hp
  obtain ⟨hp1, hu⟩ := hp1
  have hMI : MI X H32 m1 ca := hMI.uh hC K.gca K.g2 hp1 hu rfl rfl
  have hMR : mkI X H32 x1 = mmI X H32 m1 := (mk_kp hp1 K.g1 rfl).trans (hMR.trans (mm_kp hp1 K.g2 rfl).symm)
  have hFR : flI X H32 ra = tpdI X H32 m1 := (fl_kp hp1 K.gra rfl).trans (hFR.trans (tpd_kp hp1 K.g2 rfl).symm)
  have hSd := hSH; have hSH : SHP X Γ H32 x1 ta td nd := hSH.kpM K.g1 hp1 rfl
  have hTc2 : TSm X td H26 H32 := TSm.kp1 hp1 hSH rfl; have hNc2 : NSm (nC nd H26) (nC nd H32) := nC_kp1 hp1 hSH rfl
  have hTrm := hTR; have hTm2 : TMm tm ts H26 H32 := TMm.kp TMm.rf hp1 K.gtm K.gts rfl; have hTR := hTR.same hTc2 hTm2
  have hpb := hp2b
  have hNm2 : NSm (nM na H26) (nM na H32) := nM_kp NSm.rf hp1 K.gna rfl; have hNrm := hNR; have hNR := hNR.same hTc2 hNc2 hNm2
  have hC := hC32; have hS := hS32
  refine lv_pop hx hb dL_law_945 rfl ?_
  refine lv_goto (tgt := 1667) hx hb dL_law_946 rfl ?_
  exact hk _ _ hC hS hMI hMR hFR hSH hTR hNR
set_option maxRecDepth 100000 in
set_option maxHeartbeats 4000000 in
theorem law_21 (l : Launch) {p : Program} {e : Env} {s : State} {m : MethodId} {below : List Frame} {meth : Method} {c : Code} {X : xW} {Γ : Nat → Option Nat} {b L : Nat} {xs : Nat → Int32} {x1 m1 ca ka oa ra ta tm ts na : Nat} {td nd : Nat → Nat} (K : LK p s m meth c X Γ b L xs x1 m1 ca ka oa ra tm ts na) {H : Heap} {locs : List Loc} {ls : Array Slot} {Q : State → Prop} {i : Int32} {z : Int} (ez : i.toInt = z) (h0z : 0 ≤ z) (hzL : z + 6 ≤ L) (hC : Conf X Γ H) (hS : va_S (AΓ Γ) s.heap H locs) (hMI : MI X H m1 ca) (hMR : mkI X H x1 = mmI X H m1) (hFR : flI X H ra = tpdI X H m1) (hSH : SHP X Γ H x1 ta td nd) (hTR : TRl X td tm ts H) (hNR : NRl X td nd na H) (hl : lv_has ls 4 [(3, .int i), (2, .ref m1), (1, .ref x1), (0, .ref b)]) (hk : ∀ (H1 : Heap) (locs1 : List Loc), Conf X Γ H1 → va_S (AΓ Γ) s.heap H1 locs1 → MI X H1 m1 ca → mkI X H1 x1 = mmI X H1 m1 → flI X H1 ra = tpdI X H1 m1 → SHP X Γ H1 x1 ta td nd → TRl X td tm ts H1 → NRl X td nd na H1 → W p l e room_1 s m #[Value.ref b] below meth c H1 locs1 147 13128 Q (F0 m 1667 ls [])) : W p l e room_1 s m #[Value.ref b] below meth c H locs 147 13128 Q (F0 m 949 ls []) := by
  have E := K.E; have hx := E.1; have hb := E.2.1; have hLl := K.hL
  refine lv_aload_n hx hb dL_law_949 rfl (lv_at hl 2 rfl) ?_
  refine r_goI (r_runV (As := []) (rest := []) E hC hS (m_X11_night l X Γ H hC x1 K.g1) lcw_X11_night lcl_110 K.g1 ⟨rfl, rfl⟩ rfl hl.1 rfl (Nat.zero_le _) (by decide) (by decide) (by decide) (by decide) dL_law_950) hS (fun v21 H21 locs21 hp hC21 hS21 => ?_)
  obtain ⟨hp1, hp2a⟩ := hp
  have hMI : MI X H21 m1 ca := hMI.cl hC K.gca K.g2 hp1 rfl
  have hMR : mkI X H21 x1 = mmI X H21 m1 := (mk_kp hp1 K.g1 rfl).trans (hMR.trans (mm_kp hp1 K.g2 rfl).symm)
  have hFR : flI X H21 ra = tpdI X H21 m1 := (fl_kp hp1 K.gra rfl).trans (hFR.trans (tpd_kp hp1 K.g2 rfl).symm)
  have hSd := hSH; have hSH : SHP X Γ H21 x1 ta td nd := hSH.kp K.g1 hp1 rfl
  have hTr0 := hTR; have hNr0 := hNR; have hTm : TMm tm ts H H21 := TMm.kp0 hp1 K.gtm K.gts rfl; have hNm : NSm (nM na H) (nM na H21) := nM_kp0 hp1 K.gna rfl
  have hTc : TSm X td H H21 := TSm.kp TSm.rf hp1 hSH rfl; have hTR := hTR.same hTc hTm
  have hNc : NSm (nC nd H) (nC nd H21) := nC_kp NSm.rf hp1 hSH rfl; have hNR := hNR.same hTc hNc hNm
  have hpa := hp2a; have hCA := hC
  have hC := hC21; have hS := hS21
  refine lv_pop hx hb dL_law_953 rfl ?_
  refine lv_aload_n hx hb dL_law_954 rfl (lv_at hl 1 rfl) ?_
  refine r_goI (r_runV (As := []) (rest := []) E hC hS (m_X12_night l X Γ H21 hC m1 K.g2 ca K.gca K.uc hMI.c0.2.2.1) lcw_X12_night lcl_113 K.g2 ⟨rfl, rfl⟩ rfl hl.1 rfl (Nat.zero_le _) (by decide) (by decide) (by decide) (by decide) dL_law_955) hS (fun v22 H22 locs22 hp hC22 hS22 => ?_)
  obtain ⟨hp1, hp2b⟩ := hp
  obtain ⟨hp1, hu⟩ := hp1
  have hMI : MI X H22 m1 ca := hMI.uh hC K.gca K.g2 hp1 hu rfl rfl
  have hMR : mkI X H22 x1 = mmI X H22 m1 := (mk_kp hp1 K.g1 rfl).trans (hMR.trans (mm_kp hp1 K.g2 rfl).symm)
  have hFR : flI X H22 ra = tpdI X H22 m1 := (fl_kp hp1 K.gra rfl).trans (hFR.trans (tpd_kp hp1 K.g2 rfl).symm)
  have hSd := hSH; have hSH : SHP X Γ H22 x1 ta td nd := hSH.kpM K.g1 hp1 rfl
  have hTc2 : TSm X td H21 H22 := TSm.kp1 hp1 hSH rfl; have hNc2 : NSm (nC nd H21) (nC nd H22) := nC_kp1 hp1 hSH rfl
  have hTrm := hTR; have hTm2 : TMm tm ts H21 H22 := TMm.kp TMm.rf hp1 K.gtm K.gts rfl; have hTR := hTR.same hTc2 hTm2
  have hpb := hp2b
  have hNm2 : NSm (nM na H21) (nM na H22) := nM_kp NSm.rf hp1 K.gna rfl; have hNrm := hNR; have hNR := hNR.same hTc2 hNc2 hNm2
  have hC := hC22; have hS := hS22
  refine lv_pop hx hb dL_law_958 rfl ?_
  refine lv_goto (tgt := 1667) hx hb dL_law_959 rfl ?_
  exact hk _ _ hC hS hMI hMR hFR hSH hTR hNR
set_option maxRecDepth 100000 in
set_option maxHeartbeats 4000000 in
theorem law_22 (l : Launch) {p : Program} {e : Env} {s : State} {m : MethodId} {below : List Frame} {meth : Method} {c : Code} {X : xW} {Γ : Nat → Option Nat} {b L : Nat} {xs : Nat → Int32} {x1 m1 ca ka oa ra ta tm ts na : Nat} {td nd : Nat → Nat} (K : LK p s m meth c X Γ b L xs x1 m1 ca ka oa ra tm ts na) {H : Heap} {locs : List Loc} {ls : Array Slot} {Q : State → Prop} {i : Int32} {z : Int} (ez : i.toInt = z) (h0z : 0 ≤ z) (hzL : z + 6 ≤ L) (hC : Conf X Γ H) (hS : va_S (AΓ Γ) s.heap H locs) (hMI : MI X H m1 ca) (hMR : mkI X H x1 = mmI X H m1) (hFR : flI X H ra = tpdI X H m1) (hSH : SHP X Γ H x1 ta td nd) (hTR : TRl X td tm ts H) (hNR : NRl X td nd na H) (hl : lv_has ls 4 [(3, .int i), (2, .ref m1), (1, .ref x1), (0, .ref b)]) (hk : ∀ (H1 : Heap) (locs1 : List Loc), Conf X Γ H1 → va_S (AΓ Γ) s.heap H1 locs1 → MI X H1 m1 ca → mkI X H1 x1 = mmI X H1 m1 → flI X H1 ra = tpdI X H1 m1 → SHP X Γ H1 x1 ta td nd → TRl X td tm ts H1 → NRl X td nd na H1 → W p l e room_1 s m #[Value.ref b] below meth c H1 locs1 147 13128 Q (F0 m 1667 ls [])) : W p l e room_1 s m #[Value.ref b] below meth c H locs 147 13128 Q (F0 m 962 ls []) := by
  have E := K.E; have hx := E.1; have hb := E.2.1; have hLl := K.hL
  refine lv_aload_n hx hb dL_law_962 rfl (lv_at hl 2 rfl) ?_
  refine lv_aload_n hx hb dL_law_963 rfl (lv_at hl 3 rfl) ?_
  refine lv_iload_n hx hb dL_law_964 rfl (lv_at hl 0 rfl) ?_
  refine lv_iconst (v := 1) hx hb dL_law_965 rfl ?_
  refine lv_iadd hx hb dL_law_966 (lv_topi (fun v21 e21 => ?_))
  have e21i : v21.toInt = z + 1 := i_add e21 ez (by decide) (by omega) (by omega)
  refine va_sld hx hb K.hX K.hbl K.hbA hS (i_in e21i (by omega) (by omega)) dL_law_967 ?_
  refine lv_aload_n hx hb dL_law_968 rfl (lv_at hl 3 rfl) ?_
  refine lv_iload_n hx hb dL_law_969 rfl (lv_at hl 0 rfl) ?_
  refine lv_iconst (v := 2) hx hb dL_law_970 rfl ?_
  refine lv_iadd hx hb dL_law_971 (lv_topi (fun v22 e22 => ?_))
  have e22i : v22.toInt = z + 2 := i_add e22 ez (by decide) (by omega) (by omega)
  refine va_sld hx hb K.hX K.hbl K.hbA hS (i_in e22i (by omega) (by omega)) dL_law_972 ?_
  refine r_goI (r_runV (As := [.int (xs v21.toNatClampNeg), .int (xs v22.toNatClampNeg)]) (rest := []) E hC hS (m_X11_room l X Γ H hC x1 K.g1 (xs v21.toNatClampNeg) (a1 := ((xs v21.toNatClampNeg) : Int32).toInt) rfl (xs v22.toNatClampNeg) (a2 := ((xs v22.toNatClampNeg) : Int32).toInt) rfl) lcw_X11_room lcl_114 K.g1 ⟨rfl, rfl⟩ rfl hl.1 rfl (Nat.zero_le _) (by decide) (by decide) (by decide) (by decide) dL_law_973) hS (fun v23 H23 locs23 hp hC23 hS23 => ?_)
  obtain ⟨hp1, hp2a⟩ := hp
  have hMI : MI X H23 m1 ca := hMI.cl hC K.gca K.g2 hp1 rfl
  have hMR : mkI X H23 x1 = mmI X H23 m1 := (mk_kp hp1 K.g1 rfl).trans (hMR.trans (mm_kp hp1 K.g2 rfl).symm)
  have hFR : flI X H23 ra = tpdI X H23 m1 := (fl_kp hp1 K.gra rfl).trans (hFR.trans (tpd_kp hp1 K.g2 rfl).symm)
  have hSd := hSH; have hSH : SHP X Γ H23 x1 ta td nd := hSH.kp K.g1 hp1 rfl
  have hTr0 := hTR; have hNr0 := hNR; have hTm : TMm tm ts H H23 := TMm.kp0 hp1 K.gtm K.gts rfl; have hNm : NSm (nM na H) (nM na H23) := nM_kp0 hp1 K.gna rfl
  have hTc : TSm X td H H23 := TSm.kp TSm.rf hp1 hSH rfl; have hTR := hTR.same hTc hTm
  have hNc : NSm (nC nd H) (nC nd H23) := nC_kp NSm.rf hp1 hSH rfl; have hNR := hNR.same hTc hNc hNm
  have hpa := hp2a; have hCA := hC
  have hC := hC23; have hS := hS23
  refine lv_pop hx hb dL_law_976 rfl ?_
  refine lv_aload_n hx hb dL_law_977 rfl (lv_at hl 1 rfl) ?_
  refine lv_aload_n hx hb dL_law_978 rfl (lv_at hl 3 rfl) ?_
  refine lv_iload_n hx hb dL_law_979 rfl (lv_at hl 0 rfl) ?_
  refine lv_iconst (v := 1) hx hb dL_law_980 rfl ?_
  refine lv_iadd hx hb dL_law_981 (lv_topi (fun v24 e24 => ?_))
  have e24i : v24.toInt = z + 1 := i_add e24 ez (by decide) (by omega) (by omega)
  have hq24 : v24 = v21 := e24.trans e21.symm
  refine va_sld hx hb K.hX K.hbl K.hbA hS (i_in e24i (by omega) (by omega)) dL_law_982 ?_
  rw [hq24]
  refine lv_aload_n hx hb dL_law_983 rfl (lv_at hl 3 rfl) ?_
  refine lv_iload_n hx hb dL_law_984 rfl (lv_at hl 0 rfl) ?_
  refine lv_iconst (v := 2) hx hb dL_law_985 rfl ?_
  refine lv_iadd hx hb dL_law_986 (lv_topi (fun v25 e25 => ?_))
  have e25i : v25.toInt = z + 2 := i_add e25 ez (by decide) (by omega) (by omega)
  have hq25 : v25 = v22 := e25.trans e22.symm
  refine va_sld hx hb K.hX K.hbl K.hbA hS (i_in e25i (by omega) (by omega)) dL_law_987 ?_
  rw [hq25]
  refine r_goI (r_runV (As := [.int (xs v21.toNatClampNeg), .int (xs v22.toNatClampNeg)]) (rest := []) E hC hS (m_X12_room l X Γ H23 hC m1 K.g2 (xs v21.toNatClampNeg) (a1 := ((xs v21.toNatClampNeg) : Int32).toInt) rfl (xs v22.toNatClampNeg) (a2 := ((xs v22.toNatClampNeg) : Int32).toInt) rfl ca K.gca K.uc) lcw_X12_room lcl_117 K.g2 ⟨rfl, rfl⟩ rfl hl.1 rfl (Nat.zero_le _) (by decide) (by decide) (by decide) (by decide) dL_law_988) hS (fun v26 H26 locs26 hp hC26 hS26 => ?_)
  obtain ⟨hp1, hp2b⟩ := hp
  have hMI : MI X H26 m1 ca := hMI.kp hC K.gca K.g2 hp1 rfl rfl rfl
  have hMR : mkI X H26 x1 = mmI X H26 m1 := (mk_kp hp1 K.g1 rfl).trans (hMR.trans (mm_kp hp1 K.g2 rfl).symm)
  have hFR : flI X H26 ra = tpdI X H26 m1 := (fl_kp hp1 K.gra rfl).trans (hFR.trans (tpd_kp hp1 K.g2 rfl).symm)
  have hSd := hSH; have hSH : SHP X Γ H26 x1 ta td nd := hSH.kpM K.g1 hp1 rfl
  have hTc2 : TSm X td H23 H26 := TSm.kp1 hp1 hSH rfl; have hNc2 : NSm (nC nd H23) (nC nd H26) := nC_kp1 hp1 hSH rfl
  have hTrm := hTR; have hTm2 : TMm tm ts H23 H26 := TMm.kp TMm.rf hp1 K.gtm K.gts rfl; have hTR := hTR.same hTc2 hTm2
  have hpb := hp2b
  have hNm2 : NSm (nM na H23) (nM na H26) := nM_kp NSm.rf hp1 K.gna rfl; have hNrm := hNR; have hNR := hNR.same hTc2 hNc2 hNm2
  have hC := hC26; have hS := hS26
  refine lv_pop hx hb dL_law_991 rfl ?_
  refine lv_goto (tgt := 1667) hx hb dL_law_992 rfl ?_
  exact hk _ _ hC hS hMI hMR hFR hSH hTR hNR
set_option maxRecDepth 100000 in
set_option maxHeartbeats 4000000 in
theorem law_23 (l : Launch) {p : Program} {e : Env} {s : State} {m : MethodId} {below : List Frame} {meth : Method} {c : Code} {X : xW} {Γ : Nat → Option Nat} {b L : Nat} {xs : Nat → Int32} {x1 m1 ca ka oa ra ta tm ts na : Nat} {td nd : Nat → Nat} (K : LK p s m meth c X Γ b L xs x1 m1 ca ka oa ra tm ts na) {H : Heap} {locs : List Loc} {ls : Array Slot} {Q : State → Prop} {i : Int32} {z : Int} (ez : i.toInt = z) (h0z : 0 ≤ z) (hzL : z + 6 ≤ L) (hC : Conf X Γ H) (hS : va_S (AΓ Γ) s.heap H locs) (hMI : MI X H m1 ca) (hMR : mkI X H x1 = mmI X H m1) (hFR : flI X H ra = tpdI X H m1) (hSH : SHP X Γ H x1 ta td nd) (hTR : TRl X td tm ts H) (hNR : NRl X td nd na H) (hl : lv_has ls 4 [(3, .int i), (2, .ref m1), (1, .ref x1), (0, .ref b)]) (hk : ∀ (H1 : Heap) (locs1 : List Loc), Conf X Γ H1 → va_S (AΓ Γ) s.heap H1 locs1 → MI X H1 m1 ca → mkI X H1 x1 = mmI X H1 m1 → flI X H1 ra = tpdI X H1 m1 → SHP X Γ H1 x1 ta td nd → TRl X td tm ts H1 → NRl X td nd na H1 → W p l e room_1 s m #[Value.ref b] below meth c H1 locs1 147 13128 Q (F0 m 1667 ls [])) : W p l e room_1 s m #[Value.ref b] below meth c H locs 147 13128 Q (F0 m 995 ls []) := by
  have E := K.E; have hx := E.1; have hb := E.2.1; have hLl := K.hL
  refine lv_aload_n hx hb dL_law_995 rfl (lv_at hl 2 rfl) ?_
  refine lv_aload_n hx hb dL_law_996 rfl (lv_at hl 3 rfl) ?_
  refine lv_iload_n hx hb dL_law_997 rfl (lv_at hl 0 rfl) ?_
  refine lv_iconst (v := 1) hx hb dL_law_998 rfl ?_
  refine lv_iadd hx hb dL_law_999 (lv_topi (fun v21 e21 => ?_))
  have e21i : v21.toInt = z + 1 := i_add e21 ez (by decide) (by omega) (by omega)
  refine va_sld hx hb K.hX K.hbl K.hbA hS (i_in e21i (by omega) (by omega)) dL_law_1000 ?_
  refine r_goI (r_runV (As := [.int (xs v21.toNatClampNeg)]) (rest := []) E hC hS (m_X11_most l X Γ H hC x1 K.g1 (xs v21.toNatClampNeg) (a1 := ((xs v21.toNatClampNeg) : Int32).toInt) rfl) lcw_X11_most lcl_118 K.g1 ⟨rfl, rfl⟩ rfl hl.1 rfl (Nat.zero_le _) (by decide) (by decide) (by decide) (by decide) dL_law_1001) hS (fun v22 H22 locs22 hp hC22 hS22 => ?_)
  obtain ⟨hp1, hp2a⟩ := hp
  have hMI : MI X H22 m1 ca := hMI.cl hC K.gca K.g2 hp1 rfl
  have hMR : mkI X H22 x1 = mmI X H22 m1 := (mk_kp hp1 K.g1 rfl).trans (hMR.trans (mm_kp hp1 K.g2 rfl).symm)
  have hFR : flI X H22 ra = tpdI X H22 m1 := (fl_kp hp1 K.gra rfl).trans (hFR.trans (tpd_kp hp1 K.g2 rfl).symm)
  have hSd := hSH; have hSH : SHP X Γ H22 x1 ta td nd := hSH.kp K.g1 hp1 rfl
  have hTr0 := hTR; have hNr0 := hNR; have hTm : TMm tm ts H H22 := TMm.kp0 hp1 K.gtm K.gts rfl; have hNm : NSm (nM na H) (nM na H22) := nM_kp0 hp1 K.gna rfl
  have hTc : TSm X td H H22 := TSm.kp TSm.rf hp1 hSH rfl; have hTR := hTR.same hTc hTm
  have hNc : NSm (nC nd H) (nC nd H22) := nC_kp NSm.rf hp1 hSH rfl; have hNR := hNR.same hTc hNc hNm
  have hpa := hp2a; have hCA := hC
  have hC := hC22; have hS := hS22
  refine lv_pop hx hb dL_law_1004 rfl ?_
  refine lv_aload_n hx hb dL_law_1005 rfl (lv_at hl 1 rfl) ?_
  refine lv_aload_n hx hb dL_law_1006 rfl (lv_at hl 3 rfl) ?_
  refine lv_iload_n hx hb dL_law_1007 rfl (lv_at hl 0 rfl) ?_
  refine lv_iconst (v := 1) hx hb dL_law_1008 rfl ?_
  refine lv_iadd hx hb dL_law_1009 (lv_topi (fun v23 e23 => ?_))
  have e23i : v23.toInt = z + 1 := i_add e23 ez (by decide) (by omega) (by omega)
  have hq23 : v23 = v21 := e23.trans e21.symm
  refine va_sld hx hb K.hX K.hbl K.hbA hS (i_in e23i (by omega) (by omega)) dL_law_1010 ?_
  rw [hq23]
  refine r_goI (r_runV (As := [.int (xs v21.toNatClampNeg)]) (rest := []) E hC hS (m_X12_most l X Γ H22 hC m1 K.g2 (xs v21.toNatClampNeg) (a1 := ((xs v21.toNatClampNeg) : Int32).toInt) rfl ca K.gca K.uc) lcw_X12_most lcl_121 K.g2 ⟨rfl, rfl⟩ rfl hl.1 rfl (Nat.zero_le _) (by decide) (by decide) (by decide) (by decide) dL_law_1011) hS (fun v24 H24 locs24 hp hC24 hS24 => ?_)
  obtain ⟨hp1, hp2b⟩ := hp
  have hMI : MI X H24 m1 ca := hMI.kp hC K.gca K.g2 hp1 rfl rfl rfl
  have hMR : mkI X H24 x1 = mmI X H24 m1 := (mk_kp hp1 K.g1 rfl).trans (hMR.trans (mm_kp hp1 K.g2 rfl).symm)
  have hFR : flI X H24 ra = tpdI X H24 m1 := (fl_kp hp1 K.gra rfl).trans (hFR.trans (tpd_kp hp1 K.g2 rfl).symm)
  have hSd := hSH; have hSH : SHP X Γ H24 x1 ta td nd := hSH.kpM K.g1 hp1 rfl
  have hTc2 : TSm X td H22 H24 := TSm.kp1 hp1 hSH rfl; have hNc2 : NSm (nC nd H22) (nC nd H24) := nC_kp1 hp1 hSH rfl
  have hTrm := hTR; have hTm2 : TMm tm ts H22 H24 := TMm.kp TMm.rf hp1 K.gtm K.gts rfl; have hTR := hTR.same hTc2 hTm2
  have hpb := hp2b
  have hNm2 : NSm (nM na H22) (nM na H24) := nM_kp NSm.rf hp1 K.gna rfl; have hNrm := hNR; have hNR := hNR.same hTc2 hNc2 hNm2
  have hC := hC24; have hS := hS24
  refine lv_pop hx hb dL_law_1014 rfl ?_
  refine lv_goto (tgt := 1667) hx hb dL_law_1015 rfl ?_
  exact hk _ _ hC hS hMI hMR hFR hSH hTR hNR
set_option maxRecDepth 100000 in
set_option maxHeartbeats 4000000 in
theorem law_24 (l : Launch) {p : Program} {e : Env} {s : State} {m : MethodId} {below : List Frame} {meth : Method} {c : Code} {X : xW} {Γ : Nat → Option Nat} {b L : Nat} {xs : Nat → Int32} {x1 m1 ca ka oa ra ta tm ts na : Nat} {td nd : Nat → Nat} (K : LK p s m meth c X Γ b L xs x1 m1 ca ka oa ra tm ts na) {H : Heap} {locs : List Loc} {ls : Array Slot} {Q : State → Prop} {i : Int32} {z : Int} (ez : i.toInt = z) (h0z : 0 ≤ z) (hzL : z + 6 ≤ L) (hC : Conf X Γ H) (hS : va_S (AΓ Γ) s.heap H locs) (hMI : MI X H m1 ca) (hMR : mkI X H x1 = mmI X H m1) (hFR : flI X H ra = tpdI X H m1) (hSH : SHP X Γ H x1 ta td nd) (hTR : TRl X td tm ts H) (hNR : NRl X td nd na H) (hl : lv_has ls 4 [(3, .int i), (2, .ref m1), (1, .ref x1), (0, .ref b)]) (hk : ∀ (H1 : Heap) (locs1 : List Loc), Conf X Γ H1 → va_S (AΓ Γ) s.heap H1 locs1 → MI X H1 m1 ca → mkI X H1 x1 = mmI X H1 m1 → flI X H1 ra = tpdI X H1 m1 → SHP X Γ H1 x1 ta td nd → TRl X td tm ts H1 → NRl X td nd na H1 → W p l e room_1 s m #[Value.ref b] below meth c H1 locs1 147 13128 Q (F0 m 1667 ls [])) : W p l e room_1 s m #[Value.ref b] below meth c H locs 147 13128 Q (F0 m 1018 ls []) := by
  have E := K.E; have hx := E.1; have hb := E.2.1; have hLl := K.hL
  refine lv_aload_n hx hb dL_law_1018 rfl (lv_at hl 2 rfl) ?_
  refine lv_aload_n hx hb dL_law_1019 rfl (lv_at hl 3 rfl) ?_
  refine lv_iload_n hx hb dL_law_1020 rfl (lv_at hl 0 rfl) ?_
  refine lv_iconst (v := 1) hx hb dL_law_1021 rfl ?_
  refine lv_iadd hx hb dL_law_1022 (lv_topi (fun v21 e21 => ?_))
  have e21i : v21.toInt = z + 1 := i_add e21 ez (by decide) (by omega) (by omega)
  refine va_sld hx hb K.hX K.hbl K.hbA hS (i_in e21i (by omega) (by omega)) dL_law_1023 ?_
  refine r_goI (r_runV (As := [.int (xs v21.toNatClampNeg)]) (rest := []) E hC hS (m_X11_lowest l X Γ H hC x1 K.g1 (xs v21.toNatClampNeg) (a1 := ((xs v21.toNatClampNeg) : Int32).toInt) rfl) lcw_X11_lowest lcl_122 K.g1 ⟨rfl, rfl⟩ rfl hl.1 rfl (Nat.zero_le _) (by decide) (by decide) (by decide) (by decide) dL_law_1024) hS (fun v22 H22 locs22 hp hC22 hS22 => ?_)
  obtain ⟨hp1, hp2a⟩ := hp
  have hMI : MI X H22 m1 ca := hMI.cl hC K.gca K.g2 hp1 rfl
  have hMR : mkI X H22 x1 = mmI X H22 m1 := (mk_kp hp1 K.g1 rfl).trans (hMR.trans (mm_kp hp1 K.g2 rfl).symm)
  have hFR : flI X H22 ra = tpdI X H22 m1 := (fl_kp hp1 K.gra rfl).trans (hFR.trans (tpd_kp hp1 K.g2 rfl).symm)
  have hSd := hSH; have hSH : SHP X Γ H22 x1 ta td nd := hSH.kp K.g1 hp1 rfl
  have hTr0 := hTR; have hNr0 := hNR; have hTm : TMm tm ts H H22 := TMm.kp0 hp1 K.gtm K.gts rfl; have hNm : NSm (nM na H) (nM na H22) := nM_kp0 hp1 K.gna rfl
  have hTc : TSm X td H H22 := TSm.kp TSm.rf hp1 hSH rfl; have hTR := hTR.same hTc hTm
  have hNc : NSm (nC nd H) (nC nd H22) := nC_kp NSm.rf hp1 hSH rfl; have hNR := hNR.same hTc hNc hNm
  have hpa := hp2a; have hCA := hC
  have hC := hC22; have hS := hS22
  refine lv_pop hx hb dL_law_1027 rfl ?_
  refine lv_aload_n hx hb dL_law_1028 rfl (lv_at hl 1 rfl) ?_
  refine lv_aload_n hx hb dL_law_1029 rfl (lv_at hl 3 rfl) ?_
  refine lv_iload_n hx hb dL_law_1030 rfl (lv_at hl 0 rfl) ?_
  refine lv_iconst (v := 1) hx hb dL_law_1031 rfl ?_
  refine lv_iadd hx hb dL_law_1032 (lv_topi (fun v23 e23 => ?_))
  have e23i : v23.toInt = z + 1 := i_add e23 ez (by decide) (by omega) (by omega)
  have hq23 : v23 = v21 := e23.trans e21.symm
  refine va_sld hx hb K.hX K.hbl K.hbA hS (i_in e23i (by omega) (by omega)) dL_law_1033 ?_
  rw [hq23]
  refine r_goI (r_runV (As := [.int (xs v21.toNatClampNeg)]) (rest := []) E hC hS (m_X12_lowest l X Γ H22 hC m1 K.g2 (xs v21.toNatClampNeg) (a1 := ((xs v21.toNatClampNeg) : Int32).toInt) rfl ca K.gca K.uc) lcw_X12_lowest lcl_125 K.g2 ⟨rfl, rfl⟩ rfl hl.1 rfl (Nat.zero_le _) (by decide) (by decide) (by decide) (by decide) dL_law_1034) hS (fun v24 H24 locs24 hp hC24 hS24 => ?_)
  obtain ⟨hp1, hp2b⟩ := hp
  have hMI : MI X H24 m1 ca := hMI.kp hC K.gca K.g2 hp1 rfl rfl rfl
  have hMR : mkI X H24 x1 = mmI X H24 m1 := (mk_kp hp1 K.g1 rfl).trans (hMR.trans (mm_kp hp1 K.g2 rfl).symm)
  have hFR : flI X H24 ra = tpdI X H24 m1 := (fl_kp hp1 K.gra rfl).trans (hFR.trans (tpd_kp hp1 K.g2 rfl).symm)
  have hSd := hSH; have hSH : SHP X Γ H24 x1 ta td nd := hSH.kpM K.g1 hp1 rfl
  have hTc2 : TSm X td H22 H24 := TSm.kp1 hp1 hSH rfl; have hNc2 : NSm (nC nd H22) (nC nd H24) := nC_kp1 hp1 hSH rfl
  have hTrm := hTR; have hTm2 : TMm tm ts H22 H24 := TMm.kp TMm.rf hp1 K.gtm K.gts rfl; have hTR := hTR.same hTc2 hTm2
  have hpb := hp2b
  have hNm2 : NSm (nM na H22) (nM na H24) := nM_kp NSm.rf hp1 K.gna rfl; have hNrm := hNR; have hNR := hNR.same hTc2 hNc2 hNm2
  have hC := hC24; have hS := hS24
  refine lv_pop hx hb dL_law_1037 rfl ?_
  refine lv_goto (tgt := 1667) hx hb dL_law_1038 rfl ?_
  exact hk _ _ hC hS hMI hMR hFR hSH hTR hNR
set_option maxRecDepth 100000 in
set_option maxHeartbeats 4000000 in
theorem law_25 (l : Launch) {p : Program} {e : Env} {s : State} {m : MethodId} {below : List Frame} {meth : Method} {c : Code} {X : xW} {Γ : Nat → Option Nat} {b L : Nat} {xs : Nat → Int32} {x1 m1 ca ka oa ra ta tm ts na : Nat} {td nd : Nat → Nat} (K : LK p s m meth c X Γ b L xs x1 m1 ca ka oa ra tm ts na) {H : Heap} {locs : List Loc} {ls : Array Slot} {Q : State → Prop} {i : Int32} {z : Int} (ez : i.toInt = z) (h0z : 0 ≤ z) (hzL : z + 6 ≤ L) (hC : Conf X Γ H) (hS : va_S (AΓ Γ) s.heap H locs) (hMI : MI X H m1 ca) (hMR : mkI X H x1 = mmI X H m1) (hFR : flI X H ra = tpdI X H m1) (hSH : SHP X Γ H x1 ta td nd) (hTR : TRl X td tm ts H) (hNR : NRl X td nd na H) (hl : lv_has ls 4 [(3, .int i), (2, .ref m1), (1, .ref x1), (0, .ref b)]) (hk : ∀ (H1 : Heap) (locs1 : List Loc), Conf X Γ H1 → va_S (AΓ Γ) s.heap H1 locs1 → MI X H1 m1 ca → mkI X H1 x1 = mmI X H1 m1 → flI X H1 ra = tpdI X H1 m1 → SHP X Γ H1 x1 ta td nd → TRl X td tm ts H1 → NRl X td nd na H1 → W p l e room_1 s m #[Value.ref b] below meth c H1 locs1 147 13128 Q (F0 m 1667 ls [])) : W p l e room_1 s m #[Value.ref b] below meth c H locs 147 13128 Q (F0 m 1041 ls []) := by
  have E := K.E; have hx := E.1; have hb := E.2.1; have hLl := K.hL
  refine lv_aload_n hx hb dL_law_1041 rfl (lv_at hl 2 rfl) ?_
  refine lv_aload_n hx hb dL_law_1042 rfl (lv_at hl 3 rfl) ?_
  refine lv_iload_n hx hb dL_law_1043 rfl (lv_at hl 0 rfl) ?_
  refine lv_iconst (v := 1) hx hb dL_law_1044 rfl ?_
  refine lv_iadd hx hb dL_law_1045 (lv_topi (fun v21 e21 => ?_))
  have e21i : v21.toInt = z + 1 := i_add e21 ez (by decide) (by omega) (by omega)
  refine va_sld hx hb K.hX K.hbl K.hbA hS (i_in e21i (by omega) (by omega)) dL_law_1046 ?_
  refine r_goI (r_runV (As := [.int (xs v21.toNatClampNeg)]) (rest := []) E hC hS (m_X11_highest l X Γ H hC x1 K.g1 (xs v21.toNatClampNeg) (a1 := ((xs v21.toNatClampNeg) : Int32).toInt) rfl) lcw_X11_highest lcl_126 K.g1 ⟨rfl, rfl⟩ rfl hl.1 rfl (Nat.zero_le _) (by decide) (by decide) (by decide) (by decide) dL_law_1047) hS (fun v22 H22 locs22 hp hC22 hS22 => ?_)
  obtain ⟨hp1, hp2a⟩ := hp
  have hMI : MI X H22 m1 ca := hMI.cl hC K.gca K.g2 hp1 rfl
  have hMR : mkI X H22 x1 = mmI X H22 m1 := (mk_kp hp1 K.g1 rfl).trans (hMR.trans (mm_kp hp1 K.g2 rfl).symm)
  have hFR : flI X H22 ra = tpdI X H22 m1 := (fl_kp hp1 K.gra rfl).trans (hFR.trans (tpd_kp hp1 K.g2 rfl).symm)
  have hSd := hSH; have hSH : SHP X Γ H22 x1 ta td nd := hSH.kp K.g1 hp1 rfl
  have hTr0 := hTR; have hNr0 := hNR; have hTm : TMm tm ts H H22 := TMm.kp0 hp1 K.gtm K.gts rfl; have hNm : NSm (nM na H) (nM na H22) := nM_kp0 hp1 K.gna rfl
  have hTc : TSm X td H H22 := TSm.kp TSm.rf hp1 hSH rfl; have hTR := hTR.same hTc hTm
  have hNc : NSm (nC nd H) (nC nd H22) := nC_kp NSm.rf hp1 hSH rfl; have hNR := hNR.same hTc hNc hNm
  have hpa := hp2a; have hCA := hC
  have hC := hC22; have hS := hS22
  refine lv_pop hx hb dL_law_1050 rfl ?_
  refine lv_aload_n hx hb dL_law_1051 rfl (lv_at hl 1 rfl) ?_
  refine lv_aload_n hx hb dL_law_1052 rfl (lv_at hl 3 rfl) ?_
  refine lv_iload_n hx hb dL_law_1053 rfl (lv_at hl 0 rfl) ?_
  refine lv_iconst (v := 1) hx hb dL_law_1054 rfl ?_
  refine lv_iadd hx hb dL_law_1055 (lv_topi (fun v23 e23 => ?_))
  have e23i : v23.toInt = z + 1 := i_add e23 ez (by decide) (by omega) (by omega)
  have hq23 : v23 = v21 := e23.trans e21.symm
  refine va_sld hx hb K.hX K.hbl K.hbA hS (i_in e23i (by omega) (by omega)) dL_law_1056 ?_
  rw [hq23]
  refine r_goI (r_runV (As := [.int (xs v21.toNatClampNeg)]) (rest := []) E hC hS (m_X12_highest l X Γ H22 hC m1 K.g2 (xs v21.toNatClampNeg) (a1 := ((xs v21.toNatClampNeg) : Int32).toInt) rfl ca K.gca K.uc) lcw_X12_highest lcl_129 K.g2 ⟨rfl, rfl⟩ rfl hl.1 rfl (Nat.zero_le _) (by decide) (by decide) (by decide) (by decide) dL_law_1057) hS (fun v24 H24 locs24 hp hC24 hS24 => ?_)
  obtain ⟨hp1, hp2b⟩ := hp
  have hMI : MI X H24 m1 ca := hMI.kp hC K.gca K.g2 hp1 rfl rfl rfl
  have hMR : mkI X H24 x1 = mmI X H24 m1 := (mk_kp hp1 K.g1 rfl).trans (hMR.trans (mm_kp hp1 K.g2 rfl).symm)
  have hFR : flI X H24 ra = tpdI X H24 m1 := (fl_kp hp1 K.gra rfl).trans (hFR.trans (tpd_kp hp1 K.g2 rfl).symm)
  have hSd := hSH; have hSH : SHP X Γ H24 x1 ta td nd := hSH.kpM K.g1 hp1 rfl
  have hTc2 : TSm X td H22 H24 := TSm.kp1 hp1 hSH rfl; have hNc2 : NSm (nC nd H22) (nC nd H24) := nC_kp1 hp1 hSH rfl
  have hTrm := hTR; have hTm2 : TMm tm ts H22 H24 := TMm.kp TMm.rf hp1 K.gtm K.gts rfl; have hTR := hTR.same hTc2 hTm2
  have hpb := hp2b
  have hNm2 : NSm (nM na H22) (nM na H24) := nM_kp NSm.rf hp1 K.gna rfl; have hNrm := hNR; have hNR := hNR.same hTc2 hNc2 hNm2
  have hC := hC24; have hS := hS24
  refine lv_pop hx hb dL_law_1060 rfl ?_
  refine lv_goto (tgt := 1667) hx hb dL_law_1061 rfl ?_
  exact hk _ _ hC hS hMI hMR hFR hSH hTR hNR
set_option maxRecDepth 100000 in
set_option maxHeartbeats 4000000 in
theorem law_26 (l : Launch) {p : Program} {e : Env} {s : State} {m : MethodId} {below : List Frame} {meth : Method} {c : Code} {X : xW} {Γ : Nat → Option Nat} {b L : Nat} {xs : Nat → Int32} {x1 m1 ca ka oa ra ta tm ts na : Nat} {td nd : Nat → Nat} (K : LK p s m meth c X Γ b L xs x1 m1 ca ka oa ra tm ts na) {H : Heap} {locs : List Loc} {ls : Array Slot} {Q : State → Prop} {i : Int32} {z : Int} (ez : i.toInt = z) (h0z : 0 ≤ z) (hzL : z + 6 ≤ L) (hC : Conf X Γ H) (hS : va_S (AΓ Γ) s.heap H locs) (hMI : MI X H m1 ca) (hMR : mkI X H x1 = mmI X H m1) (hFR : flI X H ra = tpdI X H m1) (hSH : SHP X Γ H x1 ta td nd) (hTR : TRl X td tm ts H) (hNR : NRl X td nd na H) (hl : lv_has ls 4 [(3, .int i), (2, .ref m1), (1, .ref x1), (0, .ref b)]) (hk : ∀ (H1 : Heap) (locs1 : List Loc), Conf X Γ H1 → va_S (AΓ Γ) s.heap H1 locs1 → MI X H1 m1 ca → mkI X H1 x1 = mmI X H1 m1 → flI X H1 ra = tpdI X H1 m1 → SHP X Γ H1 x1 ta td nd → TRl X td tm ts H1 → NRl X td nd na H1 → W p l e room_1 s m #[Value.ref b] below meth c H1 locs1 147 13128 Q (F0 m 1667 ls [])) : W p l e room_1 s m #[Value.ref b] below meth c H locs 147 13128 Q (F0 m 1064 ls []) := by
  have E := K.E; have hx := E.1; have hb := E.2.1; have hLl := K.hL
  refine lv_aload_n hx hb dL_law_1064 rfl (lv_at hl 2 rfl) ?_
  refine r_goI (r_runV (As := []) (rest := []) E hC hS (m_X11_steepest l X Γ H hC x1 K.g1) lcw_X11_steepest lcl_130 K.g1 ⟨rfl, rfl⟩ rfl hl.1 rfl (Nat.zero_le _) (by decide) (by decide) (by decide) (by decide) dL_law_1065) hS (fun v21 H21 locs21 hp hC21 hS21 => ?_)
  obtain ⟨hp1, hp2a⟩ := hp
  have hMI : MI X H21 m1 ca := hMI.cl hC K.gca K.g2 hp1 rfl
  have hMR : mkI X H21 x1 = mmI X H21 m1 := (mk_kp hp1 K.g1 rfl).trans (hMR.trans (mm_kp hp1 K.g2 rfl).symm)
  have hFR : flI X H21 ra = tpdI X H21 m1 := (fl_kp hp1 K.gra rfl).trans (hFR.trans (tpd_kp hp1 K.g2 rfl).symm)
  have hSd := hSH; have hSH : SHP X Γ H21 x1 ta td nd := hSH.kp K.g1 hp1 rfl
  have hTr0 := hTR; have hNr0 := hNR; have hTm : TMm tm ts H H21 := TMm.kp0 hp1 K.gtm K.gts rfl; have hNm : NSm (nM na H) (nM na H21) := nM_kp0 hp1 K.gna rfl
  have hTc : TSm X td H H21 := TSm.kp TSm.rf hp1 hSH rfl; have hTR := hTR.same hTc hTm
  have hNc : NSm (nC nd H) (nC nd H21) := nC_kp NSm.rf hp1 hSH rfl; have hNR := hNR.same hTc hNc hNm
  have hpa := hp2a; have hCA := hC
  have hC := hC21; have hS := hS21
  refine lv_pop hx hb dL_law_1068 rfl ?_
  refine lv_aload_n hx hb dL_law_1069 rfl (lv_at hl 1 rfl) ?_
  refine r_goI (r_runV (As := []) (rest := []) E hC hS (m_X12_steepest l X Γ H21 hC m1 K.g2 ca K.gca K.uc) lcw_X12_steepest lcl_133 K.g2 ⟨rfl, rfl⟩ rfl hl.1 rfl (Nat.zero_le _) (by decide) (by decide) (by decide) (by decide) dL_law_1070) hS (fun v22 H22 locs22 hp hC22 hS22 => ?_)
  obtain ⟨hp1, hp2b⟩ := hp
  have hMI : MI X H22 m1 ca := hMI.kp hC K.gca K.g2 hp1 rfl rfl rfl
  have hMR : mkI X H22 x1 = mmI X H22 m1 := (mk_kp hp1 K.g1 rfl).trans (hMR.trans (mm_kp hp1 K.g2 rfl).symm)
  have hFR : flI X H22 ra = tpdI X H22 m1 := (fl_kp hp1 K.gra rfl).trans (hFR.trans (tpd_kp hp1 K.g2 rfl).symm)
  have hSd := hSH; have hSH : SHP X Γ H22 x1 ta td nd := hSH.kpM K.g1 hp1 rfl
  have hTc2 : TSm X td H21 H22 := TSm.kp1 hp1 hSH rfl; have hNc2 : NSm (nC nd H21) (nC nd H22) := nC_kp1 hp1 hSH rfl
  have hTrm := hTR; have hTm2 : TMm tm ts H21 H22 := TMm.kp TMm.rf hp1 K.gtm K.gts rfl; have hTR := hTR.same hTc2 hTm2
  have hpb := hp2b
  have hNm2 : NSm (nM na H21) (nM na H22) := nM_kp NSm.rf hp1 K.gna rfl; have hNrm := hNR; have hNR := hNR.same hTc2 hNc2 hNm2
  have hC := hC22; have hS := hS22
  refine lv_pop hx hb dL_law_1073 rfl ?_
  refine lv_goto (tgt := 1667) hx hb dL_law_1074 rfl ?_
  exact hk _ _ hC hS hMI hMR hFR hSH hTR hNR
set_option maxRecDepth 100000 in
set_option maxHeartbeats 4000000 in
theorem law_27 (l : Launch) {p : Program} {e : Env} {s : State} {m : MethodId} {below : List Frame} {meth : Method} {c : Code} {X : xW} {Γ : Nat → Option Nat} {b L : Nat} {xs : Nat → Int32} {x1 m1 ca ka oa ra ta tm ts na : Nat} {td nd : Nat → Nat} (K : LK p s m meth c X Γ b L xs x1 m1 ca ka oa ra tm ts na) {H : Heap} {locs : List Loc} {ls : Array Slot} {Q : State → Prop} {i : Int32} {z : Int} (ez : i.toInt = z) (h0z : 0 ≤ z) (hzL : z + 6 ≤ L) (hC : Conf X Γ H) (hS : va_S (AΓ Γ) s.heap H locs) (hMI : MI X H m1 ca) (hMR : mkI X H x1 = mmI X H m1) (hFR : flI X H ra = tpdI X H m1) (hSH : SHP X Γ H x1 ta td nd) (hTR : TRl X td tm ts H) (hNR : NRl X td nd na H) (hl : lv_has ls 4 [(3, .int i), (2, .ref m1), (1, .ref x1), (0, .ref b)]) (hk : ∀ (H1 : Heap) (locs1 : List Loc), Conf X Γ H1 → va_S (AΓ Γ) s.heap H1 locs1 → MI X H1 m1 ca → mkI X H1 x1 = mmI X H1 m1 → flI X H1 ra = tpdI X H1 m1 → SHP X Γ H1 x1 ta td nd → TRl X td tm ts H1 → NRl X td nd na H1 → W p l e room_1 s m #[Value.ref b] below meth c H1 locs1 147 13128 Q (F0 m 1667 ls [])) : W p l e room_1 s m #[Value.ref b] below meth c H locs 147 13128 Q (F0 m 1077 ls []) := by
  have E := K.E; have hx := E.1; have hb := E.2.1; have hLl := K.hL
  refine lv_aload_n hx hb dL_law_1077 rfl (lv_at hl 2 rfl) ?_
  refine lv_aload_n hx hb dL_law_1078 rfl (lv_at hl 3 rfl) ?_
  refine lv_iload_n hx hb dL_law_1079 rfl (lv_at hl 0 rfl) ?_
  refine lv_iconst (v := 1) hx hb dL_law_1080 rfl ?_
  refine lv_iadd hx hb dL_law_1081 (lv_topi (fun v21 e21 => ?_))
  have e21i : v21.toInt = z + 1 := i_add e21 ez (by decide) (by omega) (by omega)
  refine va_sld hx hb K.hX K.hbl K.hbA hS (i_in e21i (by omega) (by omega)) dL_law_1082 ?_
  refine r_goI (r_runV (As := [.int (xs v21.toNatClampNeg)]) (rest := []) E hC hS (m_X11_level l X Γ H hC x1 K.g1 (xs v21.toNatClampNeg) (a1 := ((xs v21.toNatClampNeg) : Int32).toInt) rfl) lcw_X11_level lcl_134 K.g1 ⟨rfl, rfl⟩ rfl hl.1 rfl (Nat.zero_le _) (by decide) (by decide) (by decide) (by decide) dL_law_1083) hS (fun v22 H22 locs22 hp hC22 hS22 => ?_)
  obtain ⟨hp1, hp2a⟩ := hp
  have hMI : MI X H22 m1 ca := hMI.cl hC K.gca K.g2 hp1 rfl
  have hMR : mkI X H22 x1 = mmI X H22 m1 := (mk_kp hp1 K.g1 rfl).trans (hMR.trans (mm_kp hp1 K.g2 rfl).symm)
  have hFR : flI X H22 ra = tpdI X H22 m1 := (fl_kp hp1 K.gra rfl).trans (hFR.trans (tpd_kp hp1 K.g2 rfl).symm)
  have hSd := hSH; have hSH : SHP X Γ H22 x1 ta td nd := hSH.kp K.g1 hp1 rfl
  have hTr0 := hTR; have hNr0 := hNR; have hTm : TMm tm ts H H22 := TMm.kp0 hp1 K.gtm K.gts rfl; have hNm : NSm (nM na H) (nM na H22) := nM_kp0 hp1 K.gna rfl
  have hTc : TSm X td H H22 := TSm.kp TSm.rf hp1 hSH rfl; have hTR := hTR.same hTc hTm
  have hNc : NSm (nC nd H) (nC nd H22) := nC_kp NSm.rf hp1 hSH rfl; have hNR := hNR.same hTc hNc hNm
  have hpa := hp2a; have hCA := hC
  have hC := hC22; have hS := hS22
  refine lv_pop hx hb dL_law_1086 rfl ?_
  refine lv_aload_n hx hb dL_law_1087 rfl (lv_at hl 1 rfl) ?_
  refine lv_aload_n hx hb dL_law_1088 rfl (lv_at hl 3 rfl) ?_
  refine lv_iload_n hx hb dL_law_1089 rfl (lv_at hl 0 rfl) ?_
  refine lv_iconst (v := 1) hx hb dL_law_1090 rfl ?_
  refine lv_iadd hx hb dL_law_1091 (lv_topi (fun v23 e23 => ?_))
  have e23i : v23.toInt = z + 1 := i_add e23 ez (by decide) (by omega) (by omega)
  have hq23 : v23 = v21 := e23.trans e21.symm
  refine va_sld hx hb K.hX K.hbl K.hbA hS (i_in e23i (by omega) (by omega)) dL_law_1092 ?_
  rw [hq23]
  refine r_goI (r_runV (As := [.int (xs v21.toNatClampNeg)]) (rest := []) E hC hS (m_X12_level l X Γ H22 hC m1 K.g2 (xs v21.toNatClampNeg) (a1 := ((xs v21.toNatClampNeg) : Int32).toInt) rfl ca K.gca K.uc hMI.c0.1 hMI.c0.2.1) lcw_X12_level lcl_137 K.g2 ⟨rfl, rfl⟩ rfl hl.1 rfl (Nat.zero_le _) (by decide) (by decide) (by decide) (by decide) dL_law_1093) hS (fun v24 H24 locs24 hp hC24 hS24 => ?_)
  obtain ⟨hp1, hp2b⟩ := hp
  have hMI : MI X H24 m1 ca := hMI.kp hC K.gca K.g2 hp1 rfl rfl rfl
  have hMR : mkI X H24 x1 = mmI X H24 m1 := (mk_kp hp1 K.g1 rfl).trans (hMR.trans (mm_kp hp1 K.g2 rfl).symm)
  have hFR : flI X H24 ra = tpdI X H24 m1 := (fl_kp hp1 K.gra rfl).trans (hFR.trans (tpd_kp hp1 K.g2 rfl).symm)
  have hSd := hSH; have hSH : SHP X Γ H24 x1 ta td nd := hSH.kpM K.g1 hp1 rfl
  have hTc2 : TSm X td H22 H24 := TSm.kp1 hp1 hSH rfl; have hNc2 : NSm (nC nd H22) (nC nd H24) := nC_kp1 hp1 hSH rfl
  have hTrm := hTR; have hTm2 : TMm tm ts H22 H24 := TMm.kp TMm.rf hp1 K.gtm K.gts rfl; have hTR := hTR.same hTc2 hTm2
  have hpb := hp2b
  have hNm2 : NSm (nM na H22) (nM na H24) := nM_kp NSm.rf hp1 K.gna rfl; have hNrm := hNR; have hNR := hNR.same hTc2 hNc2 hNm2
  have hC := hC24; have hS := hS24
  refine lv_pop hx hb dL_law_1096 rfl ?_
  refine lv_goto (tgt := 1667) hx hb dL_law_1097 rfl ?_
  exact hk _ _ hC hS hMI hMR hFR hSH hTR hNR
set_option maxRecDepth 100000 in
set_option maxHeartbeats 4000000 in
theorem law_28 (l : Launch) {p : Program} {e : Env} {s : State} {m : MethodId} {below : List Frame} {meth : Method} {c : Code} {X : xW} {Γ : Nat → Option Nat} {b L : Nat} {xs : Nat → Int32} {x1 m1 ca ka oa ra ta tm ts na : Nat} {td nd : Nat → Nat} (K : LK p s m meth c X Γ b L xs x1 m1 ca ka oa ra tm ts na) {H : Heap} {locs : List Loc} {ls : Array Slot} {Q : State → Prop} {i : Int32} {z : Int} (ez : i.toInt = z) (h0z : 0 ≤ z) (hzL : z + 6 ≤ L) (hC : Conf X Γ H) (hS : va_S (AΓ Γ) s.heap H locs) (hMI : MI X H m1 ca) (hMR : mkI X H x1 = mmI X H m1) (hFR : flI X H ra = tpdI X H m1) (hSH : SHP X Γ H x1 ta td nd) (hTR : TRl X td tm ts H) (hNR : NRl X td nd na H) (hl : lv_has ls 4 [(3, .int i), (2, .ref m1), (1, .ref x1), (0, .ref b)]) (hk : ∀ (H1 : Heap) (locs1 : List Loc), Conf X Γ H1 → va_S (AΓ Γ) s.heap H1 locs1 → MI X H1 m1 ca → mkI X H1 x1 = mmI X H1 m1 → flI X H1 ra = tpdI X H1 m1 → SHP X Γ H1 x1 ta td nd → TRl X td tm ts H1 → NRl X td nd na H1 → W p l e room_1 s m #[Value.ref b] below meth c H1 locs1 147 13128 Q (F0 m 1667 ls [])) : W p l e room_1 s m #[Value.ref b] below meth c H locs 147 13128 Q (F0 m 1100 ls []) := by
  have E := K.E; have hx := E.1; have hb := E.2.1; have hLl := K.hL
  refine lv_aload_n hx hb dL_law_1100 rfl (lv_at hl 2 rfl) ?_
  refine r_goI (r_runV (As := []) (rest := []) E hC hS (m_X11_unlike l X Γ H hC x1 K.g1) lcw_X11_unlike lcl_138 K.g1 ⟨rfl, rfl⟩ rfl hl.1 rfl (Nat.zero_le _) (by decide) (by decide) (by decide) (by decide) dL_law_1101) hS (fun v21 H21 locs21 hp hC21 hS21 => ?_)
  obtain ⟨hp1, hp2a⟩ := hp
  have hMI : MI X H21 m1 ca := hMI.cl hC K.gca K.g2 hp1 rfl
  have hMR : mkI X H21 x1 = mmI X H21 m1 := (mk_kp hp1 K.g1 rfl).trans (hMR.trans (mm_kp hp1 K.g2 rfl).symm)
  have hFR : flI X H21 ra = tpdI X H21 m1 := (fl_kp hp1 K.gra rfl).trans (hFR.trans (tpd_kp hp1 K.g2 rfl).symm)
  have hSd := hSH; have hSH : SHP X Γ H21 x1 ta td nd := hSH.kp K.g1 hp1 rfl
  have hTr0 := hTR; have hNr0 := hNR; have hTm : TMm tm ts H H21 := TMm.kp0 hp1 K.gtm K.gts rfl; have hNm : NSm (nM na H) (nM na H21) := nM_kp0 hp1 K.gna rfl
  have hTc : TSm X td H H21 := TSm.kp TSm.rf hp1 hSH rfl; have hTR := hTR.same hTc hTm
  have hNc : NSm (nC nd H) (nC nd H21) := nC_kp NSm.rf hp1 hSH rfl; have hNR := hNR.same hTc hNc hNm
  have hpa := hp2a; have hCA := hC
  have hC := hC21; have hS := hS21
  refine lv_pop hx hb dL_law_1104 rfl ?_
  refine lv_aload_n hx hb dL_law_1105 rfl (lv_at hl 1 rfl) ?_
  refine r_goI (r_runV (As := []) (rest := []) E hC hS (m_X12_unlike l X Γ H21 hC m1 K.g2 ca K.gca K.uc) lcw_X12_unlike lcl_141 K.g2 ⟨rfl, rfl⟩ rfl hl.1 rfl (Nat.zero_le _) (by decide) (by decide) (by decide) (by decide) dL_law_1106) hS (fun v22 H22 locs22 hp hC22 hS22 => ?_)
  obtain ⟨hp1, hp2b⟩ := hp
  have hMI : MI X H22 m1 ca := hMI.kp hC K.gca K.g2 hp1 rfl rfl rfl
  have hMR : mkI X H22 x1 = mmI X H22 m1 := (mk_kp hp1 K.g1 rfl).trans (hMR.trans (mm_kp hp1 K.g2 rfl).symm)
  have hFR : flI X H22 ra = tpdI X H22 m1 := (fl_kp hp1 K.gra rfl).trans (hFR.trans (tpd_kp hp1 K.g2 rfl).symm)
  have hSd := hSH; have hSH : SHP X Γ H22 x1 ta td nd := hSH.kpM K.g1 hp1 rfl
  have hTc2 : TSm X td H21 H22 := TSm.kp1 hp1 hSH rfl; have hNc2 : NSm (nC nd H21) (nC nd H22) := nC_kp1 hp1 hSH rfl
  have hTrm := hTR; have hTm2 : TMm tm ts H21 H22 := TMm.kp TMm.rf hp1 K.gtm K.gts rfl; have hTR := hTR.same hTc2 hTm2
  have hpb := hp2b
  have hNm2 : NSm (nM na H21) (nM na H22) := nM_kp NSm.rf hp1 K.gna rfl; have hNrm := hNR; have hNR := hNR.same hTc2 hNc2 hNm2
  have hC := hC22; have hS := hS22
  refine lv_pop hx hb dL_law_1109 rfl ?_
  refine lv_goto (tgt := 1667) hx hb dL_law_1110 rfl ?_
  exact hk _ _ hC hS hMI hMR hFR hSH hTR hNR
set_option maxRecDepth 100000 in
set_option maxHeartbeats 4000000 in
theorem law_29 (l : Launch) {p : Program} {e : Env} {s : State} {m : MethodId} {below : List Frame} {meth : Method} {c : Code} {X : xW} {Γ : Nat → Option Nat} {b L : Nat} {xs : Nat → Int32} {x1 m1 ca ka oa ra ta tm ts na : Nat} {td nd : Nat → Nat} (K : LK p s m meth c X Γ b L xs x1 m1 ca ka oa ra tm ts na) {H : Heap} {locs : List Loc} {ls : Array Slot} {Q : State → Prop} {i : Int32} {z : Int} (ez : i.toInt = z) (h0z : 0 ≤ z) (hzL : z + 6 ≤ L) (hC : Conf X Γ H) (hS : va_S (AΓ Γ) s.heap H locs) (hMI : MI X H m1 ca) (hMR : mkI X H x1 = mmI X H m1) (hFR : flI X H ra = tpdI X H m1) (hSH : SHP X Γ H x1 ta td nd) (hTR : TRl X td tm ts H) (hNR : NRl X td nd na H) (hl : lv_has ls 4 [(3, .int i), (2, .ref m1), (1, .ref x1), (0, .ref b)]) (hk : ∀ (H1 : Heap) (locs1 : List Loc), Conf X Γ H1 → va_S (AΓ Γ) s.heap H1 locs1 → MI X H1 m1 ca → mkI X H1 x1 = mmI X H1 m1 → flI X H1 ra = tpdI X H1 m1 → SHP X Γ H1 x1 ta td nd → TRl X td tm ts H1 → NRl X td nd na H1 → W p l e room_1 s m #[Value.ref b] below meth c H1 locs1 147 13128 Q (F0 m 1667 ls [])) : W p l e room_1 s m #[Value.ref b] below meth c H locs 147 13128 Q (F0 m 1113 ls []) := by
  have E := K.E; have hx := E.1; have hb := E.2.1; have hLl := K.hL
  refine lv_aload_n hx hb dL_law_1113 rfl (lv_at hl 2 rfl) ?_
  refine lv_aload_n hx hb dL_law_1114 rfl (lv_at hl 3 rfl) ?_
  refine lv_iload_n hx hb dL_law_1115 rfl (lv_at hl 0 rfl) ?_
  refine lv_iconst (v := 1) hx hb dL_law_1116 rfl ?_
  refine lv_iadd hx hb dL_law_1117 (lv_topi (fun v21 e21 => ?_))
  have e21i : v21.toInt = z + 1 := i_add e21 ez (by decide) (by omega) (by omega)
  refine va_sld hx hb K.hX K.hbl K.hbA hS (i_in e21i (by omega) (by omega)) dL_law_1118 ?_
  refine lv_aload_n hx hb dL_law_1119 rfl (lv_at hl 3 rfl) ?_
  refine lv_iload_n hx hb dL_law_1120 rfl (lv_at hl 0 rfl) ?_
  refine lv_iconst (v := 2) hx hb dL_law_1121 rfl ?_
  refine lv_iadd hx hb dL_law_1122 (lv_topi (fun v22 e22 => ?_))
  have e22i : v22.toInt = z + 2 := i_add e22 ez (by decide) (by omega) (by omega)
  refine va_sld hx hb K.hX K.hbl K.hbA hS (i_in e22i (by omega) (by omega)) dL_law_1123 ?_
  refine lv_aload_n hx hb dL_law_1124 rfl (lv_at hl 3 rfl) ?_
  refine lv_iload_n hx hb dL_law_1125 rfl (lv_at hl 0 rfl) ?_
  refine lv_iconst (v := 3) hx hb dL_law_1126 rfl ?_
  refine lv_iadd hx hb dL_law_1127 (lv_topi (fun v23 e23 => ?_))
  have e23i : v23.toInt = z + 3 := i_add e23 ez (by decide) (by omega) (by omega)
  refine va_sld hx hb K.hX K.hbl K.hbA hS (i_in e23i (by omega) (by omega)) dL_law_1128 ?_
  refine r_goI (r_runV (As := [.int (xs v21.toNatClampNeg), .int (xs v22.toNatClampNeg), .int (xs v23.toNatClampNeg)]) (rest := []) E hC hS (m_X11_lasting l X Γ H hC x1 K.g1 (xs v21.toNatClampNeg) (a1 := ((xs v21.toNatClampNeg) : Int32).toInt) rfl (xs v22.toNatClampNeg) (a2 := ((xs v22.toNatClampNeg) : Int32).toInt) rfl (xs v23.toNatClampNeg) (a3 := ((xs v23.toNatClampNeg) : Int32).toInt) rfl) lcw_X11_lasting lcl_142 K.g1 ⟨rfl, rfl⟩ rfl hl.1 rfl (Nat.zero_le _) (by decide) (by decide) (by decide) (by decide) dL_law_1129) hS (fun v24 H24 locs24 hp hC24 hS24 => ?_)
  obtain ⟨hp1, hp2a⟩ := hp
  have hMI : MI X H24 m1 ca := hMI.cl hC K.gca K.g2 hp1 rfl
  have hMR : mkI X H24 x1 = mmI X H24 m1 := (mk_kp hp1 K.g1 rfl).trans (hMR.trans (mm_kp hp1 K.g2 rfl).symm)
  have hFR : flI X H24 ra = tpdI X H24 m1 := (fl_kp hp1 K.gra rfl).trans (hFR.trans (tpd_kp hp1 K.g2 rfl).symm)
  have hSd := hSH; have hSH : SHP X Γ H24 x1 ta td nd := hSH.kp K.g1 hp1 rfl
  have hTr0 := hTR; have hNr0 := hNR; have hTm : TMm tm ts H H24 := TMm.kp0 hp1 K.gtm K.gts rfl; have hNm : NSm (nM na H) (nM na H24) := nM_kp0 hp1 K.gna rfl
  have hTc : TSm X td H H24 := TSm.kp TSm.rf hp1 hSH rfl; have hTR := hTR.same hTc hTm
  have hNc : NSm (nC nd H) (nC nd H24) := nC_kp NSm.rf hp1 hSH rfl; have hNR := hNR.same hTc hNc hNm
  have hpa := hp2a; have hCA := hC
  have hC := hC24; have hS := hS24
  refine lv_pop hx hb dL_law_1132 rfl ?_
  refine lv_aload_n hx hb dL_law_1133 rfl (lv_at hl 1 rfl) ?_
  refine lv_aload_n hx hb dL_law_1134 rfl (lv_at hl 3 rfl) ?_
  refine lv_iload_n hx hb dL_law_1135 rfl (lv_at hl 0 rfl) ?_
  refine lv_iconst (v := 1) hx hb dL_law_1136 rfl ?_
  refine lv_iadd hx hb dL_law_1137 (lv_topi (fun v25 e25 => ?_))
  have e25i : v25.toInt = z + 1 := i_add e25 ez (by decide) (by omega) (by omega)
  have hq25 : v25 = v21 := e25.trans e21.symm
  refine va_sld hx hb K.hX K.hbl K.hbA hS (i_in e25i (by omega) (by omega)) dL_law_1138 ?_
  rw [hq25]
  refine lv_aload_n hx hb dL_law_1139 rfl (lv_at hl 3 rfl) ?_
  refine lv_iload_n hx hb dL_law_1140 rfl (lv_at hl 0 rfl) ?_
  refine lv_iconst (v := 2) hx hb dL_law_1141 rfl ?_
  refine lv_iadd hx hb dL_law_1142 (lv_topi (fun v26 e26 => ?_))
  have e26i : v26.toInt = z + 2 := i_add e26 ez (by decide) (by omega) (by omega)
  have hq26 : v26 = v22 := e26.trans e22.symm
  refine va_sld hx hb K.hX K.hbl K.hbA hS (i_in e26i (by omega) (by omega)) dL_law_1143 ?_
  rw [hq26]
  refine lv_aload_n hx hb dL_law_1144 rfl (lv_at hl 3 rfl) ?_
  refine lv_iload_n hx hb dL_law_1145 rfl (lv_at hl 0 rfl) ?_
  refine lv_iconst (v := 3) hx hb dL_law_1146 rfl ?_
  refine lv_iadd hx hb dL_law_1147 (lv_topi (fun v27 e27 => ?_))
  have e27i : v27.toInt = z + 3 := i_add e27 ez (by decide) (by omega) (by omega)
  have hq27 : v27 = v23 := e27.trans e23.symm
  refine va_sld hx hb K.hX K.hbl K.hbA hS (i_in e27i (by omega) (by omega)) dL_law_1148 ?_
  rw [hq27]
  refine r_goI (r_runV (As := [.int (xs v21.toNatClampNeg), .int (xs v22.toNatClampNeg), .int (xs v23.toNatClampNeg)]) (rest := []) E hC hS (m_X12_lasting l X Γ H24 hC m1 K.g2 (xs v21.toNatClampNeg) (a1 := ((xs v21.toNatClampNeg) : Int32).toInt) rfl (xs v22.toNatClampNeg) (a2 := ((xs v22.toNatClampNeg) : Int32).toInt) rfl (xs v23.toNatClampNeg) (a3 := ((xs v23.toNatClampNeg) : Int32).toInt) rfl ca K.gca K.uc) lcw_X12_lasting lcl_145 K.g2 ⟨rfl, rfl⟩ rfl hl.1 rfl (Nat.zero_le _) (by decide) (by decide) (by decide) (by decide) dL_law_1149) hS (fun v28 H28 locs28 hp hC28 hS28 => ?_)
  obtain ⟨hp1, hp2b⟩ := hp
  have hMI : MI X H28 m1 ca := hMI.kp hC K.gca K.g2 hp1 rfl rfl rfl
  have hMR : mkI X H28 x1 = mmI X H28 m1 := (mk_kp hp1 K.g1 rfl).trans (hMR.trans (mm_kp hp1 K.g2 rfl).symm)
  have hFR : flI X H28 ra = tpdI X H28 m1 := (fl_kp hp1 K.gra rfl).trans (hFR.trans (tpd_kp hp1 K.g2 rfl).symm)
  have hSd := hSH; have hSH : SHP X Γ H28 x1 ta td nd := hSH.kpM K.g1 hp1 rfl
  have hTc2 : TSm X td H24 H28 := TSm.kp1 hp1 hSH rfl; have hNc2 : NSm (nC nd H24) (nC nd H28) := nC_kp1 hp1 hSH rfl
  have hTrm := hTR; have hTm2 : TMm tm ts H24 H28 := TMm.kp TMm.rf hp1 K.gtm K.gts rfl; have hTR := hTR.same hTc2 hTm2
  have hpb := hp2b
  have hNm2 : NSm (nM na H24) (nM na H28) := nM_kp NSm.rf hp1 K.gna rfl; have hNrm := hNR; have hNR := hNR.same hTc2 hNc2 hNm2
  have hC := hC28; have hS := hS28
  refine lv_pop hx hb dL_law_1152 rfl ?_
  refine lv_goto (tgt := 1667) hx hb dL_law_1153 rfl ?_
  exact hk _ _ hC hS hMI hMR hFR hSH hTR hNR
set_option maxRecDepth 100000 in
set_option maxHeartbeats 4000000 in
theorem law_30 (l : Launch) {p : Program} {e : Env} {s : State} {m : MethodId} {below : List Frame} {meth : Method} {c : Code} {X : xW} {Γ : Nat → Option Nat} {b L : Nat} {xs : Nat → Int32} {x1 m1 ca ka oa ra ta tm ts na : Nat} {td nd : Nat → Nat} (K : LK p s m meth c X Γ b L xs x1 m1 ca ka oa ra tm ts na) {H : Heap} {locs : List Loc} {ls : Array Slot} {Q : State → Prop} {i : Int32} {z : Int} (ez : i.toInt = z) (h0z : 0 ≤ z) (hzL : z + 6 ≤ L) (hC : Conf X Γ H) (hS : va_S (AΓ Γ) s.heap H locs) (hMI : MI X H m1 ca) (hMR : mkI X H x1 = mmI X H m1) (hFR : flI X H ra = tpdI X H m1) (hSH : SHP X Γ H x1 ta td nd) (hTR : TRl X td tm ts H) (hNR : NRl X td nd na H) (hl : lv_has ls 4 [(3, .int i), (2, .ref m1), (1, .ref x1), (0, .ref b)]) (hk : ∀ (H1 : Heap) (locs1 : List Loc), Conf X Γ H1 → va_S (AΓ Γ) s.heap H1 locs1 → MI X H1 m1 ca → mkI X H1 x1 = mmI X H1 m1 → flI X H1 ra = tpdI X H1 m1 → SHP X Γ H1 x1 ta td nd → TRl X td tm ts H1 → NRl X td nd na H1 → W p l e room_1 s m #[Value.ref b] below meth c H1 locs1 147 13128 Q (F0 m 1667 ls [])) : W p l e room_1 s m #[Value.ref b] below meth c H locs 147 13128 Q (F0 m 1156 ls []) := by
  have E := K.E; have hx := E.1; have hb := E.2.1; have hLl := K.hL
  refine lv_aload_n hx hb dL_law_1156 rfl (lv_at hl 2 rfl) ?_
  refine r_goI (r_runV (As := []) (rest := []) E hC hS (m_X11_way l X Γ H hC x1 K.g1) lcw_X11_way lcl_146 K.g1 ⟨rfl, rfl⟩ rfl hl.1 rfl (Nat.zero_le _) (by decide) (by decide) (by decide) (by decide) dL_law_1157) hS (fun v21 H21 locs21 hp hC21 hS21 => ?_)
  obtain ⟨hp1, hp2a⟩ := hp
  have hMI : MI X H21 m1 ca := hMI.cl hC K.gca K.g2 hp1 rfl
  have hMR : mkI X H21 x1 = mmI X H21 m1 := (mk_kp hp1 K.g1 rfl).trans (hMR.trans (mm_kp hp1 K.g2 rfl).symm)
  have hFR : flI X H21 ra = tpdI X H21 m1 := (fl_kp hp1 K.gra rfl).trans (hFR.trans (tpd_kp hp1 K.g2 rfl).symm)
  have hSd := hSH; have hSH : SHP X Γ H21 x1 ta td nd := hSH.kp K.g1 hp1 rfl
  have hTr0 := hTR; have hNr0 := hNR; have hTm : TMm tm ts H H21 := TMm.kp0 hp1 K.gtm K.gts rfl; have hNm : NSm (nM na H) (nM na H21) := nM_kp0 hp1 K.gna rfl
  have hTc : TSm X td H H21 := TSm.kp TSm.rf hp1 hSH rfl; have hTR := hTR.same hTc hTm
  have hNc : NSm (nC nd H) (nC nd H21) := nC_kp NSm.rf hp1 hSH rfl; have hNR := hNR.same hTc hNc hNm
  have hpa := hp2a; have hCA := hC
  have hC := hC21; have hS := hS21
  refine lv_pop hx hb dL_law_1160 rfl ?_
  refine lv_aload_n hx hb dL_law_1161 rfl (lv_at hl 1 rfl) ?_
  refine r_goI (r_runV (As := []) (rest := []) E hC hS (m_X12_way l X Γ H21 hC m1 K.g2 ca K.gca K.uc oa K.goa K.uo hMI.c0.1 hMI.c0.2.1) lcw_X12_way lcl_149 K.g2 ⟨rfl, rfl⟩ rfl hl.1 rfl (Nat.zero_le _) (by decide) (by decide) (by decide) (by decide) dL_law_1162) hS (fun v22 H22 locs22 hp hC22 hS22 => ?_)
  obtain ⟨hp1, hp2b⟩ := hp
  have hMI : MI X H22 m1 ca := hMI.kp hC K.gca K.g2 hp1 rfl rfl rfl
  have hMR : mkI X H22 x1 = mmI X H22 m1 := (mk_kp hp1 K.g1 rfl).trans (hMR.trans (mm_kp hp1 K.g2 rfl).symm)
  have hFR : flI X H22 ra = tpdI X H22 m1 := (fl_kp hp1 K.gra rfl).trans (hFR.trans (tpd_kp hp1 K.g2 rfl).symm)
  have hSd := hSH; have hSH : SHP X Γ H22 x1 ta td nd := hSH.kpM K.g1 hp1 rfl
  have hTc2 : TSm X td H21 H22 := TSm.kp1 hp1 hSH rfl; have hNc2 : NSm (nC nd H21) (nC nd H22) := nC_kp1 hp1 hSH rfl
  have hTrm := hTR; have hTm2 : TMm tm ts H21 H22 := TMm.kp TMm.rf hp1 K.gtm K.gts rfl; have hTR := hTR.same hTc2 hTm2
  have hpb := hp2b
  have hNm2 : NSm (nM na H21) (nM na H22) := nM_kp NSm.rf hp1 K.gna rfl; have hNrm := hNR; have hNR := hNR.same hTc2 hNc2 hNm2
  have hC := hC22; have hS := hS22
  refine lv_pop hx hb dL_law_1165 rfl ?_
  refine lv_goto (tgt := 1667) hx hb dL_law_1166 rfl ?_
  exact hk _ _ hC hS hMI hMR hFR hSH hTR hNR
set_option maxRecDepth 100000 in
set_option maxHeartbeats 4000000 in
theorem law_31 (l : Launch) {p : Program} {e : Env} {s : State} {m : MethodId} {below : List Frame} {meth : Method} {c : Code} {X : xW} {Γ : Nat → Option Nat} {b L : Nat} {xs : Nat → Int32} {x1 m1 ca ka oa ra ta tm ts na : Nat} {td nd : Nat → Nat} (K : LK p s m meth c X Γ b L xs x1 m1 ca ka oa ra tm ts na) {H : Heap} {locs : List Loc} {ls : Array Slot} {Q : State → Prop} {i : Int32} {z : Int} (ez : i.toInt = z) (h0z : 0 ≤ z) (hzL : z + 6 ≤ L) (hC : Conf X Γ H) (hS : va_S (AΓ Γ) s.heap H locs) (hMI : MI X H m1 ca) (hMR : mkI X H x1 = mmI X H m1) (hFR : flI X H ra = tpdI X H m1) (hSH : SHP X Γ H x1 ta td nd) (hTR : TRl X td tm ts H) (hNR : NRl X td nd na H) (hl : lv_has ls 4 [(3, .int i), (2, .ref m1), (1, .ref x1), (0, .ref b)]) (hk : ∀ (H1 : Heap) (locs1 : List Loc), Conf X Γ H1 → va_S (AΓ Γ) s.heap H1 locs1 → MI X H1 m1 ca → mkI X H1 x1 = mmI X H1 m1 → flI X H1 ra = tpdI X H1 m1 → SHP X Γ H1 x1 ta td nd → TRl X td tm ts H1 → NRl X td nd na H1 → W p l e room_1 s m #[Value.ref b] below meth c H1 locs1 147 13128 Q (F0 m 1667 ls [])) : W p l e room_1 s m #[Value.ref b] below meth c H locs 147 13128 Q (F0 m 1169 ls []) := by
  have E := K.E; have hx := E.1; have hb := E.2.1; have hLl := K.hL
  refine lv_aload_n hx hb dL_law_1169 rfl (lv_at hl 2 rfl) ?_
  refine lv_aload_n hx hb dL_law_1170 rfl (lv_at hl 3 rfl) ?_
  refine lv_iload_n hx hb dL_law_1171 rfl (lv_at hl 0 rfl) ?_
  refine lv_iconst (v := 1) hx hb dL_law_1172 rfl ?_
  refine lv_iadd hx hb dL_law_1173 (lv_topi (fun v21 e21 => ?_))
  have e21i : v21.toInt = z + 1 := i_add e21 ez (by decide) (by omega) (by omega)
  refine va_sld hx hb K.hX K.hbl K.hbA hS (i_in e21i (by omega) (by omega)) dL_law_1174 ?_
  refine lv_aload_n hx hb dL_law_1175 rfl (lv_at hl 3 rfl) ?_
  refine lv_iload_n hx hb dL_law_1176 rfl (lv_at hl 0 rfl) ?_
  refine lv_iconst (v := 2) hx hb dL_law_1177 rfl ?_
  refine lv_iadd hx hb dL_law_1178 (lv_topi (fun v22 e22 => ?_))
  have e22i : v22.toInt = z + 2 := i_add e22 ez (by decide) (by omega) (by omega)
  refine va_sld hx hb K.hX K.hbl K.hbA hS (i_in e22i (by omega) (by omega)) dL_law_1179 ?_
  refine r_goI (r_runV (As := [.int (xs v21.toNatClampNeg), .int (xs v22.toNatClampNeg)]) (rest := []) E hC hS (m_X11_wayAt l X Γ H hC x1 K.g1 (xs v21.toNatClampNeg) (a1 := ((xs v21.toNatClampNeg) : Int32).toInt) rfl (xs v22.toNatClampNeg) (a2 := ((xs v22.toNatClampNeg) : Int32).toInt) rfl) lcw_X11_wayAt lcl_150 K.g1 ⟨rfl, rfl⟩ rfl hl.1 rfl (Nat.zero_le _) (by decide) (by decide) (by decide) (by decide) dL_law_1180) hS (fun v23 H23 locs23 hp hC23 hS23 => ?_)
  obtain ⟨hp1, hp2a⟩ := hp
  have hMI : MI X H23 m1 ca := hMI.cl hC K.gca K.g2 hp1 rfl
  have hMR : mkI X H23 x1 = mmI X H23 m1 := (mk_kp hp1 K.g1 rfl).trans (hMR.trans (mm_kp hp1 K.g2 rfl).symm)
  have hFR : flI X H23 ra = tpdI X H23 m1 := (fl_kp hp1 K.gra rfl).trans (hFR.trans (tpd_kp hp1 K.g2 rfl).symm)
  have hSd := hSH; have hSH : SHP X Γ H23 x1 ta td nd := hSH.kp K.g1 hp1 rfl
  have hTr0 := hTR; have hNr0 := hNR; have hTm : TMm tm ts H H23 := TMm.kp0 hp1 K.gtm K.gts rfl; have hNm : NSm (nM na H) (nM na H23) := nM_kp0 hp1 K.gna rfl
  have hTc : TSm X td H H23 := TSm.kp TSm.rf hp1 hSH rfl; have hTR := hTR.same hTc hTm
  have hNc : NSm (nC nd H) (nC nd H23) := nC_kp NSm.rf hp1 hSH rfl; have hNR := hNR.same hTc hNc hNm
  have hpa := hp2a; have hCA := hC
  have hC := hC23; have hS := hS23
  refine lv_pop hx hb dL_law_1183 rfl ?_
  refine lv_aload_n hx hb dL_law_1184 rfl (lv_at hl 1 rfl) ?_
  refine lv_aload_n hx hb dL_law_1185 rfl (lv_at hl 3 rfl) ?_
  refine lv_iload_n hx hb dL_law_1186 rfl (lv_at hl 0 rfl) ?_
  refine lv_iconst (v := 1) hx hb dL_law_1187 rfl ?_
  refine lv_iadd hx hb dL_law_1188 (lv_topi (fun v24 e24 => ?_))
  have e24i : v24.toInt = z + 1 := i_add e24 ez (by decide) (by omega) (by omega)
  have hq24 : v24 = v21 := e24.trans e21.symm
  refine va_sld hx hb K.hX K.hbl K.hbA hS (i_in e24i (by omega) (by omega)) dL_law_1189 ?_
  rw [hq24]
  refine lv_aload_n hx hb dL_law_1190 rfl (lv_at hl 3 rfl) ?_
  refine lv_iload_n hx hb dL_law_1191 rfl (lv_at hl 0 rfl) ?_
  refine lv_iconst (v := 2) hx hb dL_law_1192 rfl ?_
  refine lv_iadd hx hb dL_law_1193 (lv_topi (fun v25 e25 => ?_))
  have e25i : v25.toInt = z + 2 := i_add e25 ez (by decide) (by omega) (by omega)
  have hq25 : v25 = v22 := e25.trans e22.symm
  refine va_sld hx hb K.hX K.hbl K.hbA hS (i_in e25i (by omega) (by omega)) dL_law_1194 ?_
  rw [hq25]
  refine r_goI (r_runV (As := [.int (xs v21.toNatClampNeg), .int (xs v22.toNatClampNeg)]) (rest := []) E hC hS (m_X12_wayAt l X Γ H23 hC m1 K.g2 (xs v21.toNatClampNeg) (a1 := ((xs v21.toNatClampNeg) : Int32).toInt) rfl (xs v22.toNatClampNeg) (a2 := ((xs v22.toNatClampNeg) : Int32).toInt) rfl ca K.gca K.uc) lcw_X12_wayAt lcl_153 K.g2 ⟨rfl, rfl⟩ rfl hl.1 rfl (Nat.zero_le _) (by decide) (by decide) (by decide) (by decide) dL_law_1195) hS (fun v26 H26 locs26 hp hC26 hS26 => ?_)
  obtain ⟨hp1, hp2b⟩ := hp
  have hMI : MI X H26 m1 ca := hMI.kp hC K.gca K.g2 hp1 rfl rfl rfl
  have hMR : mkI X H26 x1 = mmI X H26 m1 := (mk_kp hp1 K.g1 rfl).trans (hMR.trans (mm_kp hp1 K.g2 rfl).symm)
  have hFR : flI X H26 ra = tpdI X H26 m1 := (fl_kp hp1 K.gra rfl).trans (hFR.trans (tpd_kp hp1 K.g2 rfl).symm)
  have hSd := hSH; have hSH : SHP X Γ H26 x1 ta td nd := hSH.kpM K.g1 hp1 rfl
  have hTc2 : TSm X td H23 H26 := TSm.kp1 hp1 hSH rfl; have hNc2 : NSm (nC nd H23) (nC nd H26) := nC_kp1 hp1 hSH rfl
  have hTrm := hTR; have hTm2 : TMm tm ts H23 H26 := TMm.kp TMm.rf hp1 K.gtm K.gts rfl; have hTR := hTR.same hTc2 hTm2
  have hpb := hp2b
  have hNm2 : NSm (nM na H23) (nM na H26) := nM_kp NSm.rf hp1 K.gna rfl; have hNrm := hNR; have hNR := hNR.same hTc2 hNc2 hNm2
  have hC := hC26; have hS := hS26
  refine lv_pop hx hb dL_law_1198 rfl ?_
  refine lv_goto (tgt := 1667) hx hb dL_law_1199 rfl ?_
  exact hk _ _ hC hS hMI hMR hFR hSH hTR hNR
set_option maxRecDepth 100000 in
set_option maxHeartbeats 4000000 in
theorem law_32 (l : Launch) {p : Program} {e : Env} {s : State} {m : MethodId} {below : List Frame} {meth : Method} {c : Code} {X : xW} {Γ : Nat → Option Nat} {b L : Nat} {xs : Nat → Int32} {x1 m1 ca ka oa ra ta tm ts na : Nat} {td nd : Nat → Nat} (K : LK p s m meth c X Γ b L xs x1 m1 ca ka oa ra tm ts na) {H : Heap} {locs : List Loc} {ls : Array Slot} {Q : State → Prop} {i : Int32} {z : Int} (ez : i.toInt = z) (h0z : 0 ≤ z) (hzL : z + 6 ≤ L) (hC : Conf X Γ H) (hS : va_S (AΓ Γ) s.heap H locs) (hMI : MI X H m1 ca) (hMR : mkI X H x1 = mmI X H m1) (hFR : flI X H ra = tpdI X H m1) (hSH : SHP X Γ H x1 ta td nd) (hTR : TRl X td tm ts H) (hNR : NRl X td nd na H) (hl : lv_has ls 4 [(3, .int i), (2, .ref m1), (1, .ref x1), (0, .ref b)]) (hk : ∀ (H1 : Heap) (locs1 : List Loc), Conf X Γ H1 → va_S (AΓ Γ) s.heap H1 locs1 → MI X H1 m1 ca → mkI X H1 x1 = mmI X H1 m1 → flI X H1 ra = tpdI X H1 m1 → SHP X Γ H1 x1 ta td nd → TRl X td tm ts H1 → NRl X td nd na H1 → W p l e room_1 s m #[Value.ref b] below meth c H1 locs1 147 13128 Q (F0 m 1667 ls [])) : W p l e room_1 s m #[Value.ref b] below meth c H locs 147 13128 Q (F0 m 1202 ls []) := by
  have E := K.E; have hx := E.1; have hb := E.2.1; have hLl := K.hL
  refine lv_aload_n hx hb dL_law_1202 rfl (lv_at hl 2 rfl) ?_
  refine r_goI (r_runV (As := []) (rest := []) E hC hS (m_X11_peace l X Γ H hC x1 K.g1) lcw_X11_peace lcl_154 K.g1 ⟨rfl, rfl⟩ rfl hl.1 rfl (Nat.zero_le _) (by decide) (by decide) (by decide) (by decide) dL_law_1203) hS (fun v21 H21 locs21 hp hC21 hS21 => ?_)
  obtain ⟨hp1, hp2a⟩ := hp
  have hMI : MI X H21 m1 ca := hMI.cl hC K.gca K.g2 hp1 rfl
  have hMR : mkI X H21 x1 = mmI X H21 m1 := (mk_kp hp1 K.g1 rfl).trans (hMR.trans (mm_kp hp1 K.g2 rfl).symm)
  have hFR : flI X H21 ra = tpdI X H21 m1 := (fl_kp hp1 K.gra rfl).trans (hFR.trans (tpd_kp hp1 K.g2 rfl).symm)
  have hSd := hSH; have hSH : SHP X Γ H21 x1 ta td nd := hSH.kp K.g1 hp1 rfl
  have hTr0 := hTR; have hNr0 := hNR; have hTm : TMm tm ts H H21 := TMm.kp0 hp1 K.gtm K.gts rfl; have hNm : NSm (nM na H) (nM na H21) := nM_kp0 hp1 K.gna rfl
  have hTc : TSm X td H H21 := TSm.kp TSm.rf hp1 hSH rfl; have hTR := hTR.same hTc hTm
  have hNc : NSm (nC nd H) (nC nd H21) := nC_kp NSm.rf hp1 hSH rfl; have hNR := hNR.same hTc hNc hNm
  have hpa := hp2a; have hCA := hC
  have hC := hC21; have hS := hS21
  refine lv_pop hx hb dL_law_1206 rfl ?_
  refine lv_aload_n hx hb dL_law_1207 rfl (lv_at hl 1 rfl) ?_
  refine r_goI (r_runV (As := []) (rest := []) E hC hS (m_X12_peace l X Γ H21 hC m1 K.g2 ca K.gca K.uc oa K.goa K.uo) lcw_X12_peace lcl_157 K.g2 ⟨rfl, rfl⟩ rfl hl.1 rfl (Nat.zero_le _) (by decide) (by decide) (by decide) (by decide) dL_law_1208) hS (fun v22 H22 locs22 hp hC22 hS22 => ?_)
  obtain ⟨hp1, hp2b⟩ := hp
  have hMI : MI X H22 m1 ca := hMI.kp hC K.gca K.g2 hp1 rfl rfl rfl
  have hMR : mkI X H22 x1 = mmI X H22 m1 := (mk_kp hp1 K.g1 rfl).trans (hMR.trans (mm_kp hp1 K.g2 rfl).symm)
  have hFR : flI X H22 ra = tpdI X H22 m1 := (fl_kp hp1 K.gra rfl).trans (hFR.trans (tpd_kp hp1 K.g2 rfl).symm)
  have hSd := hSH; have hSH : SHP X Γ H22 x1 ta td nd := hSH.kpM K.g1 hp1 rfl
  have hTc2 : TSm X td H21 H22 := TSm.kp1 hp1 hSH rfl; have hNc2 : NSm (nC nd H21) (nC nd H22) := nC_kp1 hp1 hSH rfl
  have hTrm := hTR; have hTm2 : TMm tm ts H21 H22 := TMm.kp TMm.rf hp1 K.gtm K.gts rfl; have hTR := hTR.same hTc2 hTm2
  have hpb := hp2b
  have hNm2 : NSm (nM na H21) (nM na H22) := nM_kp NSm.rf hp1 K.gna rfl; have hNrm := hNR; have hNR := hNR.same hTc2 hNc2 hNm2
  have hC := hC22; have hS := hS22
  refine lv_pop hx hb dL_law_1211 rfl ?_
  refine lv_goto (tgt := 1667) hx hb dL_law_1212 rfl ?_
  exact hk _ _ hC hS hMI hMR hFR hSH hTR hNR
set_option maxRecDepth 100000 in
set_option maxHeartbeats 4000000 in
theorem law_33 (l : Launch) {p : Program} {e : Env} {s : State} {m : MethodId} {below : List Frame} {meth : Method} {c : Code} {X : xW} {Γ : Nat → Option Nat} {b L : Nat} {xs : Nat → Int32} {x1 m1 ca ka oa ra ta tm ts na : Nat} {td nd : Nat → Nat} (K : LK p s m meth c X Γ b L xs x1 m1 ca ka oa ra tm ts na) {H : Heap} {locs : List Loc} {ls : Array Slot} {Q : State → Prop} {i : Int32} {z : Int} (ez : i.toInt = z) (h0z : 0 ≤ z) (hzL : z + 6 ≤ L) (hC : Conf X Γ H) (hS : va_S (AΓ Γ) s.heap H locs) (hMI : MI X H m1 ca) (hMR : mkI X H x1 = mmI X H m1) (hFR : flI X H ra = tpdI X H m1) (hSH : SHP X Γ H x1 ta td nd) (hTR : TRl X td tm ts H) (hNR : NRl X td nd na H) (hl : lv_has ls 4 [(3, .int i), (2, .ref m1), (1, .ref x1), (0, .ref b)]) (hk : ∀ (H1 : Heap) (locs1 : List Loc), Conf X Γ H1 → va_S (AΓ Γ) s.heap H1 locs1 → MI X H1 m1 ca → mkI X H1 x1 = mmI X H1 m1 → flI X H1 ra = tpdI X H1 m1 → SHP X Γ H1 x1 ta td nd → TRl X td tm ts H1 → NRl X td nd na H1 → W p l e room_1 s m #[Value.ref b] below meth c H1 locs1 147 13128 Q (F0 m 1667 ls [])) : W p l e room_1 s m #[Value.ref b] below meth c H locs 147 13128 Q (F0 m 1215 ls []) := by
  have E := K.E; have hx := E.1; have hb := E.2.1; have hLl := K.hL
  refine lv_aload_n hx hb dL_law_1215 rfl (lv_at hl 2 rfl) ?_
  refine lv_aload_n hx hb dL_law_1216 rfl (lv_at hl 3 rfl) ?_
  refine lv_iload_n hx hb dL_law_1217 rfl (lv_at hl 0 rfl) ?_
  refine lv_iconst (v := 1) hx hb dL_law_1218 rfl ?_
  refine lv_iadd hx hb dL_law_1219 (lv_topi (fun v21 e21 => ?_))
  have e21i : v21.toInt = z + 1 := i_add e21 ez (by decide) (by omega) (by omega)
  refine va_sld hx hb K.hX K.hbl K.hbA hS (i_in e21i (by omega) (by omega)) dL_law_1220 ?_
  refine lv_aload_n hx hb dL_law_1221 rfl (lv_at hl 3 rfl) ?_
  refine lv_iload_n hx hb dL_law_1222 rfl (lv_at hl 0 rfl) ?_
  refine lv_iconst (v := 2) hx hb dL_law_1223 rfl ?_
  refine lv_iadd hx hb dL_law_1224 (lv_topi (fun v22 e22 => ?_))
  have e22i : v22.toInt = z + 2 := i_add e22 ez (by decide) (by omega) (by omega)
  refine va_sld hx hb K.hX K.hbl K.hbA hS (i_in e22i (by omega) (by omega)) dL_law_1225 ?_
  refine r_goI (r_runV (As := [.int (xs v21.toNatClampNeg), .int (xs v22.toNatClampNeg)]) (rest := []) E hC hS (m_X11_look l X Γ H hC x1 K.g1 (xs v21.toNatClampNeg) (a1 := ((xs v21.toNatClampNeg) : Int32).toInt) rfl (xs v22.toNatClampNeg) (a2 := ((xs v22.toNatClampNeg) : Int32).toInt) rfl) lcw_X11_look lcl_158 K.g1 ⟨rfl, rfl⟩ rfl hl.1 rfl (Nat.zero_le _) (by decide) (by decide) (by decide) (by decide) dL_law_1226) hS (fun v23 H23 locs23 hp hC23 hS23 => ?_)
  obtain ⟨hp1, hp2a⟩ := hp
  have hMI : MI X H23 m1 ca := hMI.cl hC K.gca K.g2 hp1 rfl
  have hMR : mkI X H23 x1 = mmI X H23 m1 := (mk_kp hp1 K.g1 rfl).trans (hMR.trans (mm_kp hp1 K.g2 rfl).symm)
  have hFR : flI X H23 ra = tpdI X H23 m1 := (fl_kp hp1 K.gra rfl).trans (hFR.trans (tpd_kp hp1 K.g2 rfl).symm)
  have hSd := hSH; have hSH : SHP X Γ H23 x1 ta td nd := hSH.kp K.g1 hp1 rfl
  have hTr0 := hTR; have hNr0 := hNR; have hTm : TMm tm ts H H23 := TMm.kp0 hp1 K.gtm K.gts rfl; have hNm : NSm (nM na H) (nM na H23) := nM_kp0 hp1 K.gna rfl
  have hTc : TSm X td H H23 := TSm.kp TSm.rf hp1 hSH rfl; have hTR := hTR.same hTc hTm
  have hNc : NSm (nC nd H) (nC nd H23) := nC_kp NSm.rf hp1 hSH rfl; have hNR := hNR.same hTc hNc hNm
  have hpa := hp2a; have hCA := hC
  have hC := hC23; have hS := hS23
  refine lv_pop hx hb dL_law_1229 rfl ?_
  refine lv_aload_n hx hb dL_law_1230 rfl (lv_at hl 1 rfl) ?_
  refine lv_aload_n hx hb dL_law_1231 rfl (lv_at hl 3 rfl) ?_
  refine lv_iload_n hx hb dL_law_1232 rfl (lv_at hl 0 rfl) ?_
  refine lv_iconst (v := 1) hx hb dL_law_1233 rfl ?_
  refine lv_iadd hx hb dL_law_1234 (lv_topi (fun v24 e24 => ?_))
  have e24i : v24.toInt = z + 1 := i_add e24 ez (by decide) (by omega) (by omega)
  have hq24 : v24 = v21 := e24.trans e21.symm
  refine va_sld hx hb K.hX K.hbl K.hbA hS (i_in e24i (by omega) (by omega)) dL_law_1235 ?_
  rw [hq24]
  refine lv_aload_n hx hb dL_law_1236 rfl (lv_at hl 3 rfl) ?_
  refine lv_iload_n hx hb dL_law_1237 rfl (lv_at hl 0 rfl) ?_
  refine lv_iconst (v := 2) hx hb dL_law_1238 rfl ?_
  refine lv_iadd hx hb dL_law_1239 (lv_topi (fun v25 e25 => ?_))
  have e25i : v25.toInt = z + 2 := i_add e25 ez (by decide) (by omega) (by omega)
  have hq25 : v25 = v22 := e25.trans e22.symm
  refine va_sld hx hb K.hX K.hbl K.hbA hS (i_in e25i (by omega) (by omega)) dL_law_1240 ?_
  rw [hq25]
  refine r_goI (r_runV (As := [.int (xs v21.toNatClampNeg), .int (xs v22.toNatClampNeg)]) (rest := []) E hC hS (m_X12_look l X Γ H23 hC m1 K.g2 (xs v21.toNatClampNeg) (a1 := ((xs v21.toNatClampNeg) : Int32).toInt) rfl (xs v22.toNatClampNeg) (a2 := ((xs v22.toNatClampNeg) : Int32).toInt) rfl ca K.gca K.uc) lcw_X12_look lcl_161 K.g2 ⟨rfl, rfl⟩ rfl hl.1 rfl (Nat.zero_le _) (by decide) (by decide) (by decide) (by decide) dL_law_1241) hS (fun v26 H26 locs26 hp hC26 hS26 => ?_)
  obtain ⟨hp1, hp2b⟩ := hp
  have hMI : MI X H26 m1 ca := hMI.kp hC K.gca K.g2 hp1 rfl rfl rfl
  have hMR : mkI X H26 x1 = mmI X H26 m1 := (mk_kp hp1 K.g1 rfl).trans (hMR.trans (mm_kp hp1 K.g2 rfl).symm)
  have hFR : flI X H26 ra = tpdI X H26 m1 := (fl_kp hp1 K.gra rfl).trans (hFR.trans (tpd_kp hp1 K.g2 rfl).symm)
  have hSd := hSH; have hSH : SHP X Γ H26 x1 ta td nd := hSH.kpM K.g1 hp1 rfl
  have hTc2 : TSm X td H23 H26 := TSm.kp1 hp1 hSH rfl; have hNc2 : NSm (nC nd H23) (nC nd H26) := nC_kp1 hp1 hSH rfl
  have hTrm := hTR; have hTm2 : TMm tm ts H23 H26 := TMm.kp TMm.rf hp1 K.gtm K.gts rfl; have hTR := hTR.same hTc2 hTm2
  have hpb := hp2b
  have hNm2 : NSm (nM na H23) (nM na H26) := nM_kp NSm.rf hp1 K.gna rfl; have hNrm := hNR; have hNR := hNR.same hTc2 hNc2 hNm2
  have hC := hC26; have hS := hS26
  refine lv_pop hx hb dL_law_1244 rfl ?_
  refine lv_goto (tgt := 1667) hx hb dL_law_1245 rfl ?_
  exact hk _ _ hC hS hMI hMR hFR hSH hTR hNR
set_option maxRecDepth 100000 in
set_option maxHeartbeats 4000000 in
theorem law_34 (l : Launch) {p : Program} {e : Env} {s : State} {m : MethodId} {below : List Frame} {meth : Method} {c : Code} {X : xW} {Γ : Nat → Option Nat} {b L : Nat} {xs : Nat → Int32} {x1 m1 ca ka oa ra ta tm ts na : Nat} {td nd : Nat → Nat} (K : LK p s m meth c X Γ b L xs x1 m1 ca ka oa ra tm ts na) {H : Heap} {locs : List Loc} {ls : Array Slot} {Q : State → Prop} {i : Int32} {z : Int} (ez : i.toInt = z) (h0z : 0 ≤ z) (hzL : z + 6 ≤ L) (hC : Conf X Γ H) (hS : va_S (AΓ Γ) s.heap H locs) (hMI : MI X H m1 ca) (hMR : mkI X H x1 = mmI X H m1) (hFR : flI X H ra = tpdI X H m1) (hSH : SHP X Γ H x1 ta td nd) (hTR : TRl X td tm ts H) (hNR : NRl X td nd na H) (hl : lv_has ls 4 [(3, .int i), (2, .ref m1), (1, .ref x1), (0, .ref b)]) (hk : ∀ (H1 : Heap) (locs1 : List Loc), Conf X Γ H1 → va_S (AΓ Γ) s.heap H1 locs1 → MI X H1 m1 ca → mkI X H1 x1 = mmI X H1 m1 → flI X H1 ra = tpdI X H1 m1 → SHP X Γ H1 x1 ta td nd → TRl X td tm ts H1 → NRl X td nd na H1 → W p l e room_1 s m #[Value.ref b] below meth c H1 locs1 147 13128 Q (F0 m 1667 ls [])) : W p l e room_1 s m #[Value.ref b] below meth c H locs 147 13128 Q (F0 m 1248 ls []) := by
  have E := K.E; have hx := E.1; have hb := E.2.1; have hLl := K.hL
  refine lv_aload_n hx hb dL_law_1248 rfl (lv_at hl 2 rfl) ?_
  refine lv_aload_n hx hb dL_law_1249 rfl (lv_at hl 3 rfl) ?_
  refine lv_iload_n hx hb dL_law_1250 rfl (lv_at hl 0 rfl) ?_
  refine lv_iconst (v := 1) hx hb dL_law_1251 rfl ?_
  refine lv_iadd hx hb dL_law_1252 (lv_topi (fun v21 e21 => ?_))
  have e21i : v21.toInt = z + 1 := i_add e21 ez (by decide) (by omega) (by omega)
  refine va_sld hx hb K.hX K.hbl K.hbA hS (i_in e21i (by omega) (by omega)) dL_law_1253 ?_
  refine r_goI (r_runV (As := [.int (xs v21.toNatClampNeg)]) (rest := []) E hC hS (m_X11_hiding l X Γ H hC x1 K.g1 (xs v21.toNatClampNeg) (a1 := ((xs v21.toNatClampNeg) : Int32).toInt) rfl) lcw_X11_hiding lcl_162 K.g1 ⟨rfl, rfl⟩ rfl hl.1 rfl (Nat.zero_le _) (by decide) (by decide) (by decide) (by decide) dL_law_1254) hS (fun v22 H22 locs22 hp hC22 hS22 => ?_)
  obtain ⟨hp1, hp2a⟩ := hp
  have hMI : MI X H22 m1 ca := hMI.cl hC K.gca K.g2 hp1 rfl
  have hMR : mkI X H22 x1 = mmI X H22 m1 := (mk_kp hp1 K.g1 rfl).trans (hMR.trans (mm_kp hp1 K.g2 rfl).symm)
  have hFR : flI X H22 ra = tpdI X H22 m1 := (fl_kp hp1 K.gra rfl).trans (hFR.trans (tpd_kp hp1 K.g2 rfl).symm)
  have hSd := hSH; have hSH : SHP X Γ H22 x1 ta td nd := hSH.kp K.g1 hp1 rfl
  have hTr0 := hTR; have hNr0 := hNR; have hTm : TMm tm ts H H22 := TMm.kp0 hp1 K.gtm K.gts rfl; have hNm : NSm (nM na H) (nM na H22) := nM_kp0 hp1 K.gna rfl
  have hTc : TSm X td H H22 := TSm.kp TSm.rf hp1 hSH rfl; have hTR := hTR.same hTc hTm
  have hNc : NSm (nC nd H) (nC nd H22) := nC_kp NSm.rf hp1 hSH rfl; have hNR := hNR.same hTc hNc hNm
  have hpa := hp2a; have hCA := hC
  have hC := hC22; have hS := hS22
  refine lv_pop hx hb dL_law_1257 rfl ?_
  refine lv_aload_n hx hb dL_law_1258 rfl (lv_at hl 1 rfl) ?_
  refine lv_aload_n hx hb dL_law_1259 rfl (lv_at hl 3 rfl) ?_
  refine lv_iload_n hx hb dL_law_1260 rfl (lv_at hl 0 rfl) ?_
  refine lv_iconst (v := 1) hx hb dL_law_1261 rfl ?_
  refine lv_iadd hx hb dL_law_1262 (lv_topi (fun v23 e23 => ?_))
  have e23i : v23.toInt = z + 1 := i_add e23 ez (by decide) (by omega) (by omega)
  have hq23 : v23 = v21 := e23.trans e21.symm
  refine va_sld hx hb K.hX K.hbl K.hbA hS (i_in e23i (by omega) (by omega)) dL_law_1263 ?_
  rw [hq23]
  refine r_goI (r_runV (As := [.int (xs v21.toNatClampNeg)]) (rest := []) E hC hS (m_X12_hiding l X Γ H22 hC m1 K.g2 (xs v21.toNatClampNeg) (a1 := ((xs v21.toNatClampNeg) : Int32).toInt) rfl ca K.gca K.uc) lcw_X12_hiding lcl_165 K.g2 ⟨rfl, rfl⟩ rfl hl.1 rfl (Nat.zero_le _) (by decide) (by decide) (by decide) (by decide) dL_law_1264) hS (fun v24 H24 locs24 hp hC24 hS24 => ?_)
  obtain ⟨hp1, hp2b⟩ := hp
  have hMI : MI X H24 m1 ca := hMI.kp hC K.gca K.g2 hp1 rfl rfl rfl
  have hMR : mkI X H24 x1 = mmI X H24 m1 := (mk_kp hp1 K.g1 rfl).trans (hMR.trans (mm_kp hp1 K.g2 rfl).symm)
  have hFR : flI X H24 ra = tpdI X H24 m1 := (fl_kp hp1 K.gra rfl).trans (hFR.trans (tpd_kp hp1 K.g2 rfl).symm)
  have hSd := hSH; have hSH : SHP X Γ H24 x1 ta td nd := hSH.kpM K.g1 hp1 rfl
  have hTc2 : TSm X td H22 H24 := TSm.kp1 hp1 hSH rfl; have hNc2 : NSm (nC nd H22) (nC nd H24) := nC_kp1 hp1 hSH rfl
  have hTrm := hTR; have hTm2 : TMm tm ts H22 H24 := TMm.kp TMm.rf hp1 K.gtm K.gts rfl; have hTR := hTR.same hTc2 hTm2
  have hpb := hp2b
  have hNm2 : NSm (nM na H22) (nM na H24) := nM_kp NSm.rf hp1 K.gna rfl; have hNrm := hNR; have hNR := hNR.same hTc2 hNc2 hNm2
  have hC := hC24; have hS := hS24
  refine lv_pop hx hb dL_law_1267 rfl ?_
  refine lv_goto (tgt := 1667) hx hb dL_law_1268 rfl ?_
  exact hk _ _ hC hS hMI hMR hFR hSH hTR hNR
set_option maxRecDepth 100000 in
set_option maxHeartbeats 4000000 in
theorem law_35 (l : Launch) {p : Program} {e : Env} {s : State} {m : MethodId} {below : List Frame} {meth : Method} {c : Code} {X : xW} {Γ : Nat → Option Nat} {b L : Nat} {xs : Nat → Int32} {x1 m1 ca ka oa ra ta tm ts na : Nat} {td nd : Nat → Nat} (K : LK p s m meth c X Γ b L xs x1 m1 ca ka oa ra tm ts na) {H : Heap} {locs : List Loc} {ls : Array Slot} {Q : State → Prop} {i : Int32} {z : Int} (ez : i.toInt = z) (h0z : 0 ≤ z) (hzL : z + 6 ≤ L) (hC : Conf X Γ H) (hS : va_S (AΓ Γ) s.heap H locs) (hMI : MI X H m1 ca) (hMR : mkI X H x1 = mmI X H m1) (hFR : flI X H ra = tpdI X H m1) (hSH : SHP X Γ H x1 ta td nd) (hTR : TRl X td tm ts H) (hNR : NRl X td nd na H) (hl : lv_has ls 4 [(3, .int i), (2, .ref m1), (1, .ref x1), (0, .ref b)]) (hk : ∀ (H1 : Heap) (locs1 : List Loc), Conf X Γ H1 → va_S (AΓ Γ) s.heap H1 locs1 → MI X H1 m1 ca → mkI X H1 x1 = mmI X H1 m1 → flI X H1 ra = tpdI X H1 m1 → SHP X Γ H1 x1 ta td nd → TRl X td tm ts H1 → NRl X td nd na H1 → W p l e room_1 s m #[Value.ref b] below meth c H1 locs1 147 13128 Q (F0 m 1667 ls [])) : W p l e room_1 s m #[Value.ref b] below meth c H locs 147 13128 Q (F0 m 1271 ls []) := by
  have E := K.E; have hx := E.1; have hb := E.2.1; have hLl := K.hL
  refine lv_aload_n hx hb dL_law_1271 rfl (lv_at hl 2 rfl) ?_
  refine lv_aload_n hx hb dL_law_1272 rfl (lv_at hl 3 rfl) ?_
  refine lv_iload_n hx hb dL_law_1273 rfl (lv_at hl 0 rfl) ?_
  refine lv_iconst (v := 1) hx hb dL_law_1274 rfl ?_
  refine lv_iadd hx hb dL_law_1275 (lv_topi (fun v21 e21 => ?_))
  have e21i : v21.toInt = z + 1 := i_add e21 ez (by decide) (by omega) (by omega)
  refine va_sld hx hb K.hX K.hbl K.hbA hS (i_in e21i (by omega) (by omega)) dL_law_1276 ?_
  refine lv_aload_n hx hb dL_law_1277 rfl (lv_at hl 3 rfl) ?_
  refine lv_iload_n hx hb dL_law_1278 rfl (lv_at hl 0 rfl) ?_
  refine lv_iconst (v := 2) hx hb dL_law_1279 rfl ?_
  refine lv_iadd hx hb dL_law_1280 (lv_topi (fun v22 e22 => ?_))
  have e22i : v22.toInt = z + 2 := i_add e22 ez (by decide) (by omega) (by omega)
  refine va_sld hx hb K.hX K.hbl K.hbA hS (i_in e22i (by omega) (by omega)) dL_law_1281 ?_
  refine r_goI (r_runV (As := [.int (xs v21.toNatClampNeg), .int (xs v22.toNatClampNeg)]) (rest := []) E hC hS (m_X11_sure l X Γ H hC x1 K.g1 (xs v21.toNatClampNeg) (a1 := ((xs v21.toNatClampNeg) : Int32).toInt) rfl (xs v22.toNatClampNeg) (a2 := ((xs v22.toNatClampNeg) : Int32).toInt) rfl) lcw_X11_sure lcl_166 K.g1 ⟨rfl, rfl⟩ rfl hl.1 rfl (Nat.zero_le _) (by decide) (by decide) (by decide) (by decide) dL_law_1282) hS (fun v23 H23 locs23 hp hC23 hS23 => ?_)
  obtain ⟨hp1, hp2a⟩ := hp
  have hMI : MI X H23 m1 ca := hMI.cl hC K.gca K.g2 hp1 rfl
  have hMR : mkI X H23 x1 = mmI X H23 m1 := (mk_kp hp1 K.g1 rfl).trans (hMR.trans (mm_kp hp1 K.g2 rfl).symm)
  have hFR : flI X H23 ra = tpdI X H23 m1 := (fl_kp hp1 K.gra rfl).trans (hFR.trans (tpd_kp hp1 K.g2 rfl).symm)
  have hSd := hSH; have hSH : SHP X Γ H23 x1 ta td nd := hSH.kp K.g1 hp1 rfl
  have hTr0 := hTR; have hNr0 := hNR; have hTm : TMm tm ts H H23 := TMm.kp0 hp1 K.gtm K.gts rfl; have hNm : NSm (nM na H) (nM na H23) := nM_kp0 hp1 K.gna rfl
  have hTc : TSm X td H H23 := TSm.kp TSm.rf hp1 hSH rfl; have hTR := hTR.same hTc hTm
  have hNc : NSm (nC nd H) (nC nd H23) := nC_kp NSm.rf hp1 hSH rfl; have hNR := hNR.same hTc hNc hNm
  have hpa := hp2a; have hCA := hC
  have hC := hC23; have hS := hS23
  refine lv_pop hx hb dL_law_1285 rfl ?_
  refine lv_aload_n hx hb dL_law_1286 rfl (lv_at hl 1 rfl) ?_
  refine lv_aload_n hx hb dL_law_1287 rfl (lv_at hl 3 rfl) ?_
  refine lv_iload_n hx hb dL_law_1288 rfl (lv_at hl 0 rfl) ?_
  refine lv_iconst (v := 1) hx hb dL_law_1289 rfl ?_
  refine lv_iadd hx hb dL_law_1290 (lv_topi (fun v24 e24 => ?_))
  have e24i : v24.toInt = z + 1 := i_add e24 ez (by decide) (by omega) (by omega)
  have hq24 : v24 = v21 := e24.trans e21.symm
  refine va_sld hx hb K.hX K.hbl K.hbA hS (i_in e24i (by omega) (by omega)) dL_law_1291 ?_
  rw [hq24]
  refine lv_aload_n hx hb dL_law_1292 rfl (lv_at hl 3 rfl) ?_
  refine lv_iload_n hx hb dL_law_1293 rfl (lv_at hl 0 rfl) ?_
  refine lv_iconst (v := 2) hx hb dL_law_1294 rfl ?_
  refine lv_iadd hx hb dL_law_1295 (lv_topi (fun v25 e25 => ?_))
  have e25i : v25.toInt = z + 2 := i_add e25 ez (by decide) (by omega) (by omega)
  have hq25 : v25 = v22 := e25.trans e22.symm
  refine va_sld hx hb K.hX K.hbl K.hbA hS (i_in e25i (by omega) (by omega)) dL_law_1296 ?_
  rw [hq25]
  refine r_goI (r_runV (As := [.int (xs v21.toNatClampNeg), .int (xs v22.toNatClampNeg)]) (rest := []) E hC hS (m_X12_sure l X Γ H23 hC m1 K.g2 (xs v21.toNatClampNeg) (a1 := ((xs v21.toNatClampNeg) : Int32).toInt) rfl (xs v22.toNatClampNeg) (a2 := ((xs v22.toNatClampNeg) : Int32).toInt) rfl ca K.gca K.uc) lcw_X12_sure lcl_169 K.g2 ⟨rfl, rfl⟩ rfl hl.1 rfl (Nat.zero_le _) (by decide) (by decide) (by decide) (by decide) dL_law_1297) hS (fun v26 H26 locs26 hp hC26 hS26 => ?_)
  obtain ⟨hp1, hp2b⟩ := hp
  have hMI : MI X H26 m1 ca := hMI.kp hC K.gca K.g2 hp1 rfl rfl rfl
  have hMR : mkI X H26 x1 = mmI X H26 m1 := (mk_kp hp1 K.g1 rfl).trans (hMR.trans (mm_kp hp1 K.g2 rfl).symm)
  have hFR : flI X H26 ra = tpdI X H26 m1 := (fl_kp hp1 K.gra rfl).trans (hFR.trans (tpd_kp hp1 K.g2 rfl).symm)
  have hSd := hSH; have hSH : SHP X Γ H26 x1 ta td nd := hSH.kpM K.g1 hp1 rfl
  have hTc2 : TSm X td H23 H26 := TSm.kp1 hp1 hSH rfl; have hNc2 : NSm (nC nd H23) (nC nd H26) := nC_kp1 hp1 hSH rfl
  have hTrm := hTR; have hTm2 : TMm tm ts H23 H26 := TMm.kp TMm.rf hp1 K.gtm K.gts rfl; have hTR := hTR.same hTc2 hTm2
  have hpb := hp2b
  have hNm2 : NSm (nM na H23) (nM na H26) := nM_kp NSm.rf hp1 K.gna rfl; have hNrm := hNR; have hNR := hNR.same hTc2 hNc2 hNm2
  have hC := hC26; have hS := hS26
  refine lv_pop hx hb dL_law_1300 rfl ?_
  refine lv_goto (tgt := 1667) hx hb dL_law_1301 rfl ?_
  exact hk _ _ hC hS hMI hMR hFR hSH hTR hNR
set_option maxRecDepth 100000 in
set_option maxHeartbeats 4000000 in
theorem law_36 (l : Launch) {p : Program} {e : Env} {s : State} {m : MethodId} {below : List Frame} {meth : Method} {c : Code} {X : xW} {Γ : Nat → Option Nat} {b L : Nat} {xs : Nat → Int32} {x1 m1 ca ka oa ra ta tm ts na : Nat} {td nd : Nat → Nat} (K : LK p s m meth c X Γ b L xs x1 m1 ca ka oa ra tm ts na) {H : Heap} {locs : List Loc} {ls : Array Slot} {Q : State → Prop} {i : Int32} {z : Int} (ez : i.toInt = z) (h0z : 0 ≤ z) (hzL : z + 6 ≤ L) (hC : Conf X Γ H) (hS : va_S (AΓ Γ) s.heap H locs) (hMI : MI X H m1 ca) (hMR : mkI X H x1 = mmI X H m1) (hFR : flI X H ra = tpdI X H m1) (hSH : SHP X Γ H x1 ta td nd) (hTR : TRl X td tm ts H) (hNR : NRl X td nd na H) (hl : lv_has ls 4 [(3, .int i), (2, .ref m1), (1, .ref x1), (0, .ref b)]) (hk : ∀ (H1 : Heap) (locs1 : List Loc), Conf X Γ H1 → va_S (AΓ Γ) s.heap H1 locs1 → MI X H1 m1 ca → mkI X H1 x1 = mmI X H1 m1 → flI X H1 ra = tpdI X H1 m1 → SHP X Γ H1 x1 ta td nd → TRl X td tm ts H1 → NRl X td nd na H1 → W p l e room_1 s m #[Value.ref b] below meth c H1 locs1 147 13128 Q (F0 m 1667 ls [])) : W p l e room_1 s m #[Value.ref b] below meth c H locs 147 13128 Q (F0 m 1304 ls []) := by
  have E := K.E; have hx := E.1; have hb := E.2.1; have hLl := K.hL
  refine lv_aload_n hx hb dL_law_1304 rfl (lv_at hl 2 rfl) ?_
  refine lv_aload_n hx hb dL_law_1305 rfl (lv_at hl 3 rfl) ?_
  refine lv_iload_n hx hb dL_law_1306 rfl (lv_at hl 0 rfl) ?_
  refine lv_iconst (v := 1) hx hb dL_law_1307 rfl ?_
  refine lv_iadd hx hb dL_law_1308 (lv_topi (fun v21 e21 => ?_))
  have e21i : v21.toInt = z + 1 := i_add e21 ez (by decide) (by omega) (by omega)
  refine va_sld hx hb K.hX K.hbl K.hbA hS (i_in e21i (by omega) (by omega)) dL_law_1309 ?_
  refine lv_aload_n hx hb dL_law_1310 rfl (lv_at hl 3 rfl) ?_
  refine lv_iload_n hx hb dL_law_1311 rfl (lv_at hl 0 rfl) ?_
  refine lv_iconst (v := 2) hx hb dL_law_1312 rfl ?_
  refine lv_iadd hx hb dL_law_1313 (lv_topi (fun v22 e22 => ?_))
  have e22i : v22.toInt = z + 2 := i_add e22 ez (by decide) (by omega) (by omega)
  refine va_sld hx hb K.hX K.hbl K.hbA hS (i_in e22i (by omega) (by omega)) dL_law_1314 ?_
  refine lv_aload_n hx hb dL_law_1315 rfl (lv_at hl 3 rfl) ?_
  refine lv_iload_n hx hb dL_law_1316 rfl (lv_at hl 0 rfl) ?_
  refine lv_iconst (v := 3) hx hb dL_law_1317 rfl ?_
  refine lv_iadd hx hb dL_law_1318 (lv_topi (fun v23 e23 => ?_))
  have e23i : v23.toInt = z + 3 := i_add e23 ez (by decide) (by omega) (by omega)
  refine va_sld hx hb K.hX K.hbl K.hbA hS (i_in e23i (by omega) (by omega)) dL_law_1319 ?_
  refine r_goJ (r_runV (As := [.int (xs v21.toNatClampNeg), .int (xs v22.toNatClampNeg), .int (xs v23.toNatClampNeg)]) (rest := []) E hC hS (m_X11_works l X Γ H hC x1 K.g1 (xs v21.toNatClampNeg) (a1 := ((xs v21.toNatClampNeg) : Int32).toInt) rfl (xs v22.toNatClampNeg) (a2 := ((xs v22.toNatClampNeg) : Int32).toInt) rfl (xs v23.toNatClampNeg) (a3 := ((xs v23.toNatClampNeg) : Int32).toInt) rfl) lcw_X11_works lcl_170 K.g1 ⟨rfl, rfl⟩ rfl hl.1 rfl (Nat.zero_le _) (by decide) (by decide) (by decide) (by decide) dL_law_1320) hS (fun v24 H24 locs24 hp hC24 hS24 => ?_)
  obtain ⟨hp1, hp2a⟩ := hp
  have hMI : MI X H24 m1 ca := hMI.cl hC K.gca K.g2 hp1 rfl
  have hMR : mkI X H24 x1 = mmI X H24 m1 := (mk_kp hp1 K.g1 rfl).trans (hMR.trans (mm_kp hp1 K.g2 rfl).symm)
  have hFR : flI X H24 ra = tpdI X H24 m1 := (fl_kp hp1 K.gra rfl).trans (hFR.trans (tpd_kp hp1 K.g2 rfl).symm)
  have hSd := hSH; have hSH : SHP X Γ H24 x1 ta td nd := hSH.kp K.g1 hp1 rfl
  have hTr0 := hTR; have hNr0 := hNR; have hTm : TMm tm ts H H24 := TMm.kp0 hp1 K.gtm K.gts rfl; have hNm : NSm (nM na H) (nM na H24) := nM_kp0 hp1 K.gna rfl
  have hTc : TSm X td H H24 := TSm.kp TSm.rf hp1 hSH rfl; have hTR := hTR.same hTc hTm
  have hNc : NSm (nC nd H) (nC nd H24) := nC_kp NSm.rf hp1 hSH rfl; have hNR := hNR.same hTc hNc hNm
  have hpa := hp2a; have hCA := hC
  have hC := hC24; have hS := hS24
  refine lv_pop2_2 hx hb dL_law_1323 rfl ?_
  refine lv_aload_n hx hb dL_law_1324 rfl (lv_at hl 1 rfl) ?_
  refine lv_aload_n hx hb dL_law_1325 rfl (lv_at hl 3 rfl) ?_
  refine lv_iload_n hx hb dL_law_1326 rfl (lv_at hl 0 rfl) ?_
  refine lv_iconst (v := 1) hx hb dL_law_1327 rfl ?_
  refine lv_iadd hx hb dL_law_1328 (lv_topi (fun v25 e25 => ?_))
  have e25i : v25.toInt = z + 1 := i_add e25 ez (by decide) (by omega) (by omega)
  have hq25 : v25 = v21 := e25.trans e21.symm
  refine va_sld hx hb K.hX K.hbl K.hbA hS (i_in e25i (by omega) (by omega)) dL_law_1329 ?_
  rw [hq25]
  refine lv_aload_n hx hb dL_law_1330 rfl (lv_at hl 3 rfl) ?_
  refine lv_iload_n hx hb dL_law_1331 rfl (lv_at hl 0 rfl) ?_
  refine lv_iconst (v := 2) hx hb dL_law_1332 rfl ?_
  refine lv_iadd hx hb dL_law_1333 (lv_topi (fun v26 e26 => ?_))
  have e26i : v26.toInt = z + 2 := i_add e26 ez (by decide) (by omega) (by omega)
  have hq26 : v26 = v22 := e26.trans e22.symm
  refine va_sld hx hb K.hX K.hbl K.hbA hS (i_in e26i (by omega) (by omega)) dL_law_1334 ?_
  rw [hq26]
  refine lv_aload_n hx hb dL_law_1335 rfl (lv_at hl 3 rfl) ?_
  refine lv_iload_n hx hb dL_law_1336 rfl (lv_at hl 0 rfl) ?_
  refine lv_iconst (v := 3) hx hb dL_law_1337 rfl ?_
  refine lv_iadd hx hb dL_law_1338 (lv_topi (fun v27 e27 => ?_))
  have e27i : v27.toInt = z + 3 := i_add e27 ez (by decide) (by omega) (by omega)
  have hq27 : v27 = v23 := e27.trans e23.symm
  refine va_sld hx hb K.hX K.hbl K.hbA hS (i_in e27i (by omega) (by omega)) dL_law_1339 ?_
  rw [hq27]
  refine r_goJ (r_runV (As := [.int (xs v21.toNatClampNeg), .int (xs v22.toNatClampNeg), .int (xs v23.toNatClampNeg)]) (rest := []) E hC hS (m_X12_works l X Γ H24 hC m1 K.g2 (xs v21.toNatClampNeg) (a1 := ((xs v21.toNatClampNeg) : Int32).toInt) rfl (xs v22.toNatClampNeg) (a2 := ((xs v22.toNatClampNeg) : Int32).toInt) rfl (xs v23.toNatClampNeg) (a3 := ((xs v23.toNatClampNeg) : Int32).toInt) rfl ca K.gca K.uc) lcw_X12_works lcl_174 K.g2 ⟨rfl, rfl⟩ rfl hl.1 rfl (Nat.zero_le _) (by decide) (by decide) (by decide) (by decide) dL_law_1340) hS (fun v28 H28 locs28 hp hC28 hS28 => ?_)
  obtain ⟨hp1, hp2b⟩ := hp
  have hMI : MI X H28 m1 ca := hMI.kp hC K.gca K.g2 hp1 rfl rfl rfl
  have hMR : mkI X H28 x1 = mmI X H28 m1 := (mk_kp hp1 K.g1 rfl).trans (hMR.trans (mm_kp hp1 K.g2 rfl).symm)
  have hFR : flI X H28 ra = tpdI X H28 m1 := (fl_kp hp1 K.gra rfl).trans (hFR.trans (tpd_kp hp1 K.g2 rfl).symm)
  have hSd := hSH; have hSH : SHP X Γ H28 x1 ta td nd := hSH.kpM K.g1 hp1 rfl
  have hTc2 : TSm X td H24 H28 := TSm.kp1 hp1 hSH rfl; have hNc2 : NSm (nC nd H24) (nC nd H28) := nC_kp1 hp1 hSH rfl
  have hTrm := hTR; have hTm2 : TMm tm ts H24 H28 := TMm.kp TMm.rf hp1 K.gtm K.gts rfl; have hTR := hTR.same hTc2 hTm2
  have hpb := hp2b
  have hNm2 : NSm (nM na H24) (nM na H28) := nM_kp NSm.rf hp1 K.gna rfl; have hNrm := hNR; have hNR := hNR.same hTc2 hNc2 hNm2
  have hC := hC28; have hS := hS28
  refine lv_pop2_2 hx hb dL_law_1343 rfl ?_
  refine lv_goto (tgt := 1667) hx hb dL_law_1344 rfl ?_
  exact hk _ _ hC hS hMI hMR hFR hSH hTR hNR
set_option maxRecDepth 100000 in
set_option maxHeartbeats 4000000 in
theorem law_37 (l : Launch) {p : Program} {e : Env} {s : State} {m : MethodId} {below : List Frame} {meth : Method} {c : Code} {X : xW} {Γ : Nat → Option Nat} {b L : Nat} {xs : Nat → Int32} {x1 m1 ca ka oa ra ta tm ts na : Nat} {td nd : Nat → Nat} (K : LK p s m meth c X Γ b L xs x1 m1 ca ka oa ra tm ts na) {H : Heap} {locs : List Loc} {ls : Array Slot} {Q : State → Prop} {i : Int32} {z : Int} (ez : i.toInt = z) (h0z : 0 ≤ z) (hzL : z + 6 ≤ L) (hC : Conf X Γ H) (hS : va_S (AΓ Γ) s.heap H locs) (hMI : MI X H m1 ca) (hMR : mkI X H x1 = mmI X H m1) (hFR : flI X H ra = tpdI X H m1) (hSH : SHP X Γ H x1 ta td nd) (hTR : TRl X td tm ts H) (hNR : NRl X td nd na H) (hl : lv_has ls 4 [(3, .int i), (2, .ref m1), (1, .ref x1), (0, .ref b)]) (hk : ∀ (H1 : Heap) (locs1 : List Loc), Conf X Γ H1 → va_S (AΓ Γ) s.heap H1 locs1 → MI X H1 m1 ca → mkI X H1 x1 = mmI X H1 m1 → flI X H1 ra = tpdI X H1 m1 → SHP X Γ H1 x1 ta td nd → TRl X td tm ts H1 → NRl X td nd na H1 → W p l e room_1 s m #[Value.ref b] below meth c H1 locs1 147 13128 Q (F0 m 1667 ls [])) : W p l e room_1 s m #[Value.ref b] below meth c H locs 147 13128 Q (F0 m 1347 ls []) := by
  have E := K.E; have hx := E.1; have hb := E.2.1; have hLl := K.hL
  refine lv_aload_n hx hb dL_law_1347 rfl (lv_at hl 2 rfl) ?_
  refine lv_aload_n hx hb dL_law_1348 rfl (lv_at hl 3 rfl) ?_
  refine lv_iload_n hx hb dL_law_1349 rfl (lv_at hl 0 rfl) ?_
  refine lv_iconst (v := 1) hx hb dL_law_1350 rfl ?_
  refine lv_iadd hx hb dL_law_1351 (lv_topi (fun v21 e21 => ?_))
  have e21i : v21.toInt = z + 1 := i_add e21 ez (by decide) (by omega) (by omega)
  refine va_sld hx hb K.hX K.hbl K.hbA hS (i_in e21i (by omega) (by omega)) dL_law_1352 ?_
  refine r_goI (r_runV (As := [.int (xs v21.toNatClampNeg)]) (rest := []) E hC hS (m_X11_worked l X Γ H hC x1 K.g1 (xs v21.toNatClampNeg) (a1 := ((xs v21.toNatClampNeg) : Int32).toInt) rfl) lcw_X11_worked lcl_175 K.g1 ⟨rfl, rfl⟩ rfl hl.1 rfl (Nat.zero_le _) (by decide) (by decide) (by decide) (by decide) dL_law_1353) hS (fun v22 H22 locs22 hp hC22 hS22 => ?_)
  obtain ⟨hp1, hp2a⟩ := hp
  have hMI : MI X H22 m1 ca := hMI.cl hC K.gca K.g2 hp1 rfl
  have hMR : mkI X H22 x1 = mmI X H22 m1 := (mk_kp hp1 K.g1 rfl).trans (hMR.trans (mm_kp hp1 K.g2 rfl).symm)
  have hFR : flI X H22 ra = tpdI X H22 m1 := (fl_kp hp1 K.gra rfl).trans (hFR.trans (tpd_kp hp1 K.g2 rfl).symm)
  have hSd := hSH; have hSH : SHP X Γ H22 x1 ta td nd := hSH.kp K.g1 hp1 rfl
  have hTr0 := hTR; have hNr0 := hNR; have hTm : TMm tm ts H H22 := TMm.kp0 hp1 K.gtm K.gts rfl; have hNm : NSm (nM na H) (nM na H22) := nM_kp0 hp1 K.gna rfl
  have hTc : TSm X td H H22 := TSm.kp TSm.rf hp1 hSH rfl; have hTR := hTR.same hTc hTm
  have hNc : NSm (nC nd H) (nC nd H22) := nC_kp NSm.rf hp1 hSH rfl; have hNR := hNR.same hTc hNc hNm
  have hpa := hp2a; have hCA := hC
  have hC := hC22; have hS := hS22
  refine lv_pop hx hb dL_law_1356 rfl ?_
  refine lv_aload_n hx hb dL_law_1357 rfl (lv_at hl 1 rfl) ?_
  refine lv_aload_n hx hb dL_law_1358 rfl (lv_at hl 3 rfl) ?_
  refine lv_iload_n hx hb dL_law_1359 rfl (lv_at hl 0 rfl) ?_
  refine lv_iconst (v := 1) hx hb dL_law_1360 rfl ?_
  refine lv_iadd hx hb dL_law_1361 (lv_topi (fun v23 e23 => ?_))
  have e23i : v23.toInt = z + 1 := i_add e23 ez (by decide) (by omega) (by omega)
  have hq23 : v23 = v21 := e23.trans e21.symm
  refine va_sld hx hb K.hX K.hbl K.hbA hS (i_in e23i (by omega) (by omega)) dL_law_1362 ?_
  rw [hq23]
  refine r_goI (r_runV (As := [.int (xs v21.toNatClampNeg)]) (rest := []) E hC hS (m_X12_worked l X Γ H22 hC m1 K.g2 (xs v21.toNatClampNeg) (a1 := ((xs v21.toNatClampNeg) : Int32).toInt) rfl ca K.gca K.uc) lcw_X12_worked lcl_178 K.g2 ⟨rfl, rfl⟩ rfl hl.1 rfl (Nat.zero_le _) (by decide) (by decide) (by decide) (by decide) dL_law_1363) hS (fun v24 H24 locs24 hp hC24 hS24 => ?_)
  obtain ⟨hp1, hp2b⟩ := hp
  have hMI : MI X H24 m1 ca := hMI.kp hC K.gca K.g2 hp1 rfl rfl rfl
  have hMR : mkI X H24 x1 = mmI X H24 m1 := (mk_kp hp1 K.g1 rfl).trans (hMR.trans (mm_kp hp1 K.g2 rfl).symm)
  have hFR : flI X H24 ra = tpdI X H24 m1 := (fl_kp hp1 K.gra rfl).trans (hFR.trans (tpd_kp hp1 K.g2 rfl).symm)
  have hSd := hSH; have hSH : SHP X Γ H24 x1 ta td nd := hSH.kpM K.g1 hp1 rfl
  have hTc2 : TSm X td H22 H24 := TSm.kp1 hp1 hSH rfl; have hNc2 : NSm (nC nd H22) (nC nd H24) := nC_kp1 hp1 hSH rfl
  have hTrm := hTR; have hTm2 : TMm tm ts H22 H24 := TMm.kp TMm.rf hp1 K.gtm K.gts rfl; have hTR := hTR.same hTc2 hTm2
  have hpb := hp2b
  have hNm2 : NSm (nM na H22) (nM na H24) := nM_kp NSm.rf hp1 K.gna rfl; have hNrm := hNR; have hNR := hNR.same hTc2 hNc2 hNm2
  have hC := hC24; have hS := hS24
  refine lv_pop hx hb dL_law_1366 rfl ?_
  refine lv_goto (tgt := 1667) hx hb dL_law_1367 rfl ?_
  exact hk _ _ hC hS hMI hMR hFR hSH hTR hNR
set_option maxRecDepth 100000 in
set_option maxHeartbeats 4000000 in
theorem law_38 (l : Launch) {p : Program} {e : Env} {s : State} {m : MethodId} {below : List Frame} {meth : Method} {c : Code} {X : xW} {Γ : Nat → Option Nat} {b L : Nat} {xs : Nat → Int32} {x1 m1 ca ka oa ra ta tm ts na : Nat} {td nd : Nat → Nat} (K : LK p s m meth c X Γ b L xs x1 m1 ca ka oa ra tm ts na) {H : Heap} {locs : List Loc} {ls : Array Slot} {Q : State → Prop} {i : Int32} {z : Int} (ez : i.toInt = z) (h0z : 0 ≤ z) (hzL : z + 6 ≤ L) (hC : Conf X Γ H) (hS : va_S (AΓ Γ) s.heap H locs) (hMI : MI X H m1 ca) (hMR : mkI X H x1 = mmI X H m1) (hFR : flI X H ra = tpdI X H m1) (hSH : SHP X Γ H x1 ta td nd) (hTR : TRl X td tm ts H) (hNR : NRl X td nd na H) (hl : lv_has ls 4 [(3, .int i), (2, .ref m1), (1, .ref x1), (0, .ref b)]) (hk : ∀ (H1 : Heap) (locs1 : List Loc), Conf X Γ H1 → va_S (AΓ Γ) s.heap H1 locs1 → MI X H1 m1 ca → mkI X H1 x1 = mmI X H1 m1 → flI X H1 ra = tpdI X H1 m1 → SHP X Γ H1 x1 ta td nd → TRl X td tm ts H1 → NRl X td nd na H1 → W p l e room_1 s m #[Value.ref b] below meth c H1 locs1 147 13128 Q (F0 m 1667 ls [])) : W p l e room_1 s m #[Value.ref b] below meth c H locs 147 13128 Q (F0 m 1370 ls []) := by
  have E := K.E; have hx := E.1; have hb := E.2.1; have hLl := K.hL
  refine lv_aload_n hx hb dL_law_1370 rfl (lv_at hl 2 rfl) ?_
  refine lv_aload_n hx hb dL_law_1371 rfl (lv_at hl 3 rfl) ?_
  refine lv_iload_n hx hb dL_law_1372 rfl (lv_at hl 0 rfl) ?_
  refine lv_iconst (v := 1) hx hb dL_law_1373 rfl ?_
  refine lv_iadd hx hb dL_law_1374 (lv_topi (fun v21 e21 => ?_))
  have e21i : v21.toInt = z + 1 := i_add e21 ez (by decide) (by omega) (by omega)
  refine va_sld hx hb K.hX K.hbl K.hbA hS (i_in e21i (by omega) (by omega)) dL_law_1375 ?_
  refine lv_aload_n hx hb dL_law_1376 rfl (lv_at hl 3 rfl) ?_
  refine lv_iload_n hx hb dL_law_1377 rfl (lv_at hl 0 rfl) ?_
  refine lv_iconst (v := 2) hx hb dL_law_1378 rfl ?_
  refine lv_iadd hx hb dL_law_1379 (lv_topi (fun v22 e22 => ?_))
  have e22i : v22.toInt = z + 2 := i_add e22 ez (by decide) (by omega) (by omega)
  refine va_sld hx hb K.hX K.hbl K.hbA hS (i_in e22i (by omega) (by omega)) dL_law_1380 ?_
  refine lv_aload_n hx hb dL_law_1381 rfl (lv_at hl 3 rfl) ?_
  refine lv_iload_n hx hb dL_law_1382 rfl (lv_at hl 0 rfl) ?_
  refine lv_iconst (v := 3) hx hb dL_law_1383 rfl ?_
  refine lv_iadd hx hb dL_law_1384 (lv_topi (fun v23 e23 => ?_))
  have e23i : v23.toInt = z + 3 := i_add e23 ez (by decide) (by omega) (by omega)
  refine va_sld hx hb K.hX K.hbl K.hbA hS (i_in e23i (by omega) (by omega)) dL_law_1385 ?_
  refine lv_aload_n hx hb dL_law_1386 rfl (lv_at hl 3 rfl) ?_
  refine lv_iload_n hx hb dL_law_1387 rfl (lv_at hl 0 rfl) ?_
  refine lv_iconst (v := 4) hx hb dL_law_1388 rfl ?_
  refine lv_iadd hx hb dL_law_1389 (lv_topi (fun v24 e24 => ?_))
  have e24i : v24.toInt = z + 4 := i_add e24 ez (by decide) (by omega) (by omega)
  refine va_sld hx hb K.hX K.hbl K.hbA hS (i_in e24i (by omega) (by omega)) dL_law_1390 ?_
  refine r_goI (r_runV (As := [.int (xs v21.toNatClampNeg), .int (xs v22.toNatClampNeg), .int (xs v23.toNatClampNeg), .int (xs v24.toNatClampNeg)]) (rest := []) E hC hS (m_X11_wins l X Γ H hC x1 K.g1 (xs v21.toNatClampNeg) (a1 := ((xs v21.toNatClampNeg) : Int32).toInt) rfl (xs v22.toNatClampNeg) (a2 := ((xs v22.toNatClampNeg) : Int32).toInt) rfl (xs v23.toNatClampNeg) (a3 := ((xs v23.toNatClampNeg) : Int32).toInt) rfl (xs v24.toNatClampNeg) (a4 := ((xs v24.toNatClampNeg) : Int32).toInt) rfl) lcw_X11_wins lcl_179 K.g1 ⟨rfl, rfl⟩ rfl hl.1 rfl (Nat.zero_le _) (by decide) (by decide) (by decide) (by decide) dL_law_1391) hS (fun v25 H25 locs25 hp hC25 hS25 => ?_)
  obtain ⟨hp1, hp2a⟩ := hp
  have hMI : MI X H25 m1 ca := hMI.cl hC K.gca K.g2 hp1 rfl
  have hMR : mkI X H25 x1 = mmI X H25 m1 := (mk_kp hp1 K.g1 rfl).trans (hMR.trans (mm_kp hp1 K.g2 rfl).symm)
  have hFR : flI X H25 ra = tpdI X H25 m1 := (fl_kp hp1 K.gra rfl).trans (hFR.trans (tpd_kp hp1 K.g2 rfl).symm)
  have hSd := hSH; have hSH : SHP X Γ H25 x1 ta td nd := hSH.kp K.g1 hp1 rfl
  have hTr0 := hTR; have hNr0 := hNR; have hTm : TMm tm ts H H25 := TMm.kp0 hp1 K.gtm K.gts rfl; have hNm : NSm (nM na H) (nM na H25) := nM_kp0 hp1 K.gna rfl
  have hTc : TSm X td H H25 := TSm.kp TSm.rf hp1 hSH rfl; have hTR := hTR.same hTc hTm
  have hNc : NSm (nC nd H) (nC nd H25) := nC_kp NSm.rf hp1 hSH rfl; have hNR := hNR.same hTc hNc hNm
  have hpa := hp2a; have hCA := hC
  have hC := hC25; have hS := hS25
  refine lv_pop hx hb dL_law_1394 rfl ?_
  refine lv_aload_n hx hb dL_law_1395 rfl (lv_at hl 1 rfl) ?_
  refine lv_aload_n hx hb dL_law_1396 rfl (lv_at hl 3 rfl) ?_
  refine lv_iload_n hx hb dL_law_1397 rfl (lv_at hl 0 rfl) ?_
  refine lv_iconst (v := 1) hx hb dL_law_1398 rfl ?_
  refine lv_iadd hx hb dL_law_1399 (lv_topi (fun v26 e26 => ?_))
  have e26i : v26.toInt = z + 1 := i_add e26 ez (by decide) (by omega) (by omega)
  have hq26 : v26 = v21 := e26.trans e21.symm
  refine va_sld hx hb K.hX K.hbl K.hbA hS (i_in e26i (by omega) (by omega)) dL_law_1400 ?_
  rw [hq26]
  refine lv_aload_n hx hb dL_law_1401 rfl (lv_at hl 3 rfl) ?_
  refine lv_iload_n hx hb dL_law_1402 rfl (lv_at hl 0 rfl) ?_
  refine lv_iconst (v := 2) hx hb dL_law_1403 rfl ?_
  refine lv_iadd hx hb dL_law_1404 (lv_topi (fun v27 e27 => ?_))
  have e27i : v27.toInt = z + 2 := i_add e27 ez (by decide) (by omega) (by omega)
  have hq27 : v27 = v22 := e27.trans e22.symm
  refine va_sld hx hb K.hX K.hbl K.hbA hS (i_in e27i (by omega) (by omega)) dL_law_1405 ?_
  rw [hq27]
  refine lv_aload_n hx hb dL_law_1406 rfl (lv_at hl 3 rfl) ?_
  refine lv_iload_n hx hb dL_law_1407 rfl (lv_at hl 0 rfl) ?_
  refine lv_iconst (v := 3) hx hb dL_law_1408 rfl ?_
  refine lv_iadd hx hb dL_law_1409 (lv_topi (fun v28 e28 => ?_))
  have e28i : v28.toInt = z + 3 := i_add e28 ez (by decide) (by omega) (by omega)
  have hq28 : v28 = v23 := e28.trans e23.symm
  refine va_sld hx hb K.hX K.hbl K.hbA hS (i_in e28i (by omega) (by omega)) dL_law_1410 ?_
  rw [hq28]
  refine lv_aload_n hx hb dL_law_1411 rfl (lv_at hl 3 rfl) ?_
  refine lv_iload_n hx hb dL_law_1412 rfl (lv_at hl 0 rfl) ?_
  refine lv_iconst (v := 4) hx hb dL_law_1413 rfl ?_
  refine lv_iadd hx hb dL_law_1414 (lv_topi (fun v29 e29 => ?_))
  have e29i : v29.toInt = z + 4 := i_add e29 ez (by decide) (by omega) (by omega)
  have hq29 : v29 = v24 := e29.trans e24.symm
  refine va_sld hx hb K.hX K.hbl K.hbA hS (i_in e29i (by omega) (by omega)) dL_law_1415 ?_
  rw [hq29]
  refine r_goI (r_runV (As := [.int (xs v21.toNatClampNeg), .int (xs v22.toNatClampNeg), .int (xs v23.toNatClampNeg), .int (xs v24.toNatClampNeg)]) (rest := []) E hC hS (m_X12_wins l X Γ H25 hC m1 K.g2 (xs v21.toNatClampNeg) (a1 := ((xs v21.toNatClampNeg) : Int32).toInt) rfl (xs v22.toNatClampNeg) (a2 := ((xs v22.toNatClampNeg) : Int32).toInt) rfl (xs v23.toNatClampNeg) (a3 := ((xs v23.toNatClampNeg) : Int32).toInt) rfl (xs v24.toNatClampNeg) (a4 := ((xs v24.toNatClampNeg) : Int32).toInt) rfl ca K.gca K.uc) lcw_X12_wins lcl_183 K.g2 ⟨rfl, rfl⟩ rfl hl.1 rfl (Nat.zero_le _) (by decide) (by decide) (by decide) (by decide) dL_law_1416) hS (fun v30 H30 locs30 hp hC30 hS30 => ?_)
  obtain ⟨hp1, hp2b⟩ := hp
  have hMI : MI X H30 m1 ca := hMI.kp hC K.gca K.g2 hp1 rfl rfl rfl
  have hMR : mkI X H30 x1 = mmI X H30 m1 := (mk_kp hp1 K.g1 rfl).trans (hMR.trans (mm_kp hp1 K.g2 rfl).symm)
  have hFR : flI X H30 ra = tpdI X H30 m1 := (fl_kp hp1 K.gra rfl).trans (hFR.trans (tpd_kp hp1 K.g2 rfl).symm)
  have hSd := hSH; have hSH : SHP X Γ H30 x1 ta td nd := hSH.kpM K.g1 hp1 rfl
  have hTc2 : TSm X td H25 H30 := TSm.kp1 hp1 hSH rfl; have hNc2 : NSm (nC nd H25) (nC nd H30) := nC_kp1 hp1 hSH rfl
  have hTrm := hTR; have hTm2 : TMm tm ts H25 H30 := TMm.kp TMm.rf hp1 K.gtm K.gts rfl; have hTR := hTR.same hTc2 hTm2
  have hpb := hp2b
  have hNm2 : NSm (nM na H25) (nM na H30) := nM_kp NSm.rf hp1 K.gna rfl; have hNrm := hNR; have hNR := hNR.same hTc2 hNc2 hNm2
  have hC := hC30; have hS := hS30
  refine lv_pop hx hb dL_law_1419 rfl ?_
  refine lv_goto (tgt := 1667) hx hb dL_law_1420 rfl ?_
  exact hk _ _ hC hS hMI hMR hFR hSH hTR hNR
set_option maxRecDepth 100000 in
set_option maxHeartbeats 4000000 in
theorem law_39 (l : Launch) {p : Program} {e : Env} {s : State} {m : MethodId} {below : List Frame} {meth : Method} {c : Code} {X : xW} {Γ : Nat → Option Nat} {b L : Nat} {xs : Nat → Int32} {x1 m1 ca ka oa ra ta tm ts na : Nat} {td nd : Nat → Nat} (K : LK p s m meth c X Γ b L xs x1 m1 ca ka oa ra tm ts na) {H : Heap} {locs : List Loc} {ls : Array Slot} {Q : State → Prop} {i : Int32} {z : Int} (ez : i.toInt = z) (h0z : 0 ≤ z) (hzL : z + 6 ≤ L) (hC : Conf X Γ H) (hS : va_S (AΓ Γ) s.heap H locs) (hMI : MI X H m1 ca) (hMR : mkI X H x1 = mmI X H m1) (hFR : flI X H ra = tpdI X H m1) (hSH : SHP X Γ H x1 ta td nd) (hTR : TRl X td tm ts H) (hNR : NRl X td nd na H) (hl : lv_has ls 4 [(3, .int i), (2, .ref m1), (1, .ref x1), (0, .ref b)]) (hk : ∀ (H1 : Heap) (locs1 : List Loc), Conf X Γ H1 → va_S (AΓ Γ) s.heap H1 locs1 → MI X H1 m1 ca → mkI X H1 x1 = mmI X H1 m1 → flI X H1 ra = tpdI X H1 m1 → SHP X Γ H1 x1 ta td nd → TRl X td tm ts H1 → NRl X td nd na H1 → W p l e room_1 s m #[Value.ref b] below meth c H1 locs1 147 13128 Q (F0 m 1667 ls [])) : W p l e room_1 s m #[Value.ref b] below meth c H locs 147 13128 Q (F0 m 1423 ls []) := by
  have E := K.E; have hx := E.1; have hb := E.2.1; have hLl := K.hL
  refine lv_aload_n hx hb dL_law_1423 rfl (lv_at hl 2 rfl) ?_
  refine lv_aload_n hx hb dL_law_1424 rfl (lv_at hl 3 rfl) ?_
  refine lv_iload_n hx hb dL_law_1425 rfl (lv_at hl 0 rfl) ?_
  refine lv_iconst (v := 1) hx hb dL_law_1426 rfl ?_
  refine lv_iadd hx hb dL_law_1427 (lv_topi (fun v21 e21 => ?_))
  have e21i : v21.toInt = z + 1 := i_add e21 ez (by decide) (by omega) (by omega)
  refine va_sld hx hb K.hX K.hbl K.hbA hS (i_in e21i (by omega) (by omega)) dL_law_1428 ?_
  refine lv_aload_n hx hb dL_law_1429 rfl (lv_at hl 3 rfl) ?_
  refine lv_iload_n hx hb dL_law_1430 rfl (lv_at hl 0 rfl) ?_
  refine lv_iconst (v := 2) hx hb dL_law_1431 rfl ?_
  refine lv_iadd hx hb dL_law_1432 (lv_topi (fun v22 e22 => ?_))
  have e22i : v22.toInt = z + 2 := i_add e22 ez (by decide) (by omega) (by omega)
  refine va_sld hx hb K.hX K.hbl K.hbA hS (i_in e22i (by omega) (by omega)) dL_law_1433 ?_
  refine lv_aload_n hx hb dL_law_1434 rfl (lv_at hl 3 rfl) ?_
  refine lv_iload_n hx hb dL_law_1435 rfl (lv_at hl 0 rfl) ?_
  refine lv_iconst (v := 3) hx hb dL_law_1436 rfl ?_
  refine lv_iadd hx hb dL_law_1437 (lv_topi (fun v23 e23 => ?_))
  have e23i : v23.toInt = z + 3 := i_add e23 ez (by decide) (by omega) (by omega)
  refine va_sld hx hb K.hX K.hbl K.hbA hS (i_in e23i (by omega) (by omega)) dL_law_1438 ?_
  refine lv_aload_n hx hb dL_law_1439 rfl (lv_at hl 3 rfl) ?_
  refine lv_iload_n hx hb dL_law_1440 rfl (lv_at hl 0 rfl) ?_
  refine lv_iconst (v := 4) hx hb dL_law_1441 rfl ?_
  refine lv_iadd hx hb dL_law_1442 (lv_topi (fun v24 e24 => ?_))
  have e24i : v24.toInt = z + 4 := i_add e24 ez (by decide) (by omega) (by omega)
  refine va_sld hx hb K.hX K.hbl K.hbA hS (i_in e24i (by omega) (by omega)) dL_law_1443 ?_
  refine r_goI (r_runV (As := [.int (xs v21.toNatClampNeg), .int (xs v22.toNatClampNeg), .int (xs v23.toNatClampNeg), .int (xs v24.toNatClampNeg)]) (rest := []) E hC hS (m_X11_turns l X Γ H hC x1 K.g1 (xs v21.toNatClampNeg) (a1 := ((xs v21.toNatClampNeg) : Int32).toInt) rfl (xs v22.toNatClampNeg) (a2 := ((xs v22.toNatClampNeg) : Int32).toInt) rfl (xs v23.toNatClampNeg) (a3 := ((xs v23.toNatClampNeg) : Int32).toInt) rfl (xs v24.toNatClampNeg) (a4 := ((xs v24.toNatClampNeg) : Int32).toInt) rfl) lcw_X11_turns lcl_184 K.g1 ⟨rfl, rfl⟩ rfl hl.1 rfl (Nat.zero_le _) (by decide) (by decide) (by decide) (by decide) dL_law_1444) hS (fun v25 H25 locs25 hp hC25 hS25 => ?_)
  obtain ⟨hp1, hp2a⟩ := hp
  have hMI : MI X H25 m1 ca := hMI.cl hC K.gca K.g2 hp1 rfl
  have hMR : mkI X H25 x1 = mmI X H25 m1 := (mk_kp hp1 K.g1 rfl).trans (hMR.trans (mm_kp hp1 K.g2 rfl).symm)
  have hFR : flI X H25 ra = tpdI X H25 m1 := (fl_kp hp1 K.gra rfl).trans (hFR.trans (tpd_kp hp1 K.g2 rfl).symm)
  have hSd := hSH; have hSH : SHP X Γ H25 x1 ta td nd := hSH.kp K.g1 hp1 rfl
  have hTr0 := hTR; have hNr0 := hNR; have hTm : TMm tm ts H H25 := TMm.kp0 hp1 K.gtm K.gts rfl; have hNm : NSm (nM na H) (nM na H25) := nM_kp0 hp1 K.gna rfl
  have hTc : TSm X td H H25 := TSm.kp TSm.rf hp1 hSH rfl; have hTR := hTR.same hTc hTm
  have hNc : NSm (nC nd H) (nC nd H25) := nC_kp NSm.rf hp1 hSH rfl; have hNR := hNR.same hTc hNc hNm
  have hpa := hp2a; have hCA := hC
  have hC := hC25; have hS := hS25
  refine lv_pop hx hb dL_law_1447 rfl ?_
  refine lv_aload_n hx hb dL_law_1448 rfl (lv_at hl 1 rfl) ?_
  refine lv_aload_n hx hb dL_law_1449 rfl (lv_at hl 3 rfl) ?_
  refine lv_iload_n hx hb dL_law_1450 rfl (lv_at hl 0 rfl) ?_
  refine lv_iconst (v := 1) hx hb dL_law_1451 rfl ?_
  refine lv_iadd hx hb dL_law_1452 (lv_topi (fun v26 e26 => ?_))
  have e26i : v26.toInt = z + 1 := i_add e26 ez (by decide) (by omega) (by omega)
  have hq26 : v26 = v21 := e26.trans e21.symm
  refine va_sld hx hb K.hX K.hbl K.hbA hS (i_in e26i (by omega) (by omega)) dL_law_1453 ?_
  rw [hq26]
  refine lv_aload_n hx hb dL_law_1454 rfl (lv_at hl 3 rfl) ?_
  refine lv_iload_n hx hb dL_law_1455 rfl (lv_at hl 0 rfl) ?_
  refine lv_iconst (v := 2) hx hb dL_law_1456 rfl ?_
  refine lv_iadd hx hb dL_law_1457 (lv_topi (fun v27 e27 => ?_))
  have e27i : v27.toInt = z + 2 := i_add e27 ez (by decide) (by omega) (by omega)
  have hq27 : v27 = v22 := e27.trans e22.symm
  refine va_sld hx hb K.hX K.hbl K.hbA hS (i_in e27i (by omega) (by omega)) dL_law_1458 ?_
  rw [hq27]
  refine lv_aload_n hx hb dL_law_1459 rfl (lv_at hl 3 rfl) ?_
  refine lv_iload_n hx hb dL_law_1460 rfl (lv_at hl 0 rfl) ?_
  refine lv_iconst (v := 3) hx hb dL_law_1461 rfl ?_
  refine lv_iadd hx hb dL_law_1462 (lv_topi (fun v28 e28 => ?_))
  have e28i : v28.toInt = z + 3 := i_add e28 ez (by decide) (by omega) (by omega)
  have hq28 : v28 = v23 := e28.trans e23.symm
  refine va_sld hx hb K.hX K.hbl K.hbA hS (i_in e28i (by omega) (by omega)) dL_law_1463 ?_
  rw [hq28]
  refine lv_aload_n hx hb dL_law_1464 rfl (lv_at hl 3 rfl) ?_
  refine lv_iload_n hx hb dL_law_1465 rfl (lv_at hl 0 rfl) ?_
  refine lv_iconst (v := 4) hx hb dL_law_1466 rfl ?_
  refine lv_iadd hx hb dL_law_1467 (lv_topi (fun v29 e29 => ?_))
  have e29i : v29.toInt = z + 4 := i_add e29 ez (by decide) (by omega) (by omega)
  have hq29 : v29 = v24 := e29.trans e24.symm
  refine va_sld hx hb K.hX K.hbl K.hbA hS (i_in e29i (by omega) (by omega)) dL_law_1468 ?_
  rw [hq29]
  refine r_goI (r_runV (As := [.int (xs v21.toNatClampNeg), .int (xs v22.toNatClampNeg), .int (xs v23.toNatClampNeg), .int (xs v24.toNatClampNeg)]) (rest := []) E hC hS (m_X12_turns l X Γ H25 hC m1 K.g2 (xs v21.toNatClampNeg) (a1 := ((xs v21.toNatClampNeg) : Int32).toInt) rfl (xs v22.toNatClampNeg) (a2 := ((xs v22.toNatClampNeg) : Int32).toInt) rfl (xs v23.toNatClampNeg) (a3 := ((xs v23.toNatClampNeg) : Int32).toInt) rfl (xs v24.toNatClampNeg) (a4 := ((xs v24.toNatClampNeg) : Int32).toInt) rfl ca K.gca K.uc) lcw_X12_turns lcl_187 K.g2 ⟨rfl, rfl⟩ rfl hl.1 rfl (Nat.zero_le _) (by decide) (by decide) (by decide) (by decide) dL_law_1469) hS (fun v30 H30 locs30 hp hC30 hS30 => ?_)
  obtain ⟨hp1, hp2b⟩ := hp
  have hMI : MI X H30 m1 ca := hMI.kp hC K.gca K.g2 hp1 rfl rfl rfl
  have hMR : mkI X H30 x1 = mmI X H30 m1 := (mk_kp hp1 K.g1 rfl).trans (hMR.trans (mm_kp hp1 K.g2 rfl).symm)
  have hFR : flI X H30 ra = tpdI X H30 m1 := (fl_kp hp1 K.gra rfl).trans (hFR.trans (tpd_kp hp1 K.g2 rfl).symm)
  have hSd := hSH; have hSH : SHP X Γ H30 x1 ta td nd := hSH.kpM K.g1 hp1 rfl
  have hTc2 : TSm X td H25 H30 := TSm.kp1 hp1 hSH rfl; have hNc2 : NSm (nC nd H25) (nC nd H30) := nC_kp1 hp1 hSH rfl
  have hTrm := hTR; have hTm2 : TMm tm ts H25 H30 := TMm.kp TMm.rf hp1 K.gtm K.gts rfl; have hTR := hTR.same hTc2 hTm2
  have hpb := hp2b
  have hNm2 : NSm (nM na H25) (nM na H30) := nM_kp NSm.rf hp1 K.gna rfl; have hNrm := hNR; have hNR := hNR.same hTc2 hNc2 hNm2
  have hC := hC30; have hS := hS30
  refine lv_pop hx hb dL_law_1472 rfl ?_
  refine lv_goto (tgt := 1667) hx hb dL_law_1473 rfl ?_
  exact hk _ _ hC hS hMI hMR hFR hSH hTR hNR
set_option maxRecDepth 100000 in
set_option maxHeartbeats 4000000 in
theorem law_40 (l : Launch) {p : Program} {e : Env} {s : State} {m : MethodId} {below : List Frame} {meth : Method} {c : Code} {X : xW} {Γ : Nat → Option Nat} {b L : Nat} {xs : Nat → Int32} {x1 m1 ca ka oa ra ta tm ts na : Nat} {td nd : Nat → Nat} (K : LK p s m meth c X Γ b L xs x1 m1 ca ka oa ra tm ts na) {H : Heap} {locs : List Loc} {ls : Array Slot} {Q : State → Prop} {i : Int32} {z : Int} (ez : i.toInt = z) (h0z : 0 ≤ z) (hzL : z + 6 ≤ L) (hC : Conf X Γ H) (hS : va_S (AΓ Γ) s.heap H locs) (hMI : MI X H m1 ca) (hMR : mkI X H x1 = mmI X H m1) (hFR : flI X H ra = tpdI X H m1) (hSH : SHP X Γ H x1 ta td nd) (hTR : TRl X td tm ts H) (hNR : NRl X td nd na H) (hl : lv_has ls 4 [(3, .int i), (2, .ref m1), (1, .ref x1), (0, .ref b)]) (hk : ∀ (H1 : Heap) (locs1 : List Loc), Conf X Γ H1 → va_S (AΓ Γ) s.heap H1 locs1 → MI X H1 m1 ca → mkI X H1 x1 = mmI X H1 m1 → flI X H1 ra = tpdI X H1 m1 → SHP X Γ H1 x1 ta td nd → TRl X td tm ts H1 → NRl X td nd na H1 → W p l e room_1 s m #[Value.ref b] below meth c H1 locs1 147 13128 Q (F0 m 1667 ls [])) : W p l e room_1 s m #[Value.ref b] below meth c H locs 147 13128 Q (F0 m 1476 ls []) := by
  have E := K.E; have hx := E.1; have hb := E.2.1; have hLl := K.hL
  refine lv_aload_n hx hb dL_law_1476 rfl (lv_at hl 2 rfl) ?_
  refine lv_aload_n hx hb dL_law_1477 rfl (lv_at hl 3 rfl) ?_
  refine lv_iload_n hx hb dL_law_1478 rfl (lv_at hl 0 rfl) ?_
  refine lv_iconst (v := 1) hx hb dL_law_1479 rfl ?_
  refine lv_iadd hx hb dL_law_1480 (lv_topi (fun v21 e21 => ?_))
  have e21i : v21.toInt = z + 1 := i_add e21 ez (by decide) (by omega) (by omega)
  refine va_sld hx hb K.hX K.hbl K.hbA hS (i_in e21i (by omega) (by omega)) dL_law_1481 ?_
  refine lv_aload_n hx hb dL_law_1482 rfl (lv_at hl 3 rfl) ?_
  refine lv_iload_n hx hb dL_law_1483 rfl (lv_at hl 0 rfl) ?_
  refine lv_iconst (v := 2) hx hb dL_law_1484 rfl ?_
  refine lv_iadd hx hb dL_law_1485 (lv_topi (fun v22 e22 => ?_))
  have e22i : v22.toInt = z + 2 := i_add e22 ez (by decide) (by omega) (by omega)
  refine va_sld hx hb K.hX K.hbl K.hbA hS (i_in e22i (by omega) (by omega)) dL_law_1486 ?_
  refine lv_aload_n hx hb dL_law_1487 rfl (lv_at hl 3 rfl) ?_
  refine lv_iload_n hx hb dL_law_1488 rfl (lv_at hl 0 rfl) ?_
  refine lv_iconst (v := 3) hx hb dL_law_1489 rfl ?_
  refine lv_iadd hx hb dL_law_1490 (lv_topi (fun v23 e23 => ?_))
  have e23i : v23.toInt = z + 3 := i_add e23 ez (by decide) (by omega) (by omega)
  refine va_sld hx hb K.hX K.hbl K.hbA hS (i_in e23i (by omega) (by omega)) dL_law_1491 ?_
  refine r_goI (r_runV (As := [.int (xs v21.toNatClampNeg), .int (xs v22.toNatClampNeg), .int (xs v23.toNatClampNeg)]) (rest := []) E hC hS (m_X11_stands l X Γ H hC x1 K.g1 (xs v21.toNatClampNeg) (a1 := ((xs v21.toNatClampNeg) : Int32).toInt) rfl (xs v22.toNatClampNeg) (a2 := ((xs v22.toNatClampNeg) : Int32).toInt) rfl (xs v23.toNatClampNeg) (a3 := ((xs v23.toNatClampNeg) : Int32).toInt) rfl) lcw_X11_stands lcl_188 K.g1 ⟨rfl, rfl⟩ rfl hl.1 rfl (Nat.zero_le _) (by decide) (by decide) (by decide) (by decide) dL_law_1492) hS (fun v24 H24 locs24 hp hC24 hS24 => ?_)
  obtain ⟨hp1, hp2a⟩ := hp
  have hMI : MI X H24 m1 ca := hMI.cl hC K.gca K.g2 hp1 rfl
  have hMR : mkI X H24 x1 = mmI X H24 m1 := (mk_kp hp1 K.g1 rfl).trans (hMR.trans (mm_kp hp1 K.g2 rfl).symm)
  have hFR : flI X H24 ra = tpdI X H24 m1 := (fl_kp hp1 K.gra rfl).trans (hFR.trans (tpd_kp hp1 K.g2 rfl).symm)
  have hSd := hSH; have hSH : SHP X Γ H24 x1 ta td nd := hSH.kp K.g1 hp1 rfl
  have hTr0 := hTR; have hNr0 := hNR; have hTm : TMm tm ts H H24 := TMm.kp0 hp1 K.gtm K.gts rfl; have hNm : NSm (nM na H) (nM na H24) := nM_kp0 hp1 K.gna rfl
  have hTc : TSm X td H H24 := TSm.kp TSm.rf hp1 hSH rfl; have hTR := hTR.same hTc hTm
  have hNc : NSm (nC nd H) (nC nd H24) := nC_kp NSm.rf hp1 hSH rfl; have hNR := hNR.same hTc hNc hNm
  have hpa := hp2a; have hCA := hC
  have hC := hC24; have hS := hS24
  refine lv_pop hx hb dL_law_1495 rfl ?_
  refine lv_aload_n hx hb dL_law_1496 rfl (lv_at hl 1 rfl) ?_
  refine lv_aload_n hx hb dL_law_1497 rfl (lv_at hl 3 rfl) ?_
  refine lv_iload_n hx hb dL_law_1498 rfl (lv_at hl 0 rfl) ?_
  refine lv_iconst (v := 1) hx hb dL_law_1499 rfl ?_
  refine lv_iadd hx hb dL_law_1500 (lv_topi (fun v25 e25 => ?_))
  have e25i : v25.toInt = z + 1 := i_add e25 ez (by decide) (by omega) (by omega)
  have hq25 : v25 = v21 := e25.trans e21.symm
  refine va_sld hx hb K.hX K.hbl K.hbA hS (i_in e25i (by omega) (by omega)) dL_law_1501 ?_
  rw [hq25]
  refine lv_aload_n hx hb dL_law_1502 rfl (lv_at hl 3 rfl) ?_
  refine lv_iload_n hx hb dL_law_1503 rfl (lv_at hl 0 rfl) ?_
  refine lv_iconst (v := 2) hx hb dL_law_1504 rfl ?_
  refine lv_iadd hx hb dL_law_1505 (lv_topi (fun v26 e26 => ?_))
  have e26i : v26.toInt = z + 2 := i_add e26 ez (by decide) (by omega) (by omega)
  have hq26 : v26 = v22 := e26.trans e22.symm
  refine va_sld hx hb K.hX K.hbl K.hbA hS (i_in e26i (by omega) (by omega)) dL_law_1506 ?_
  rw [hq26]
  refine lv_aload_n hx hb dL_law_1507 rfl (lv_at hl 3 rfl) ?_
  refine lv_iload_n hx hb dL_law_1508 rfl (lv_at hl 0 rfl) ?_
  refine lv_iconst (v := 3) hx hb dL_law_1509 rfl ?_
  refine lv_iadd hx hb dL_law_1510 (lv_topi (fun v27 e27 => ?_))
  have e27i : v27.toInt = z + 3 := i_add e27 ez (by decide) (by omega) (by omega)
  have hq27 : v27 = v23 := e27.trans e23.symm
  refine va_sld hx hb K.hX K.hbl K.hbA hS (i_in e27i (by omega) (by omega)) dL_law_1511 ?_
  rw [hq27]
  refine r_goI (r_runV (As := [.int (xs v21.toNatClampNeg), .int (xs v22.toNatClampNeg), .int (xs v23.toNatClampNeg)]) (rest := []) E hC hS (m_X12_stands l X Γ H24 hC m1 K.g2 (xs v21.toNatClampNeg) (a1 := ((xs v21.toNatClampNeg) : Int32).toInt) rfl (xs v22.toNatClampNeg) (a2 := ((xs v22.toNatClampNeg) : Int32).toInt) rfl (xs v23.toNatClampNeg) (a3 := ((xs v23.toNatClampNeg) : Int32).toInt) rfl ca K.gca K.uc) lcw_X12_stands lcl_191 K.g2 ⟨rfl, rfl⟩ rfl hl.1 rfl (Nat.zero_le _) (by decide) (by decide) (by decide) (by decide) dL_law_1512) hS (fun v28 H28 locs28 hp hC28 hS28 => ?_)
  obtain ⟨hp1, hp2b⟩ := hp
  have hMI : MI X H28 m1 ca := hMI.kp hC K.gca K.g2 hp1 rfl rfl rfl
  have hMR : mkI X H28 x1 = mmI X H28 m1 := (mk_kp hp1 K.g1 rfl).trans (hMR.trans (mm_kp hp1 K.g2 rfl).symm)
  have hFR : flI X H28 ra = tpdI X H28 m1 := (fl_kp hp1 K.gra rfl).trans (hFR.trans (tpd_kp hp1 K.g2 rfl).symm)
  have hSd := hSH; have hSH : SHP X Γ H28 x1 ta td nd := hSH.kpM K.g1 hp1 rfl
  have hTc2 : TSm X td H24 H28 := TSm.kp1 hp1 hSH rfl; have hNc2 : NSm (nC nd H24) (nC nd H28) := nC_kp1 hp1 hSH rfl
  have hTrm := hTR; have hTm2 : TMm tm ts H24 H28 := TMm.kp TMm.rf hp1 K.gtm K.gts rfl; have hTR := hTR.same hTc2 hTm2
  have hpb := hp2b
  have hNm2 : NSm (nM na H24) (nM na H28) := nM_kp NSm.rf hp1 K.gna rfl; have hNrm := hNR; have hNR := hNR.same hTc2 hNc2 hNm2
  have hC := hC28; have hS := hS28
  refine lv_pop hx hb dL_law_1515 rfl ?_
  refine lv_goto (tgt := 1667) hx hb dL_law_1516 rfl ?_
  exact hk _ _ hC hS hMI hMR hFR hSH hTR hNR
set_option maxRecDepth 100000 in
set_option maxHeartbeats 4000000 in
theorem law_41 (l : Launch) {p : Program} {e : Env} {s : State} {m : MethodId} {below : List Frame} {meth : Method} {c : Code} {X : xW} {Γ : Nat → Option Nat} {b L : Nat} {xs : Nat → Int32} {x1 m1 ca ka oa ra ta tm ts na : Nat} {td nd : Nat → Nat} (K : LK p s m meth c X Γ b L xs x1 m1 ca ka oa ra tm ts na) {H : Heap} {locs : List Loc} {ls : Array Slot} {Q : State → Prop} {i : Int32} {z : Int} (ez : i.toInt = z) (h0z : 0 ≤ z) (hzL : z + 6 ≤ L) (hC : Conf X Γ H) (hS : va_S (AΓ Γ) s.heap H locs) (hMI : MI X H m1 ca) (hMR : mkI X H x1 = mmI X H m1) (hFR : flI X H ra = tpdI X H m1) (hSH : SHP X Γ H x1 ta td nd) (hTR : TRl X td tm ts H) (hNR : NRl X td nd na H) (hl : lv_has ls 4 [(3, .int i), (2, .ref m1), (1, .ref x1), (0, .ref b)]) (hk : ∀ (H1 : Heap) (locs1 : List Loc), Conf X Γ H1 → va_S (AΓ Γ) s.heap H1 locs1 → MI X H1 m1 ca → mkI X H1 x1 = mmI X H1 m1 → flI X H1 ra = tpdI X H1 m1 → SHP X Γ H1 x1 ta td nd → TRl X td tm ts H1 → NRl X td nd na H1 → W p l e room_1 s m #[Value.ref b] below meth c H1 locs1 147 13128 Q (F0 m 1667 ls [])) : W p l e room_1 s m #[Value.ref b] below meth c H locs 147 13128 Q (F0 m 1519 ls []) := by
  have E := K.E; have hx := E.1; have hb := E.2.1; have hLl := K.hL
  refine lv_aload_n hx hb dL_law_1519 rfl (lv_at hl 2 rfl) ?_
  refine lv_aload_n hx hb dL_law_1520 rfl (lv_at hl 3 rfl) ?_
  refine lv_iload_n hx hb dL_law_1521 rfl (lv_at hl 0 rfl) ?_
  refine lv_iconst (v := 1) hx hb dL_law_1522 rfl ?_
  refine lv_iadd hx hb dL_law_1523 (lv_topi (fun v21 e21 => ?_))
  have e21i : v21.toInt = z + 1 := i_add e21 ez (by decide) (by omega) (by omega)
  refine va_sld hx hb K.hX K.hbl K.hbA hS (i_in e21i (by omega) (by omega)) dL_law_1524 ?_
  refine lv_aload_n hx hb dL_law_1525 rfl (lv_at hl 3 rfl) ?_
  refine lv_iload_n hx hb dL_law_1526 rfl (lv_at hl 0 rfl) ?_
  refine lv_iconst (v := 2) hx hb dL_law_1527 rfl ?_
  refine lv_iadd hx hb dL_law_1528 (lv_topi (fun v22 e22 => ?_))
  have e22i : v22.toInt = z + 2 := i_add e22 ez (by decide) (by omega) (by omega)
  refine va_sld hx hb K.hX K.hbl K.hbA hS (i_in e22i (by omega) (by omega)) dL_law_1529 ?_
  refine lv_aload_n hx hb dL_law_1530 rfl (lv_at hl 3 rfl) ?_
  refine lv_iload_n hx hb dL_law_1531 rfl (lv_at hl 0 rfl) ?_
  refine lv_iconst (v := 3) hx hb dL_law_1532 rfl ?_
  refine lv_iadd hx hb dL_law_1533 (lv_topi (fun v23 e23 => ?_))
  have e23i : v23.toInt = z + 3 := i_add e23 ez (by decide) (by omega) (by omega)
  refine va_sld hx hb K.hX K.hbl K.hbA hS (i_in e23i (by omega) (by omega)) dL_law_1534 ?_
  refine r_goI (r_runV (As := [.int (xs v21.toNatClampNeg), .int (xs v22.toNatClampNeg), .int (xs v23.toNatClampNeg)]) (rest := []) E hC hS (m_X11_mean l X Γ H hC x1 K.g1 (xs v21.toNatClampNeg) (a1 := ((xs v21.toNatClampNeg) : Int32).toInt) rfl (xs v22.toNatClampNeg) (a2 := ((xs v22.toNatClampNeg) : Int32).toInt) rfl (xs v23.toNatClampNeg) (a3 := ((xs v23.toNatClampNeg) : Int32).toInt) rfl) lcw_X11_mean lcl_192 K.g1 ⟨rfl, rfl⟩ rfl hl.1 rfl (Nat.zero_le _) (by decide) (by decide) (by decide) (by decide) dL_law_1535) hS (fun v24 H24 locs24 hp hC24 hS24 => ?_)
  obtain ⟨hp1, hp2a⟩ := hp
  have hMI : MI X H24 m1 ca := hMI.cl hC K.gca K.g2 hp1 rfl
  have hMR : mkI X H24 x1 = mmI X H24 m1 := (mk_kp hp1 K.g1 rfl).trans (hMR.trans (mm_kp hp1 K.g2 rfl).symm)
  have hFR : flI X H24 ra = tpdI X H24 m1 := (fl_kp hp1 K.gra rfl).trans (hFR.trans (tpd_kp hp1 K.g2 rfl).symm)
  have hSd := hSH; have hSH : SHP X Γ H24 x1 ta td nd := hSH.kp K.g1 hp1 rfl
  have hTr0 := hTR; have hNr0 := hNR; have hTm : TMm tm ts H H24 := TMm.kp0 hp1 K.gtm K.gts rfl; have hNm : NSm (nM na H) (nM na H24) := nM_kp0 hp1 K.gna rfl
  have hTc : TSm X td H H24 := TSm.kp TSm.rf hp1 hSH rfl; have hTR := hTR.same hTc hTm
  have hNc : NSm (nC nd H) (nC nd H24) := nC_kp NSm.rf hp1 hSH rfl; have hNR := hNR.same hTc hNc hNm
  have hpa := hp2a; have hCA := hC
  have hC := hC24; have hS := hS24
  refine lv_pop hx hb dL_law_1538 rfl ?_
  refine lv_aload_n hx hb dL_law_1539 rfl (lv_at hl 1 rfl) ?_
  refine lv_aload_n hx hb dL_law_1540 rfl (lv_at hl 3 rfl) ?_
  refine lv_iload_n hx hb dL_law_1541 rfl (lv_at hl 0 rfl) ?_
  refine lv_iconst (v := 1) hx hb dL_law_1542 rfl ?_
  refine lv_iadd hx hb dL_law_1543 (lv_topi (fun v25 e25 => ?_))
  have e25i : v25.toInt = z + 1 := i_add e25 ez (by decide) (by omega) (by omega)
  have hq25 : v25 = v21 := e25.trans e21.symm
  refine va_sld hx hb K.hX K.hbl K.hbA hS (i_in e25i (by omega) (by omega)) dL_law_1544 ?_
  rw [hq25]
  refine lv_aload_n hx hb dL_law_1545 rfl (lv_at hl 3 rfl) ?_
  refine lv_iload_n hx hb dL_law_1546 rfl (lv_at hl 0 rfl) ?_
  refine lv_iconst (v := 2) hx hb dL_law_1547 rfl ?_
  refine lv_iadd hx hb dL_law_1548 (lv_topi (fun v26 e26 => ?_))
  have e26i : v26.toInt = z + 2 := i_add e26 ez (by decide) (by omega) (by omega)
  have hq26 : v26 = v22 := e26.trans e22.symm
  refine va_sld hx hb K.hX K.hbl K.hbA hS (i_in e26i (by omega) (by omega)) dL_law_1549 ?_
  rw [hq26]
  refine lv_aload_n hx hb dL_law_1550 rfl (lv_at hl 3 rfl) ?_
  refine lv_iload_n hx hb dL_law_1551 rfl (lv_at hl 0 rfl) ?_
  refine lv_iconst (v := 3) hx hb dL_law_1552 rfl ?_
  refine lv_iadd hx hb dL_law_1553 (lv_topi (fun v27 e27 => ?_))
  have e27i : v27.toInt = z + 3 := i_add e27 ez (by decide) (by omega) (by omega)
  have hq27 : v27 = v23 := e27.trans e23.symm
  refine va_sld hx hb K.hX K.hbl K.hbA hS (i_in e27i (by omega) (by omega)) dL_law_1554 ?_
  rw [hq27]
  refine r_goI (r_runV (As := [.int (xs v21.toNatClampNeg), .int (xs v22.toNatClampNeg), .int (xs v23.toNatClampNeg)]) (rest := []) E hC hS (m_X12_mean l X Γ H24 hC m1 K.g2 (xs v21.toNatClampNeg) (a1 := ((xs v21.toNatClampNeg) : Int32).toInt) rfl (xs v22.toNatClampNeg) (a2 := ((xs v22.toNatClampNeg) : Int32).toInt) rfl (xs v23.toNatClampNeg) (a3 := ((xs v23.toNatClampNeg) : Int32).toInt) rfl ca K.gca K.uc) lcw_X12_mean lcl_195 K.g2 ⟨rfl, rfl⟩ rfl hl.1 rfl (Nat.zero_le _) (by decide) (by decide) (by decide) (by decide) dL_law_1555) hS (fun v28 H28 locs28 hp hC28 hS28 => ?_)
  obtain ⟨hp1, hp2b⟩ := hp
  have hMI : MI X H28 m1 ca := hMI.kp hC K.gca K.g2 hp1 rfl rfl rfl
  have hMR : mkI X H28 x1 = mmI X H28 m1 := (mk_kp hp1 K.g1 rfl).trans (hMR.trans (mm_kp hp1 K.g2 rfl).symm)
  have hFR : flI X H28 ra = tpdI X H28 m1 := (fl_kp hp1 K.gra rfl).trans (hFR.trans (tpd_kp hp1 K.g2 rfl).symm)
  have hSd := hSH; have hSH : SHP X Γ H28 x1 ta td nd := hSH.kpM K.g1 hp1 rfl
  have hTc2 : TSm X td H24 H28 := TSm.kp1 hp1 hSH rfl; have hNc2 : NSm (nC nd H24) (nC nd H28) := nC_kp1 hp1 hSH rfl
  have hTrm := hTR; have hTm2 : TMm tm ts H24 H28 := TMm.kp TMm.rf hp1 K.gtm K.gts rfl; have hTR := hTR.same hTc2 hTm2
  have hpb := hp2b
  have hNm2 : NSm (nM na H24) (nM na H28) := nM_kp NSm.rf hp1 K.gna rfl; have hNrm := hNR; have hNR := hNR.same hTc2 hNc2 hNm2
  have hC := hC28; have hS := hS28
  refine lv_pop hx hb dL_law_1558 rfl ?_
  refine lv_goto (tgt := 1667) hx hb dL_law_1559 rfl ?_
  exact hk _ _ hC hS hMI hMR hFR hSH hTR hNR
set_option maxRecDepth 100000 in
set_option maxHeartbeats 4000000 in
theorem law_42 (l : Launch) {p : Program} {e : Env} {s : State} {m : MethodId} {below : List Frame} {meth : Method} {c : Code} {X : xW} {Γ : Nat → Option Nat} {b L : Nat} {xs : Nat → Int32} {x1 m1 ca ka oa ra ta tm ts na : Nat} {td nd : Nat → Nat} (K : LK p s m meth c X Γ b L xs x1 m1 ca ka oa ra tm ts na) {H : Heap} {locs : List Loc} {ls : Array Slot} {Q : State → Prop} {i : Int32} {z : Int} (ez : i.toInt = z) (h0z : 0 ≤ z) (hzL : z + 6 ≤ L) (hC : Conf X Γ H) (hS : va_S (AΓ Γ) s.heap H locs) (hMI : MI X H m1 ca) (hMR : mkI X H x1 = mmI X H m1) (hFR : flI X H ra = tpdI X H m1) (hSH : SHP X Γ H x1 ta td nd) (hTR : TRl X td tm ts H) (hNR : NRl X td nd na H) (hl : lv_has ls 4 [(3, .int i), (2, .ref m1), (1, .ref x1), (0, .ref b)]) (hk : ∀ (H1 : Heap) (locs1 : List Loc), Conf X Γ H1 → va_S (AΓ Γ) s.heap H1 locs1 → MI X H1 m1 ca → mkI X H1 x1 = mmI X H1 m1 → flI X H1 ra = tpdI X H1 m1 → SHP X Γ H1 x1 ta td nd → TRl X td tm ts H1 → NRl X td nd na H1 → W p l e room_1 s m #[Value.ref b] below meth c H1 locs1 147 13128 Q (F0 m 1667 ls [])) : W p l e room_1 s m #[Value.ref b] below meth c H locs 147 13128 Q (F0 m 1562 ls []) := by
  have E := K.E; have hx := E.1; have hb := E.2.1; have hLl := K.hL
  refine lv_aload_n hx hb dL_law_1562 rfl (lv_at hl 2 rfl) ?_
  refine lv_aload_n hx hb dL_law_1563 rfl (lv_at hl 3 rfl) ?_
  refine lv_iload_n hx hb dL_law_1564 rfl (lv_at hl 0 rfl) ?_
  refine lv_iconst (v := 1) hx hb dL_law_1565 rfl ?_
  refine lv_iadd hx hb dL_law_1566 (lv_topi (fun v21 e21 => ?_))
  have e21i : v21.toInt = z + 1 := i_add e21 ez (by decide) (by omega) (by omega)
  refine va_sld hx hb K.hX K.hbl K.hbA hS (i_in e21i (by omega) (by omega)) dL_law_1567 ?_
  refine r_goI (r_runV (As := [.int (xs v21.toNatClampNeg)]) (rest := []) E hC hS (m_X11_run l X Γ H hC x1 K.g1 (xs v21.toNatClampNeg) (a1 := ((xs v21.toNatClampNeg) : Int32).toInt) rfl) lcw_X11_run lcl_196 K.g1 ⟨rfl, rfl⟩ rfl hl.1 rfl (Nat.zero_le _) (by decide) (by decide) (by decide) (by decide) dL_law_1568) hS (fun v22 H22 locs22 hp hC22 hS22 => ?_)
  obtain ⟨hp1, hp2a⟩ := hp
  have hMI : MI X H22 m1 ca := hMI.cl hC K.gca K.g2 hp1 rfl
  have hMR : mkI X H22 x1 = mmI X H22 m1 := (mk_kp hp1 K.g1 rfl).trans (hMR.trans (mm_kp hp1 K.g2 rfl).symm)
  have hFR : flI X H22 ra = tpdI X H22 m1 := (fl_kp hp1 K.gra rfl).trans (hFR.trans (tpd_kp hp1 K.g2 rfl).symm)
  have hSd := hSH; have hSH : SHP X Γ H22 x1 ta td nd := hSH.kp K.g1 hp1 rfl
  have hTr0 := hTR; have hNr0 := hNR; have hTm : TMm tm ts H H22 := TMm.kp0 hp1 K.gtm K.gts rfl; have hNm : NSm (nM na H) (nM na H22) := nM_kp0 hp1 K.gna rfl
  have hTc : TSm X td H H22 := TSm.kp TSm.rf hp1 hSH rfl; have hTR := hTR.same hTc hTm
  have hNc : NSm (nC nd H) (nC nd H22) := nC_kp NSm.rf hp1 hSH rfl; have hNR := hNR.same hTc hNc hNm
  have hpa := hp2a; have hCA := hC
  have hC := hC22; have hS := hS22
  refine lv_pop hx hb dL_law_1571 rfl ?_
  refine lv_aload_n hx hb dL_law_1572 rfl (lv_at hl 1 rfl) ?_
  refine lv_aload_n hx hb dL_law_1573 rfl (lv_at hl 3 rfl) ?_
  refine lv_iload_n hx hb dL_law_1574 rfl (lv_at hl 0 rfl) ?_
  refine lv_iconst (v := 1) hx hb dL_law_1575 rfl ?_
  refine lv_iadd hx hb dL_law_1576 (lv_topi (fun v23 e23 => ?_))
  have e23i : v23.toInt = z + 1 := i_add e23 ez (by decide) (by omega) (by omega)
  have hq23 : v23 = v21 := e23.trans e21.symm
  refine va_sld hx hb K.hX K.hbl K.hbA hS (i_in e23i (by omega) (by omega)) dL_law_1577 ?_
  rw [hq23]
  refine r_goI (r_runV (As := [.int (xs v21.toNatClampNeg)]) (rest := []) E hC hS (m_X12_run l X Γ H22 hC m1 K.g2 (xs v21.toNatClampNeg) (a1 := ((xs v21.toNatClampNeg) : Int32).toInt) rfl ca K.gca K.uc oa K.goa K.uo hMI.c0.2.2.1 hMI.c0.2.2.2) lcw_X12_run lcl_199 K.g2 ⟨rfl, rfl⟩ rfl hl.1 rfl (Nat.zero_le _) (by decide) (by decide) (by decide) (by decide) dL_law_1578) hS (fun v24 H24 locs24 hp hC24 hS24 => ?_)
  obtain ⟨hp1, hp2b⟩ := hp
  obtain ⟨hp1, hu⟩ := hp1
  have hMI : MI X H24 m1 ca := hMI.uh hC K.gca K.g2 hp1 hu rfl rfl
  have hMR : mkI X H24 x1 = mmI X H24 m1 := (mk_kp hp1 K.g1 rfl).trans (hMR.trans (mm_kp hp1 K.g2 rfl).symm)
  have hFR : flI X H24 ra = tpdI X H24 m1 := (fl_kp hp1 K.gra rfl).trans (hFR.trans (tpd_kp hp1 K.g2 rfl).symm)
  have hSd := hSH; have hSH : SHP X Γ H24 x1 ta td nd := hSH.kpM K.g1 hp1 rfl
  have hTc2 : TSm X td H22 H24 := TSm.kp1 hp1 hSH rfl; have hNc2 : NSm (nC nd H22) (nC nd H24) := nC_kp1 hp1 hSH rfl
  have hTrm := hTR; have hTm2 : TMm tm ts H22 H24 := TMm.kp TMm.rf hp1 K.gtm K.gts rfl; have hTR := hTR.same hTc2 hTm2
  have hpb := hp2b
  have hNm2 : NSm (nM na H22) (nM na H24) := nM_kp NSm.rf hp1 K.gna rfl; have hNrm := hNR; have hNR := hNR.same hTc2 hNc2 hNm2
  have hC := hC24; have hS := hS24
  refine lv_pop hx hb dL_law_1581 rfl ?_
  refine lv_goto (tgt := 1667) hx hb dL_law_1582 rfl ?_
  exact hk _ _ hC hS hMI hMR hFR hSH hTR hNR
set_option maxRecDepth 100000 in
set_option maxHeartbeats 4000000 in
theorem law_43 (l : Launch) {p : Program} {e : Env} {s : State} {m : MethodId} {below : List Frame} {meth : Method} {c : Code} {X : xW} {Γ : Nat → Option Nat} {b L : Nat} {xs : Nat → Int32} {x1 m1 ca ka oa ra ta tm ts na : Nat} {td nd : Nat → Nat} (K : LK p s m meth c X Γ b L xs x1 m1 ca ka oa ra tm ts na) {H : Heap} {locs : List Loc} {ls : Array Slot} {Q : State → Prop} {i : Int32} {z : Int} (ez : i.toInt = z) (h0z : 0 ≤ z) (hzL : z + 6 ≤ L) (hC : Conf X Γ H) (hS : va_S (AΓ Γ) s.heap H locs) (hMI : MI X H m1 ca) (hMR : mkI X H x1 = mmI X H m1) (hFR : flI X H ra = tpdI X H m1) (hSH : SHP X Γ H x1 ta td nd) (hTR : TRl X td tm ts H) (hNR : NRl X td nd na H) (hl : lv_has ls 4 [(3, .int i), (2, .ref m1), (1, .ref x1), (0, .ref b)]) (hk : ∀ (H1 : Heap) (locs1 : List Loc), Conf X Γ H1 → va_S (AΓ Γ) s.heap H1 locs1 → MI X H1 m1 ca → mkI X H1 x1 = mmI X H1 m1 → flI X H1 ra = tpdI X H1 m1 → SHP X Γ H1 x1 ta td nd → TRl X td tm ts H1 → NRl X td nd na H1 → W p l e room_1 s m #[Value.ref b] below meth c H1 locs1 147 13128 Q (F0 m 1667 ls [])) : W p l e room_1 s m #[Value.ref b] below meth c H locs 147 13128 Q (F0 m 1585 ls []) := by
  have E := K.E; have hx := E.1; have hb := E.2.1; have hLl := K.hL
  refine lv_aload_n hx hb dL_law_1585 rfl (lv_at hl 2 rfl) ?_
  refine lv_aload_n hx hb dL_law_1586 rfl (lv_at hl 3 rfl) ?_
  refine lv_iload_n hx hb dL_law_1587 rfl (lv_at hl 0 rfl) ?_
  refine lv_iconst (v := 1) hx hb dL_law_1588 rfl ?_
  refine lv_iadd hx hb dL_law_1589 (lv_topi (fun v21 e21 => ?_))
  have e21i : v21.toInt = z + 1 := i_add e21 ez (by decide) (by omega) (by omega)
  refine va_sld hx hb K.hX K.hbl K.hbA hS (i_in e21i (by omega) (by omega)) dL_law_1590 ?_
  refine r_goI (r_runV (As := [.int (xs v21.toNatClampNeg)]) (rest := []) E hC hS (m_X11_ran l X Γ H hC x1 K.g1 (xs v21.toNatClampNeg) (a1 := ((xs v21.toNatClampNeg) : Int32).toInt) rfl) lcw_X11_ran lcl_200 K.g1 ⟨rfl, rfl⟩ rfl hl.1 rfl (Nat.zero_le _) (by decide) (by decide) (by decide) (by decide) dL_law_1591) hS (fun v22 H22 locs22 hp hC22 hS22 => ?_)
  obtain ⟨hp1, hp2a⟩ := hp
  have hMI : MI X H22 m1 ca := hMI.cl hC K.gca K.g2 hp1 rfl
  have hMR : mkI X H22 x1 = mmI X H22 m1 := (mk_kp hp1 K.g1 rfl).trans (hMR.trans (mm_kp hp1 K.g2 rfl).symm)
  have hFR : flI X H22 ra = tpdI X H22 m1 := (fl_kp hp1 K.gra rfl).trans (hFR.trans (tpd_kp hp1 K.g2 rfl).symm)
  have hSd := hSH; have hSH : SHP X Γ H22 x1 ta td nd := hSH.kp K.g1 hp1 rfl
  have hTr0 := hTR; have hNr0 := hNR; have hTm : TMm tm ts H H22 := TMm.kp0 hp1 K.gtm K.gts rfl; have hNm : NSm (nM na H) (nM na H22) := nM_kp0 hp1 K.gna rfl
  have hTc : TSm X td H H22 := TSm.kp TSm.rf hp1 hSH rfl; have hTR := hTR.same hTc hTm
  have hNc : NSm (nC nd H) (nC nd H22) := nC_kp NSm.rf hp1 hSH rfl; have hNR := hNR.same hTc hNc hNm
  have hpa := hp2a; have hCA := hC
  have hC := hC22; have hS := hS22
  refine lv_pop hx hb dL_law_1594 rfl ?_
  refine lv_aload_n hx hb dL_law_1595 rfl (lv_at hl 1 rfl) ?_
  refine lv_aload_n hx hb dL_law_1596 rfl (lv_at hl 3 rfl) ?_
  refine lv_iload_n hx hb dL_law_1597 rfl (lv_at hl 0 rfl) ?_
  refine lv_iconst (v := 1) hx hb dL_law_1598 rfl ?_
  refine lv_iadd hx hb dL_law_1599 (lv_topi (fun v23 e23 => ?_))
  have e23i : v23.toInt = z + 1 := i_add e23 ez (by decide) (by omega) (by omega)
  have hq23 : v23 = v21 := e23.trans e21.symm
  refine va_sld hx hb K.hX K.hbl K.hbA hS (i_in e23i (by omega) (by omega)) dL_law_1600 ?_
  rw [hq23]
  refine r_goI (r_runV (As := [.int (xs v21.toNatClampNeg)]) (rest := []) E hC hS (m_X12_ran l X Γ H22 hC m1 K.g2 (xs v21.toNatClampNeg) (a1 := ((xs v21.toNatClampNeg) : Int32).toInt) rfl ca K.gca K.uc) lcw_X12_ran lcl_203 K.g2 ⟨rfl, rfl⟩ rfl hl.1 rfl (Nat.zero_le _) (by decide) (by decide) (by decide) (by decide) dL_law_1601) hS (fun v24 H24 locs24 hp hC24 hS24 => ?_)
  obtain ⟨hp1, hp2b⟩ := hp
  have hMI : MI X H24 m1 ca := hMI.kp hC K.gca K.g2 hp1 rfl rfl rfl
  have hMR : mkI X H24 x1 = mmI X H24 m1 := (mk_kp hp1 K.g1 rfl).trans (hMR.trans (mm_kp hp1 K.g2 rfl).symm)
  have hFR : flI X H24 ra = tpdI X H24 m1 := (fl_kp hp1 K.gra rfl).trans (hFR.trans (tpd_kp hp1 K.g2 rfl).symm)
  have hSd := hSH; have hSH : SHP X Γ H24 x1 ta td nd := hSH.kpM K.g1 hp1 rfl
  have hTc2 : TSm X td H22 H24 := TSm.kp1 hp1 hSH rfl; have hNc2 : NSm (nC nd H22) (nC nd H24) := nC_kp1 hp1 hSH rfl
  have hTrm := hTR; have hTm2 : TMm tm ts H22 H24 := TMm.kp TMm.rf hp1 K.gtm K.gts rfl; have hTR := hTR.same hTc2 hTm2
  have hpb := hp2b
  have hNm2 : NSm (nM na H22) (nM na H24) := nM_kp NSm.rf hp1 K.gna rfl; have hNrm := hNR; have hNR := hNR.same hTc2 hNc2 hNm2
  have hC := hC24; have hS := hS24
  refine lv_pop hx hb dL_law_1604 rfl ?_
  refine lv_goto (tgt := 1667) hx hb dL_law_1605 rfl ?_
  exact hk _ _ hC hS hMI hMR hFR hSH hTR hNR
set_option maxRecDepth 100000 in
set_option maxHeartbeats 4000000 in
theorem law_44 (l : Launch) {p : Program} {e : Env} {s : State} {m : MethodId} {below : List Frame} {meth : Method} {c : Code} {X : xW} {Γ : Nat → Option Nat} {b L : Nat} {xs : Nat → Int32} {x1 m1 ca ka oa ra ta tm ts na : Nat} {td nd : Nat → Nat} (K : LK p s m meth c X Γ b L xs x1 m1 ca ka oa ra tm ts na) {H : Heap} {locs : List Loc} {ls : Array Slot} {Q : State → Prop} {i : Int32} {z : Int} (ez : i.toInt = z) (h0z : 0 ≤ z) (hzL : z + 6 ≤ L) (hC : Conf X Γ H) (hS : va_S (AΓ Γ) s.heap H locs) (hMI : MI X H m1 ca) (hMR : mkI X H x1 = mmI X H m1) (hFR : flI X H ra = tpdI X H m1) (hSH : SHP X Γ H x1 ta td nd) (hTR : TRl X td tm ts H) (hNR : NRl X td nd na H) (hl : lv_has ls 4 [(3, .int i), (2, .ref m1), (1, .ref x1), (0, .ref b)]) (hk : ∀ (H1 : Heap) (locs1 : List Loc), Conf X Γ H1 → va_S (AΓ Γ) s.heap H1 locs1 → MI X H1 m1 ca → mkI X H1 x1 = mmI X H1 m1 → flI X H1 ra = tpdI X H1 m1 → SHP X Γ H1 x1 ta td nd → TRl X td tm ts H1 → NRl X td nd na H1 → W p l e room_1 s m #[Value.ref b] below meth c H1 locs1 147 13128 Q (F0 m 1667 ls [])) : W p l e room_1 s m #[Value.ref b] below meth c H locs 147 13128 Q (F0 m 1608 ls []) := by
  have E := K.E; have hx := E.1; have hb := E.2.1; have hLl := K.hL
  refine lv_aload_n hx hb dL_law_1608 rfl (lv_at hl 2 rfl) ?_
  refine lv_aload_n hx hb dL_law_1609 rfl (lv_at hl 3 rfl) ?_
  refine lv_iload_n hx hb dL_law_1610 rfl (lv_at hl 0 rfl) ?_
  refine lv_iconst (v := 1) hx hb dL_law_1611 rfl ?_
  refine lv_iadd hx hb dL_law_1612 (lv_topi (fun v21 e21 => ?_))
  have e21i : v21.toInt = z + 1 := i_add e21 ez (by decide) (by omega) (by omega)
  refine va_sld hx hb K.hX K.hbl K.hbA hS (i_in e21i (by omega) (by omega)) dL_law_1613 ?_
  refine lv_aload_n hx hb dL_law_1614 rfl (lv_at hl 3 rfl) ?_
  refine lv_iload_n hx hb dL_law_1615 rfl (lv_at hl 0 rfl) ?_
  refine lv_iconst (v := 2) hx hb dL_law_1616 rfl ?_
  refine lv_iadd hx hb dL_law_1617 (lv_topi (fun v22 e22 => ?_))
  have e22i : v22.toInt = z + 2 := i_add e22 ez (by decide) (by omega) (by omega)
  refine va_sld hx hb K.hX K.hbl K.hbA hS (i_in e22i (by omega) (by omega)) dL_law_1618 ?_
  refine r_goI (r_runV (As := [.int (xs v21.toNatClampNeg), .int (xs v22.toNatClampNeg)]) (rest := []) E hC hS (m_X11_peaces l X Γ H hC x1 K.g1 (xs v21.toNatClampNeg) (a1 := ((xs v21.toNatClampNeg) : Int32).toInt) rfl (xs v22.toNatClampNeg) (a2 := ((xs v22.toNatClampNeg) : Int32).toInt) rfl) lcw_X11_peaces lcl_204 K.g1 ⟨rfl, rfl⟩ rfl hl.1 rfl (Nat.zero_le _) (by decide) (by decide) (by decide) (by decide) dL_law_1619) hS (fun v23 H23 locs23 hp hC23 hS23 => ?_)
  obtain ⟨hp1, hp2a⟩ := hp
  have hMI : MI X H23 m1 ca := hMI.cl hC K.gca K.g2 hp1 rfl
  have hMR : mkI X H23 x1 = mmI X H23 m1 := (mk_kp hp1 K.g1 rfl).trans (hMR.trans (mm_kp hp1 K.g2 rfl).symm)
  have hFR : flI X H23 ra = tpdI X H23 m1 := (fl_kp hp1 K.gra rfl).trans (hFR.trans (tpd_kp hp1 K.g2 rfl).symm)
  have hSd := hSH; have hSH : SHP X Γ H23 x1 ta td nd := hSH.kp K.g1 hp1 rfl
  have hTr0 := hTR; have hNr0 := hNR; have hTm : TMm tm ts H H23 := TMm.kp0 hp1 K.gtm K.gts rfl; have hNm : NSm (nM na H) (nM na H23) := nM_kp0 hp1 K.gna rfl
  have hTc : TSm X td H H23 := TSm.kp TSm.rf hp1 hSH rfl; have hTR := hTR.same hTc hTm
  have hNc : NSm (nC nd H) (nC nd H23) := nC_kp NSm.rf hp1 hSH rfl; have hNR := hNR.same hTc hNc hNm
  have hpa := hp2a; have hCA := hC
  have hC := hC23; have hS := hS23
  refine lv_pop hx hb dL_law_1622 rfl ?_
  refine lv_aload_n hx hb dL_law_1623 rfl (lv_at hl 1 rfl) ?_
  refine lv_aload_n hx hb dL_law_1624 rfl (lv_at hl 3 rfl) ?_
  refine lv_iload_n hx hb dL_law_1625 rfl (lv_at hl 0 rfl) ?_
  refine lv_iconst (v := 1) hx hb dL_law_1626 rfl ?_
  refine lv_iadd hx hb dL_law_1627 (lv_topi (fun v24 e24 => ?_))
  have e24i : v24.toInt = z + 1 := i_add e24 ez (by decide) (by omega) (by omega)
  have hq24 : v24 = v21 := e24.trans e21.symm
  refine va_sld hx hb K.hX K.hbl K.hbA hS (i_in e24i (by omega) (by omega)) dL_law_1628 ?_
  rw [hq24]
  refine lv_aload_n hx hb dL_law_1629 rfl (lv_at hl 3 rfl) ?_
  refine lv_iload_n hx hb dL_law_1630 rfl (lv_at hl 0 rfl) ?_
  refine lv_iconst (v := 2) hx hb dL_law_1631 rfl ?_
  refine lv_iadd hx hb dL_law_1632 (lv_topi (fun v25 e25 => ?_))
  have e25i : v25.toInt = z + 2 := i_add e25 ez (by decide) (by omega) (by omega)
  have hq25 : v25 = v22 := e25.trans e22.symm
  refine va_sld hx hb K.hX K.hbl K.hbA hS (i_in e25i (by omega) (by omega)) dL_law_1633 ?_
  rw [hq25]
  refine r_goI (r_runV (As := [.int (xs v21.toNatClampNeg), .int (xs v22.toNatClampNeg)]) (rest := []) E hC hS (m_X12_peaces l X Γ H23 hC m1 K.g2 (xs v21.toNatClampNeg) (a1 := ((xs v21.toNatClampNeg) : Int32).toInt) rfl (xs v22.toNatClampNeg) (a2 := ((xs v22.toNatClampNeg) : Int32).toInt) rfl ca K.gca K.uc oa K.goa K.uo ka K.gka K.uk hMI.c0.2.2.2 hMI.c0.2.2.1) lcw_X12_peaces lcl_207 K.g2 ⟨rfl, rfl⟩ rfl hl.1 rfl (Nat.zero_le _) (by decide) (by decide) (by decide) (by decide) dL_law_1634) hS (fun v26 H26 locs26 hp hC26 hS26 => ?_)
  obtain ⟨hp1, hp2b⟩ := hp
  have hMI : MI X H26 m1 ca := hMI.kd hC K.gca hp2b (mm_kp hp1 K.g2 rfl)
  have hMR : mkI X H26 x1 = mmI X H26 m1 := (mk_kp hp1 K.g1 rfl).trans (hMR.trans (mm_kp hp1 K.g2 rfl).symm)
  have hFR : flI X H26 ra = tpdI X H26 m1 := (fl_kp hp1 K.gra rfl).trans (hFR.trans (tpd_kp hp1 K.g2 rfl).symm)
  have hSd := hSH; have hSH : SHP X Γ H26 x1 ta td nd := hSH.kpM K.g1 hp1 rfl
  have hTc2 : TSm X td H23 H26 := TSm.kp1 hp1 hSH rfl; have hNc2 : NSm (nC nd H23) (nC nd H26) := nC_kp1 hp1 hSH rfl
  have hTrm := hTR; have hTm2 : TMm tm ts H23 H26 := TMm.kp TMm.rf hp1 K.gtm K.gts rfl; have hTR := hTR.same hTc2 hTm2
  have hpb := hp2b
  have hNm2 : NSm (nM na H23) (nM na H26) := nM_kp NSm.rf hp1 K.gna rfl; have hNrm := hNR; have hNR := hNR.same hTc2 hNc2 hNm2
  have hC := hC26; have hS := hS26
  refine lv_pop hx hb dL_law_1637 rfl ?_
  refine lv_goto (tgt := 1667) hx hb dL_law_1638 rfl ?_
  exact hk _ _ hC hS hMI hMR hFR hSH hTR hNR
set_option maxRecDepth 100000 in
set_option maxHeartbeats 4000000 in
theorem law_45 (l : Launch) {p : Program} {e : Env} {s : State} {m : MethodId} {below : List Frame} {meth : Method} {c : Code} {X : xW} {Γ : Nat → Option Nat} {b L : Nat} {xs : Nat → Int32} {x1 m1 ca ka oa ra ta tm ts na : Nat} {td nd : Nat → Nat} (K : LK p s m meth c X Γ b L xs x1 m1 ca ka oa ra tm ts na) {H : Heap} {locs : List Loc} {ls : Array Slot} {Q : State → Prop} {i : Int32} {z : Int} (ez : i.toInt = z) (h0z : 0 ≤ z) (hzL : z + 6 ≤ L) (hC : Conf X Γ H) (hS : va_S (AΓ Γ) s.heap H locs) (hMI : MI X H m1 ca) (hMR : mkI X H x1 = mmI X H m1) (hFR : flI X H ra = tpdI X H m1) (hSH : SHP X Γ H x1 ta td nd) (hTR : TRl X td tm ts H) (hNR : NRl X td nd na H) (hl : lv_has ls 4 [(3, .int i), (2, .ref m1), (1, .ref x1), (0, .ref b)]) (hk : ∀ (H1 : Heap) (locs1 : List Loc), Conf X Γ H1 → va_S (AΓ Γ) s.heap H1 locs1 → MI X H1 m1 ca → mkI X H1 x1 = mmI X H1 m1 → flI X H1 ra = tpdI X H1 m1 → SHP X Γ H1 x1 ta td nd → TRl X td tm ts H1 → NRl X td nd na H1 → W p l e room_1 s m #[Value.ref b] below meth c H1 locs1 147 13128 Q (F0 m 1667 ls [])) : W p l e room_1 s m #[Value.ref b] below meth c H locs 147 13128 Q (F0 m 1641 ls []) := by
  have E := K.E; have hx := E.1; have hb := E.2.1; have hLl := K.hL
  refine lv_aload_n hx hb dL_law_1641 rfl (lv_at hl 2 rfl) ?_
  refine r_goI (r_runV (As := []) (rest := []) E hC hS (m_X11_mark l X Γ H hC x1 K.g1) lcw_X11_mark lcl_208 K.g1 ⟨rfl, rfl⟩ rfl hl.1 rfl (Nat.zero_le _) (by decide) (by decide) (by decide) (by decide) dL_law_1642) hS (fun v21 H21 locs21 hp hC21 hS21 => ?_)
  obtain ⟨hp1, hp2a⟩ := hp
  have hMI : MI X H21 m1 ca := hMI.cl hC K.gca K.g2 hp1 rfl
  have hR0 := hMR; have hA1 := mm_kp hp1 K.g2 rfl
  have hFR : flI X H21 ra = tpdI X H21 m1 := (fl_kp hp1 K.gra rfl).trans (hFR.trans (tpd_kp hp1 K.g2 rfl).symm)
  have hSd := hSH; have hSH : SHP X Γ H21 x1 ta td nd := hSH.kp K.g1 hp1 rfl
  have hTr0 := hTR; have hNr0 := hNR; have hTm : TMm tm ts H H21 := TMm.kp0 hp1 K.gtm K.gts rfl; have hNm : NSm (nM na H) (nM na H21) := nM_kp0 hp1 K.gna rfl
  have hTc : TSm X td H H21 := TSm.kp TSm.rf hp1 hSH rfl; have hTR := hTR.same hTc hTm
  have hNc : NSm (nC nd H) (nC nd H21) := nC_kp NSm.rf hp1 hSH rfl; have hNR := hNR.same hTc hNc hNm
  have hpa := hp2a; have hCA := hC
  have hC := hC21; have hS := hS21
  refine lv_pop hx hb dL_law_1645 rfl ?_
  refine lv_aload_n hx hb dL_law_1646 rfl (lv_at hl 1 rfl) ?_
  refine r_goI (r_runV (As := []) (rest := []) E hC hS (m_X12_mark l X Γ H21 hC m1 K.g2 ca K.gca K.uc) lcw_X12_mark lcl_211 K.g2 ⟨rfl, rfl⟩ rfl hl.1 rfl (Nat.zero_le _) (by decide) (by decide) (by decide) (by decide) dL_law_1647) hS (fun v22 H22 locs22 hp hC22 hS22 => ?_)
  obtain ⟨hp1, hp2b⟩ := hp
  have hMI : MI X H22 m1 ca := hMI.mark hC hC22 K.gca K.g2 hp2b.1
  have hA2 := mk_kp hp1 K.g1 rfl; have hp2c := hp2b.2
  have hMR : mkI X H22 x1 = mmI X H22 m1 := by simp only [mkI, mmI] at hR0 hA1 hA2 ⊢; omega
  have hFR : flI X H22 ra = tpdI X H22 m1 := (fl_kp hp1 K.gra rfl).trans (hFR.trans (tpd_kp hp1 K.g2 rfl).symm)
  have hSd := hSH; have hSH : SHP X Γ H22 x1 ta td nd := hSH.kpM K.g1 hp1 rfl
  have hTc2 : TSm X td H21 H22 := TSm.kp1 hp1 hSH rfl; have hNc2 : NSm (nC nd H21) (nC nd H22) := nC_kp1 hp1 hSH rfl
  have hTrm := hTR; have hTm2 : TMm tm ts H21 H22 := TMm.kp TMm.rf hp1 K.gtm K.gts rfl; have hTR := hTR.same hTc2 hTm2
  have hpb := hp2b
  have hNm2 : NSm (nM na H21) (nM na H22) := nM_kp NSm.rf hp1 K.gna rfl; have hNrm := hNR; have hNR := hNR.same hTc2 hNc2 hNm2
  have hC := hC22; have hS := hS22
  refine lv_pop hx hb dL_law_1650 rfl ?_
  refine lv_goto (tgt := 1667) hx hb dL_law_1651 rfl ?_
  exact hk _ _ hC hS hMI hMR hFR hSH hTR hNR
set_option maxRecDepth 100000 in
set_option maxHeartbeats 4000000 in
theorem law_46 (l : Launch) {p : Program} {e : Env} {s : State} {m : MethodId} {below : List Frame} {meth : Method} {c : Code} {X : xW} {Γ : Nat → Option Nat} {b L : Nat} {xs : Nat → Int32} {x1 m1 ca ka oa ra ta tm ts na : Nat} {td nd : Nat → Nat} (K : LK p s m meth c X Γ b L xs x1 m1 ca ka oa ra tm ts na) {H : Heap} {locs : List Loc} {ls : Array Slot} {Q : State → Prop} {i : Int32} {z : Int} (ez : i.toInt = z) (h0z : 0 ≤ z) (hzL : z + 6 ≤ L) (hC : Conf X Γ H) (hS : va_S (AΓ Γ) s.heap H locs) (hMI : MI X H m1 ca) (hMR : mkI X H x1 = mmI X H m1) (hFR : flI X H ra = tpdI X H m1) (hSH : SHP X Γ H x1 ta td nd) (hTR : TRl X td tm ts H) (hNR : NRl X td nd na H) (hl : lv_has ls 4 [(3, .int i), (2, .ref m1), (1, .ref x1), (0, .ref b)]) (hk : ∀ (H1 : Heap) (locs1 : List Loc), Conf X Γ H1 → va_S (AΓ Γ) s.heap H1 locs1 → MI X H1 m1 ca → mkI X H1 x1 = mmI X H1 m1 → flI X H1 ra = tpdI X H1 m1 → SHP X Γ H1 x1 ta td nd → TRl X td tm ts H1 → NRl X td nd na H1 → W p l e room_1 s m #[Value.ref b] below meth c H1 locs1 147 13128 Q (F0 m 1667 ls [])) : W p l e room_1 s m #[Value.ref b] below meth c H locs 147 13128 Q (F0 m 1654 ls []) := by
  have E := K.E; have hx := E.1; have hb := E.2.1; have hLl := K.hL
  refine lv_aload_n hx hb dL_law_1654 rfl (lv_at hl 2 rfl) ?_
  refine r_goI (r_runV (As := []) (rest := []) E hC hS (m_X11_back l X Γ H hC x1 K.g1) lcw_X11_back lcl_212 K.g1 ⟨rfl, rfl⟩ rfl hl.1 rfl (Nat.zero_le _) (by decide) (by decide) (by decide) (by decide) dL_law_1655) hS (fun v21 H21 locs21 hp hC21 hS21 => ?_)
  obtain ⟨hp1, hp2a⟩ := hp
  have hMI : MI X H21 m1 ca := hMI.cl hC K.gca K.g2 hp1 rfl
  have hR0 := hMR; have hA1 := mm_kp hp1 K.g2 rfl
  have hFR : flI X H21 ra = tpdI X H21 m1 := (fl_kp hp1 K.gra rfl).trans (hFR.trans (tpd_kp hp1 K.g2 rfl).symm)
  have hSd := hSH; have hSH : SHP X Γ H21 x1 ta td nd := hSH.kp K.g1 hp1 rfl
  have hTr0 := hTR; have hNr0 := hNR; have hTm : TMm tm ts H H21 := TMm.kp0 hp1 K.gtm K.gts rfl; have hNm : NSm (nM na H) (nM na H21) := nM_kp0 hp1 K.gna rfl
  have hTc : TSm X td H H21 := TSm.kp TSm.rf hp1 hSH rfl; have hTR := hTR.same hTc hTm
  have hNc : NSm (nC nd H) (nC nd H21) := nC_kp NSm.rf hp1 hSH rfl; have hNR := hNR.same hTc hNc hNm
  have hpa := hp2a; have hCA := hC
  have hC := hC21; have hS := hS21
  refine lv_pop hx hb dL_law_1658 rfl ?_
  refine lv_aload_n hx hb dL_law_1659 rfl (lv_at hl 1 rfl) ?_
  refine r_goI (r_runV (As := []) (rest := []) E hC hS (m_X12_back l X Γ H21 hC m1 K.g2 ca K.gca K.uc) lcw_X12_back lcl_215 K.g2 ⟨rfl, rfl⟩ rfl hl.1 rfl (Nat.zero_le _) (by decide) (by decide) (by decide) (by decide) dL_law_1660) hS (fun v22 H22 locs22 hp hC22 hS22 => ?_)
  obtain ⟨hp1, hp2b⟩ := hp
  have hMI : MI X H22 m1 ca := hMI.back hC hC22 K.gca K.g2 hp2b.1
  have hA2 := mk_kp hp1 K.g1 rfl; have hp2c := hp2b.2
  have hMR : mkI X H22 x1 = mmI X H22 m1 := by simp only [mkI, mmI] at hR0 hA1 hA2 ⊢; omega
  have hFR : flI X H22 ra = tpdI X H22 m1 := (fl_kp hp1 K.gra rfl).trans (hFR.trans (tpd_kp hp1 K.g2 rfl).symm)
  have hSd := hSH; have hSH : SHP X Γ H22 x1 ta td nd := hSH.kpM K.g1 hp1 rfl
  have hTc2 : TSm X td H21 H22 := TSm.kp1 hp1 hSH rfl; have hNc2 : NSm (nC nd H21) (nC nd H22) := nC_kp1 hp1 hSH rfl
  have hTrm := hTR; have hTm2 : TMm tm ts H21 H22 := TMm.kp TMm.rf hp1 K.gtm K.gts rfl; have hTR := hTR.same hTc2 hTm2
  have hpb := hp2b
  have hNm2 : NSm (nM na H21) (nM na H22) := nM_kp NSm.rf hp1 K.gna rfl; have hNrm := hNR; have hNR := hNR.same hTc2 hNc2 hNm2
  have hC := hC22; have hS := hS22
  refine lv_pop hx hb dL_law_1663 rfl ?_
  refine lv_goto (tgt := 1667) hx hb dL_law_1664 rfl ?_
  exact hk _ _ hC hS hMI hMR hFR hSH hTR hNR
