set_option maxRecDepth 100000 in
set_option maxHeartbeats 4000000 in
theorem law_0 (l : Launch) {p : Program} {e : Env} {s : State} {m : MethodId} {below : List Frame} {meth : Method} {c : Code} {X : xW} {Γ : Nat → Option Nat} {b L : Nat} {xs : Nat → Int32} {x1 m1 ca ka oa ra ta tm ts na mo wk : Nat} {td nd : Nat → Nat} (K : LK p s m meth c X Γ b L xs x1 m1 ca ka oa ra tm ts na mo wk) {H : Heap} {locs : List Loc} {ls : Array Slot} {Q : State → Prop} {i : Int32} {z : Int} (ez : i.toInt = z) (h0z : 0 ≤ z) (hzL : z + 6 ≤ L) (hC : Conf X Γ H) (hS : va_S (AΓ Γ) s.heap H locs) (hMI : MI X H m1 ca) (hMR : mkI X H x1 = mmI X H m1) (hFR : flI X H ra = tpdI X H m1) (hSH : SHP X Γ H x1 ta td nd) (hTR : TRl X td tm ts H) (hNR : NRl X td nd na H) (hMO : sR H x1 (X.1.2 10 13) = some mo) (hWK : sR H m1 (X.1.2 11 29) = some wk) (hWR : WRl X H mo m1 wk) (hl : lv_has ls 4 [(3, .int i), (2, .ref m1), (1, .ref x1), (0, .ref b)]) (hk : ∀ (H1 : Heap) (locs1 : List Loc), Conf X Γ H1 → va_S (AΓ Γ) s.heap H1 locs1 → MI X H1 m1 ca → mkI X H1 x1 = mmI X H1 m1 → flI X H1 ra = tpdI X H1 m1 → SHP X Γ H1 x1 ta td nd → TRl X td tm ts H1 → NRl X td nd na H1 → sR H1 x1 (X.1.2 10 13) = some mo → sR H1 m1 (X.1.2 11 29) = some wk → WRl X H1 mo m1 wk → W p l e room_1 s m #[Value.ref b] below meth c H1 locs1 147 13128 Q (F0 m 1667 ls [])) : W p l e room_1 s m #[Value.ref b] below meth c H locs 147 13128 Q (F0 m 236 ls []) := by
  have E := K.E; have hx := E.1; have hb := E.2.1; have hLl := K.hL
  refine lv_aload_n hx hb dL_law_236 rfl (lv_at hl 2 rfl) ?_
  refine r_goI (r_runV (As := []) (rest := []) E hC hS (m_X11_status l X Γ H hC x1 K.g1) lcw_X11_status lcl_13 K.g1 ⟨rfl, rfl⟩ rfl hl.1 rfl (Nat.zero_le _) (by decide) (by decide) (by decide) (by decide) dL_law_237) hS (fun v21 H21 locs21 hp hC21 hS21 => ?_)
  obtain ⟨hp1, hp2a⟩ := hp
  have hMI : MI X H21 m1 ca := by rw [hp1]; exact hMI
  have hMR : mkI X H21 x1 = mmI X H21 m1 := by rw [hp1]; exact hMR
  have hFR : flI X H21 ra = tpdI X H21 m1 := by rw [hp1]; exact hFR
  have hSH : SHP X Γ H21 x1 ta td nd := by rw [hp1]; exact hSH
  have hTR : TRl X td tm ts H21 := by rw [hp1]; exact hTR
  have hNR : NRl X td nd na H21 := by rw [hp1]; exact hNR
  have hMO : sR H21 x1 (X.1.2 10 13) = some mo := by rw [hp1]; exact hMO
  have hWK : sR H21 m1 (X.1.2 11 29) = some wk := by rw [hp1]; exact hWK
  have hWR : WRl X H21 mo m1 wk := by rw [hp1]; exact hWR
  have hC := hC21; have hS := hS21
  refine lv_pop hx hb dL_law_240 rfl ?_
  refine lv_aload_n hx hb dL_law_241 rfl (lv_at hl 1 rfl) ?_
  refine r_goI (r_runV (As := []) (rest := []) E hC hS (m_X12_status l X Γ H21 hC m1 K.g2 ca K.gca K.uc) lcw_X12_status lcl_17 K.g2 ⟨rfl, rfl⟩ rfl hl.1 rfl (Nat.zero_le _) (by decide) (by decide) (by decide) (by decide) dL_law_242) hS (fun v22 H22 locs22 hp hC22 hS22 => ?_)
  obtain ⟨hp1, hp2b⟩ := hp
  have hMI : MI X H22 m1 ca := hMI.kp hC K.gca K.g2 hp1 rfl rfl rfl
  have hMR : mkI X H22 x1 = mmI X H22 m1 := (mk_kp hp1 K.g1 rfl).trans (hMR.trans (mm_kp hp1 K.g2 rfl).symm)
  have hFR : flI X H22 ra = tpdI X H22 m1 := (fl_kp hp1 K.gra rfl).trans (hFR.trans (tpd_kp hp1 K.g2 rfl).symm)
  have hSd := hSH; have hSH : SHP X Γ H22 x1 ta td nd := hSH.kpM K.g1 hp1 rfl
  have hTc2 : TSm X td H21 H22 := TSm.kp1 hp1 hSH rfl; have hNc2 : NSm (nC nd H21) (nC nd H22) := nC_kp1 hp1 hSH rfl
  have hTrm := hTR; have hTm2 : TMm tm ts H21 H22 := TMm.kp TMm.rf hp1 K.gtm K.gts rfl; have hTR := hTR.same hTc2 hTm2
  have hpb := hp2b
  have hNm2 : NSm (nM na H21) (nM na H22) := nM_kp NSm.rf hp1 K.gna rfl; have hNrm := hNR; have hNR := hNR.same hTc2 hNc2 hNm2
  have hMO := (kp_R hp1 K.g1 (ci := 10) (k := 13) rfl (by decide) rfl).trans hMO; have hWK := (kp_R hp1 K.g2 (ci := 11) (k := 29) rfl (by decide) rfl).trans hWK
  have hMc2 : MoK X H21 H22 mo := MoK.kp1 hp1 K.gmo rfl
  have hWRm := hWR; have hWR := hWR.same hMc2 (MmK.kp MmK.rf hp1 K.g2 K.gwk rfl)
  have hC := hC22; have hS := hS22
  refine lv_pop hx hb dL_law_245 rfl ?_
  refine lv_goto (tgt := 1667) hx hb dL_law_246 rfl ?_
  exact hk _ _ hC hS hMI hMR hFR hSH hTR hNR hMO hWK hWR
set_option maxRecDepth 100000 in
set_option maxHeartbeats 4000000 in
theorem law_1 (l : Launch) {p : Program} {e : Env} {s : State} {m : MethodId} {below : List Frame} {meth : Method} {c : Code} {X : xW} {Γ : Nat → Option Nat} {b L : Nat} {xs : Nat → Int32} {x1 m1 ca ka oa ra ta tm ts na mo wk : Nat} {td nd : Nat → Nat} (K : LK p s m meth c X Γ b L xs x1 m1 ca ka oa ra tm ts na mo wk) {H : Heap} {locs : List Loc} {ls : Array Slot} {Q : State → Prop} {i : Int32} {z : Int} (ez : i.toInt = z) (h0z : 0 ≤ z) (hzL : z + 6 ≤ L) (hC : Conf X Γ H) (hS : va_S (AΓ Γ) s.heap H locs) (hMI : MI X H m1 ca) (hMR : mkI X H x1 = mmI X H m1) (hFR : flI X H ra = tpdI X H m1) (hSH : SHP X Γ H x1 ta td nd) (hTR : TRl X td tm ts H) (hNR : NRl X td nd na H) (hMO : sR H x1 (X.1.2 10 13) = some mo) (hWK : sR H m1 (X.1.2 11 29) = some wk) (hWR : WRl X H mo m1 wk) (hl : lv_has ls 4 [(3, .int i), (2, .ref m1), (1, .ref x1), (0, .ref b)]) (hk : ∀ (H1 : Heap) (locs1 : List Loc), Conf X Γ H1 → va_S (AΓ Γ) s.heap H1 locs1 → MI X H1 m1 ca → mkI X H1 x1 = mmI X H1 m1 → flI X H1 ra = tpdI X H1 m1 → SHP X Γ H1 x1 ta td nd → TRl X td tm ts H1 → NRl X td nd na H1 → sR H1 x1 (X.1.2 10 13) = some mo → sR H1 m1 (X.1.2 11 29) = some wk → WRl X H1 mo m1 wk → W p l e room_1 s m #[Value.ref b] below meth c H1 locs1 147 13128 Q (F0 m 1667 ls [])) : W p l e room_1 s m #[Value.ref b] below meth c H locs 147 13128 Q (F0 m 249 ls []) := by
  have E := K.E; have hx := E.1; have hb := E.2.1; have hLl := K.hL
  refine lv_aload_n hx hb dL_law_249 rfl (lv_at hl 2 rfl) ?_
  refine r_goJ (r_runV (As := []) (rest := []) E hC hS (m_X11_top l X Γ H hC x1 K.g1) lcw_X11_top lcl_18 K.g1 ⟨rfl, rfl⟩ rfl hl.1 rfl (Nat.zero_le _) (by decide) (by decide) (by decide) (by decide) dL_law_250) hS (fun v21 H21 locs21 hp hC21 hS21 => ?_)
  obtain ⟨hp1, hp2a⟩ := hp
  have hMI : MI X H21 m1 ca := by rw [hp1]; exact hMI
  have hMR : mkI X H21 x1 = mmI X H21 m1 := by rw [hp1]; exact hMR
  have hFR : flI X H21 ra = tpdI X H21 m1 := by rw [hp1]; exact hFR
  have hSH : SHP X Γ H21 x1 ta td nd := by rw [hp1]; exact hSH
  have hTR : TRl X td tm ts H21 := by rw [hp1]; exact hTR
  have hNR : NRl X td nd na H21 := by rw [hp1]; exact hNR
  have hMO : sR H21 x1 (X.1.2 10 13) = some mo := by rw [hp1]; exact hMO
  have hWK : sR H21 m1 (X.1.2 11 29) = some wk := by rw [hp1]; exact hWK
  have hWR : WRl X H21 mo m1 wk := by rw [hp1]; exact hWR
  have hC := hC21; have hS := hS21
  refine lv_pop2_2 hx hb dL_law_253 rfl ?_
  refine lv_aload_n hx hb dL_law_254 rfl (lv_at hl 1 rfl) ?_
  refine r_goJ (r_runV (As := []) (rest := []) E hC hS (m_X12_top l X Γ H21 hC m1 K.g2 ca K.gca K.uc) lcw_X12_top lcl_22 K.g2 ⟨rfl, rfl⟩ rfl hl.1 rfl (Nat.zero_le _) (by decide) (by decide) (by decide) (by decide) dL_law_255) hS (fun v22 H22 locs22 hp hC22 hS22 => ?_)
  obtain ⟨hp1, hp2b⟩ := hp
  have hMI : MI X H22 m1 ca := hMI.kp hC K.gca K.g2 hp1 rfl rfl rfl
  have hMR : mkI X H22 x1 = mmI X H22 m1 := (mk_kp hp1 K.g1 rfl).trans (hMR.trans (mm_kp hp1 K.g2 rfl).symm)
  have hFR : flI X H22 ra = tpdI X H22 m1 := (fl_kp hp1 K.gra rfl).trans (hFR.trans (tpd_kp hp1 K.g2 rfl).symm)
  have hSd := hSH; have hSH : SHP X Γ H22 x1 ta td nd := hSH.kpM K.g1 hp1 rfl
  have hTc2 : TSm X td H21 H22 := TSm.kp1 hp1 hSH rfl; have hNc2 : NSm (nC nd H21) (nC nd H22) := nC_kp1 hp1 hSH rfl
  have hTrm := hTR; have hTm2 : TMm tm ts H21 H22 := TMm.kp TMm.rf hp1 K.gtm K.gts rfl; have hTR := hTR.same hTc2 hTm2
  have hpb := hp2b
  have hNm2 : NSm (nM na H21) (nM na H22) := nM_kp NSm.rf hp1 K.gna rfl; have hNrm := hNR; have hNR := hNR.same hTc2 hNc2 hNm2
  have hMO := (kp_R hp1 K.g1 (ci := 10) (k := 13) rfl (by decide) rfl).trans hMO; have hWK := (kp_R hp1 K.g2 (ci := 11) (k := 29) rfl (by decide) rfl).trans hWK
  have hMc2 : MoK X H21 H22 mo := MoK.kp1 hp1 K.gmo rfl
  have hWRm := hWR; have hWR := hWR.same hMc2 (MmK.kp MmK.rf hp1 K.g2 K.gwk rfl)
  have hC := hC22; have hS := hS22
  refine lv_pop2_2 hx hb dL_law_258 rfl ?_
  refine lv_goto (tgt := 1667) hx hb dL_law_259 rfl ?_
  exact hk _ _ hC hS hMI hMR hFR hSH hTR hNR hMO hWK hWR
set_option maxRecDepth 100000 in
set_option maxHeartbeats 4000000 in
theorem law_2 (l : Launch) {p : Program} {e : Env} {s : State} {m : MethodId} {below : List Frame} {meth : Method} {c : Code} {X : xW} {Γ : Nat → Option Nat} {b L : Nat} {xs : Nat → Int32} {x1 m1 ca ka oa ra ta tm ts na mo wk : Nat} {td nd : Nat → Nat} (K : LK p s m meth c X Γ b L xs x1 m1 ca ka oa ra tm ts na mo wk) {H : Heap} {locs : List Loc} {ls : Array Slot} {Q : State → Prop} {i : Int32} {z : Int} (ez : i.toInt = z) (h0z : 0 ≤ z) (hzL : z + 6 ≤ L) (hC : Conf X Γ H) (hS : va_S (AΓ Γ) s.heap H locs) (hMI : MI X H m1 ca) (hMR : mkI X H x1 = mmI X H m1) (hFR : flI X H ra = tpdI X H m1) (hSH : SHP X Γ H x1 ta td nd) (hTR : TRl X td tm ts H) (hNR : NRl X td nd na H) (hMO : sR H x1 (X.1.2 10 13) = some mo) (hWK : sR H m1 (X.1.2 11 29) = some wk) (hWR : WRl X H mo m1 wk) (hl : lv_has ls 4 [(3, .int i), (2, .ref m1), (1, .ref x1), (0, .ref b)]) (hk : ∀ (H1 : Heap) (locs1 : List Loc), Conf X Γ H1 → va_S (AΓ Γ) s.heap H1 locs1 → MI X H1 m1 ca → mkI X H1 x1 = mmI X H1 m1 → flI X H1 ra = tpdI X H1 m1 → SHP X Γ H1 x1 ta td nd → TRl X td tm ts H1 → NRl X td nd na H1 → sR H1 x1 (X.1.2 10 13) = some mo → sR H1 m1 (X.1.2 11 29) = some wk → WRl X H1 mo m1 wk → W p l e room_1 s m #[Value.ref b] below meth c H1 locs1 147 13128 Q (F0 m 1667 ls [])) : W p l e room_1 s m #[Value.ref b] below meth c H locs 147 13128 Q (F0 m 262 ls []) := by
  have E := K.E; have hx := E.1; have hb := E.2.1; have hLl := K.hL
  refine lv_aload_n hx hb dL_law_262 rfl (lv_at hl 2 rfl) ?_
  refine r_goJ (r_runV (As := []) (rest := []) E hC hS (m_X11_bottom l X Γ H hC x1 K.g1) lcw_X11_bottom lcl_23 K.g1 ⟨rfl, rfl⟩ rfl hl.1 rfl (Nat.zero_le _) (by decide) (by decide) (by decide) (by decide) dL_law_263) hS (fun v21 H21 locs21 hp hC21 hS21 => ?_)
  obtain ⟨hp1, hp2a⟩ := hp
  have hMI : MI X H21 m1 ca := by rw [hp1]; exact hMI
  have hMR : mkI X H21 x1 = mmI X H21 m1 := by rw [hp1]; exact hMR
  have hFR : flI X H21 ra = tpdI X H21 m1 := by rw [hp1]; exact hFR
  have hSH : SHP X Γ H21 x1 ta td nd := by rw [hp1]; exact hSH
  have hTR : TRl X td tm ts H21 := by rw [hp1]; exact hTR
  have hNR : NRl X td nd na H21 := by rw [hp1]; exact hNR
  have hMO : sR H21 x1 (X.1.2 10 13) = some mo := by rw [hp1]; exact hMO
  have hWK : sR H21 m1 (X.1.2 11 29) = some wk := by rw [hp1]; exact hWK
  have hWR : WRl X H21 mo m1 wk := by rw [hp1]; exact hWR
  have hC := hC21; have hS := hS21
  refine lv_pop2_2 hx hb dL_law_266 rfl ?_
  refine lv_aload_n hx hb dL_law_267 rfl (lv_at hl 1 rfl) ?_
  refine r_goJ (r_runV (As := []) (rest := []) E hC hS (m_X12_bottom l X Γ H21 hC m1 K.g2 ca K.gca K.uc) lcw_X12_bottom lcl_26 K.g2 ⟨rfl, rfl⟩ rfl hl.1 rfl (Nat.zero_le _) (by decide) (by decide) (by decide) (by decide) dL_law_268) hS (fun v22 H22 locs22 hp hC22 hS22 => ?_)
  obtain ⟨hp1, hp2b⟩ := hp
  have hMI : MI X H22 m1 ca := hMI.kp hC K.gca K.g2 hp1 rfl rfl rfl
  have hMR : mkI X H22 x1 = mmI X H22 m1 := (mk_kp hp1 K.g1 rfl).trans (hMR.trans (mm_kp hp1 K.g2 rfl).symm)
  have hFR : flI X H22 ra = tpdI X H22 m1 := (fl_kp hp1 K.gra rfl).trans (hFR.trans (tpd_kp hp1 K.g2 rfl).symm)
  have hSd := hSH; have hSH : SHP X Γ H22 x1 ta td nd := hSH.kpM K.g1 hp1 rfl
  have hTc2 : TSm X td H21 H22 := TSm.kp1 hp1 hSH rfl; have hNc2 : NSm (nC nd H21) (nC nd H22) := nC_kp1 hp1 hSH rfl
  have hTrm := hTR; have hTm2 : TMm tm ts H21 H22 := TMm.kp TMm.rf hp1 K.gtm K.gts rfl; have hTR := hTR.same hTc2 hTm2
  have hpb := hp2b
  have hNm2 : NSm (nM na H21) (nM na H22) := nM_kp NSm.rf hp1 K.gna rfl; have hNrm := hNR; have hNR := hNR.same hTc2 hNc2 hNm2
  have hMO := (kp_R hp1 K.g1 (ci := 10) (k := 13) rfl (by decide) rfl).trans hMO; have hWK := (kp_R hp1 K.g2 (ci := 11) (k := 29) rfl (by decide) rfl).trans hWK
  have hMc2 : MoK X H21 H22 mo := MoK.kp1 hp1 K.gmo rfl
  have hWRm := hWR; have hWR := hWR.same hMc2 (MmK.kp MmK.rf hp1 K.g2 K.gwk rfl)
  have hC := hC22; have hS := hS22
  refine lv_pop2_2 hx hb dL_law_271 rfl ?_
  refine lv_goto (tgt := 1667) hx hb dL_law_272 rfl ?_
  exact hk _ _ hC hS hMI hMR hFR hSH hTR hNR hMO hWK hWR
set_option maxRecDepth 100000 in
set_option maxHeartbeats 4000000 in
theorem law_3 (l : Launch) {p : Program} {e : Env} {s : State} {m : MethodId} {below : List Frame} {meth : Method} {c : Code} {X : xW} {Γ : Nat → Option Nat} {b L : Nat} {xs : Nat → Int32} {x1 m1 ca ka oa ra ta tm ts na mo wk : Nat} {td nd : Nat → Nat} (K : LK p s m meth c X Γ b L xs x1 m1 ca ka oa ra tm ts na mo wk) {H : Heap} {locs : List Loc} {ls : Array Slot} {Q : State → Prop} {i : Int32} {z : Int} (ez : i.toInt = z) (h0z : 0 ≤ z) (hzL : z + 6 ≤ L) (hC : Conf X Γ H) (hS : va_S (AΓ Γ) s.heap H locs) (hMI : MI X H m1 ca) (hMR : mkI X H x1 = mmI X H m1) (hFR : flI X H ra = tpdI X H m1) (hSH : SHP X Γ H x1 ta td nd) (hTR : TRl X td tm ts H) (hNR : NRl X td nd na H) (hMO : sR H x1 (X.1.2 10 13) = some mo) (hWK : sR H m1 (X.1.2 11 29) = some wk) (hWR : WRl X H mo m1 wk) (hl : lv_has ls 4 [(3, .int i), (2, .ref m1), (1, .ref x1), (0, .ref b)]) (hk : ∀ (H1 : Heap) (locs1 : List Loc), Conf X Γ H1 → va_S (AΓ Γ) s.heap H1 locs1 → MI X H1 m1 ca → mkI X H1 x1 = mmI X H1 m1 → flI X H1 ra = tpdI X H1 m1 → SHP X Γ H1 x1 ta td nd → TRl X td tm ts H1 → NRl X td nd na H1 → sR H1 x1 (X.1.2 10 13) = some mo → sR H1 m1 (X.1.2 11 29) = some wk → WRl X H1 mo m1 wk → W p l e room_1 s m #[Value.ref b] below meth c H1 locs1 147 13128 Q (F0 m 1667 ls [])) : W p l e room_1 s m #[Value.ref b] below meth c H locs 147 13128 Q (F0 m 275 ls []) := by
  have E := K.E; have hx := E.1; have hb := E.2.1; have hLl := K.hL
  refine lv_aload_n hx hb dL_law_275 rfl (lv_at hl 2 rfl) ?_
  refine lv_aload_n hx hb dL_law_276 rfl (lv_at hl 3 rfl) ?_
  refine lv_iload_n hx hb dL_law_277 rfl (lv_at hl 0 rfl) ?_
  refine lv_iconst (v := 1) hx hb dL_law_278 rfl ?_
  refine lv_iadd hx hb dL_law_279 (lv_topi (fun v21 e21 => ?_))
  have e21i : v21.toInt = z + 1 := i_add e21 ez (by decide) (by omega) (by omega)
  refine va_sld hx hb K.hX K.hbl K.hbA hS (i_in e21i (by omega) (by omega)) dL_law_280 ?_
  refine lv_aload_n hx hb dL_law_281 rfl (lv_at hl 3 rfl) ?_
  refine lv_iload_n hx hb dL_law_282 rfl (lv_at hl 0 rfl) ?_
  refine lv_iconst (v := 2) hx hb dL_law_283 rfl ?_
  refine lv_iadd hx hb dL_law_284 (lv_topi (fun v22 e22 => ?_))
  have e22i : v22.toInt = z + 2 := i_add e22 ez (by decide) (by omega) (by omega)
  refine va_sld hx hb K.hX K.hbl K.hbA hS (i_in e22i (by omega) (by omega)) dL_law_285 ?_
  refine lv_aload_n hx hb dL_law_286 rfl (lv_at hl 3 rfl) ?_
  refine lv_iload_n hx hb dL_law_287 rfl (lv_at hl 0 rfl) ?_
  refine lv_iconst (v := 3) hx hb dL_law_288 rfl ?_
  refine lv_iadd hx hb dL_law_289 (lv_topi (fun v23 e23 => ?_))
  have e23i : v23.toInt = z + 3 := i_add e23 ez (by decide) (by omega) (by omega)
  refine va_sld hx hb K.hX K.hbl K.hbA hS (i_in e23i (by omega) (by omega)) dL_law_290 ?_
  refine r_goI (r_runV (As := [.int (xs v21.toNatClampNeg), .int (xs v22.toNatClampNeg), .int (xs v23.toNatClampNeg)]) (rest := []) E hC hS (m_X11_tray l X Γ H hC x1 K.g1 (xs v21.toNatClampNeg) (a1 := ((xs v21.toNatClampNeg) : Int32).toInt) rfl (xs v22.toNatClampNeg) (a2 := ((xs v22.toNatClampNeg) : Int32).toInt) rfl (xs v23.toNatClampNeg) (a3 := ((xs v23.toNatClampNeg) : Int32).toInt) rfl ta td nd hSH) lcw_X11_tray lcl_27 K.g1 ⟨rfl, rfl⟩ rfl hl.1 rfl (Nat.zero_le _) (by decide) (by decide) (by decide) (by decide) dL_law_291) hS (fun v24 H24 locs24 hp hC24 hS24 => ?_)
  obtain ⟨hp1, hp2a⟩ := hp
  have hMI : MI X H24 m1 ca := hMI.cl hC K.gca K.g2 hp1 rfl
  have hMR : mkI X H24 x1 = mmI X H24 m1 := (mk_kp hp1 K.g1 rfl).trans (hMR.trans (mm_kp hp1 K.g2 rfl).symm)
  have hFR : flI X H24 ra = tpdI X H24 m1 := (fl_kp hp1 K.gra rfl).trans (hFR.trans (tpd_kp hp1 K.g2 rfl).symm)
  have hSd := hSH; have hSH : SHP X Γ H24 x1 ta td nd := hSH.kp K.g1 hp1 rfl
  have hTr0 := hTR; have hNr0 := hNR; have hTm : TMm tm ts H H24 := TMm.kp0 hp1 K.gtm K.gts rfl; have hNm : NSm (nM na H) (nM na H24) := nM_kp0 hp1 K.gna rfl
  have hpa := hp2a; have hCA := hC
  have hMO := (kp_R hp1 K.g1 (ci := 10) (k := 13) rfl (by decide) rfl).trans hMO; have hWK := (kp_R hp1 K.g2 (ci := 11) (k := 29) rfl (by decide) rfl).trans hWK
  have hWR0 := hWR; have hMm : MmK X H H24 m1 wk := MmK.kp0 hp1 K.g2 K.gwk rfl
  have hMc : MoK X H H24 mo := MoK.kp MoK.rf hp1 K.gmo rfl; have hWR := hWR.same hMc hMm
  have hC := hC24; have hS := hS24
  refine lv_pop hx hb dL_law_294 rfl ?_
  refine lv_aload_n hx hb dL_law_295 rfl (lv_at hl 1 rfl) ?_
  refine lv_aload_n hx hb dL_law_296 rfl (lv_at hl 3 rfl) ?_
  refine lv_iload_n hx hb dL_law_297 rfl (lv_at hl 0 rfl) ?_
  refine lv_iconst (v := 1) hx hb dL_law_298 rfl ?_
  refine lv_iadd hx hb dL_law_299 (lv_topi (fun v25 e25 => ?_))
  have e25i : v25.toInt = z + 1 := i_add e25 ez (by decide) (by omega) (by omega)
  have hq25 : v25 = v21 := e25.trans e21.symm
  refine va_sld hx hb K.hX K.hbl K.hbA hS (i_in e25i (by omega) (by omega)) dL_law_300 ?_
  rw [hq25]
  refine lv_aload_n hx hb dL_law_301 rfl (lv_at hl 3 rfl) ?_
  refine lv_iload_n hx hb dL_law_302 rfl (lv_at hl 0 rfl) ?_
  refine lv_iconst (v := 2) hx hb dL_law_303 rfl ?_
  refine lv_iadd hx hb dL_law_304 (lv_topi (fun v26 e26 => ?_))
  have e26i : v26.toInt = z + 2 := i_add e26 ez (by decide) (by omega) (by omega)
  have hq26 : v26 = v22 := e26.trans e22.symm
  refine va_sld hx hb K.hX K.hbl K.hbA hS (i_in e26i (by omega) (by omega)) dL_law_305 ?_
  rw [hq26]
  refine lv_aload_n hx hb dL_law_306 rfl (lv_at hl 3 rfl) ?_
  refine lv_iload_n hx hb dL_law_307 rfl (lv_at hl 0 rfl) ?_
  refine lv_iconst (v := 3) hx hb dL_law_308 rfl ?_
  refine lv_iadd hx hb dL_law_309 (lv_topi (fun v27 e27 => ?_))
  have e27i : v27.toInt = z + 3 := i_add e27 ez (by decide) (by omega) (by omega)
  have hq27 : v27 = v23 := e27.trans e23.symm
  refine va_sld hx hb K.hX K.hbl K.hbA hS (i_in e27i (by omega) (by omega)) dL_law_310 ?_
  rw [hq27]
  refine r_goI (r_runV (As := [.int (xs v21.toNatClampNeg), .int (xs v22.toNatClampNeg), .int (xs v23.toNatClampNeg)]) (rest := []) E hC hS (m_X12_tray l X Γ H24 hC m1 K.g2 (xs v21.toNatClampNeg) (a1 := ((xs v21.toNatClampNeg) : Int32).toInt) rfl (xs v22.toNatClampNeg) (a2 := ((xs v22.toNatClampNeg) : Int32).toInt) rfl (xs v23.toNatClampNeg) (a3 := ((xs v23.toNatClampNeg) : Int32).toInt) rfl ca K.gca K.uc tm ts K.gtm K.utm K.gts K.uts na K.gna K.una) lcw_X12_tray lcl_31 K.g2 ⟨rfl, rfl⟩ rfl hl.1 rfl (Nat.zero_le _) (by decide) (by decide) (by decide) (by decide) dL_law_311) hS (fun v28 H28 locs28 hp hC28 hS28 => ?_)
  obtain ⟨hp1, hp2b⟩ := hp
  have hMI : MI X H28 m1 ca := hMI.kp hC K.gca K.g2 hp1 rfl rfl rfl
  have hMR : mkI X H28 x1 = mmI X H28 m1 := (mk_kp hp1 K.g1 rfl).trans (hMR.trans (mm_kp hp1 K.g2 rfl).symm)
  have hFR : flI X H28 ra = tpdI X H28 m1 := (fl_kp hp1 K.gra rfl).trans (hFR.trans (tpd_kp hp1 K.g2 rfl).symm)
  have hSd := hSH; have hSH : SHP X Γ H28 x1 ta td nd := hSH.kpM K.g1 hp1 rfl
  have hTc2 : TSm X td H24 H28 := TSm.kp1 hp1 hSH rfl; have hNc2 : NSm (nC nd H24) (nC nd H28) := nC_kp1 hp1 hSH rfl
  have hpb := hp2b
  have hTN : TRl X td tm ts H28 ∧ NRl X td nd na H28 := by
    rcases hpa with ⟨a1, a2, a3, a4, a5, a6, -, w, w1⟩ | ⟨an, -, w, w1⟩ <;> rcases hpb with ⟨b1, b2, b3, b4, b5, b6, -, w2, w3⟩ | ⟨bn, -, w2, w3⟩
    · exact ⟨hTr0.set w hTm w2 hTc2, hNr0.tray w hTc2 w1 hNc2 hNm w3⟩
    · exact absurd bn (by omega)
    · exact absurd an (by omega)
    · exact ⟨hTr0.same2 w hTm w2 hTc2, hNr0.same (w.tr hTc2) (w1.tr hNc2) (hNm.tr w3)⟩
  obtain ⟨hTR, hNR⟩ := hTN
  have hMO := (kp_R hp1 K.g1 (ci := 10) (k := 13) rfl (by decide) rfl).trans hMO; have hWK := (kp_R hp1 K.g2 (ci := 11) (k := 29) rfl (by decide) rfl).trans hWK
  have hMc2 : MoK X H24 H28 mo := MoK.kp1 hp1 K.gmo rfl
  have hWRm := hWR; have hWR := hWR.same hMc2 (MmK.kp MmK.rf hp1 K.g2 K.gwk rfl)
  have hC := hC28; have hS := hS28
  refine lv_pop hx hb dL_law_314 rfl ?_
  refine lv_goto (tgt := 1667) hx hb dL_law_315 rfl ?_
  exact hk _ _ hC hS hMI hMR hFR hSH hTR hNR hMO hWK hWR
set_option maxRecDepth 100000 in
set_option maxHeartbeats 4000000 in
theorem law_4 (l : Launch) {p : Program} {e : Env} {s : State} {m : MethodId} {below : List Frame} {meth : Method} {c : Code} {X : xW} {Γ : Nat → Option Nat} {b L : Nat} {xs : Nat → Int32} {x1 m1 ca ka oa ra ta tm ts na mo wk : Nat} {td nd : Nat → Nat} (K : LK p s m meth c X Γ b L xs x1 m1 ca ka oa ra tm ts na mo wk) {H : Heap} {locs : List Loc} {ls : Array Slot} {Q : State → Prop} {i : Int32} {z : Int} (ez : i.toInt = z) (h0z : 0 ≤ z) (hzL : z + 6 ≤ L) (hC : Conf X Γ H) (hS : va_S (AΓ Γ) s.heap H locs) (hMI : MI X H m1 ca) (hMR : mkI X H x1 = mmI X H m1) (hFR : flI X H ra = tpdI X H m1) (hSH : SHP X Γ H x1 ta td nd) (hTR : TRl X td tm ts H) (hNR : NRl X td nd na H) (hMO : sR H x1 (X.1.2 10 13) = some mo) (hWK : sR H m1 (X.1.2 11 29) = some wk) (hWR : WRl X H mo m1 wk) (hl : lv_has ls 4 [(3, .int i), (2, .ref m1), (1, .ref x1), (0, .ref b)]) (hk : ∀ (H1 : Heap) (locs1 : List Loc), Conf X Γ H1 → va_S (AΓ Γ) s.heap H1 locs1 → MI X H1 m1 ca → mkI X H1 x1 = mmI X H1 m1 → flI X H1 ra = tpdI X H1 m1 → SHP X Γ H1 x1 ta td nd → TRl X td tm ts H1 → NRl X td nd na H1 → sR H1 x1 (X.1.2 10 13) = some mo → sR H1 m1 (X.1.2 11 29) = some wk → WRl X H1 mo m1 wk → W p l e room_1 s m #[Value.ref b] below meth c H1 locs1 147 13128 Q (F0 m 1667 ls [])) : W p l e room_1 s m #[Value.ref b] below meth c H locs 147 13128 Q (F0 m 318 ls []) := by
  have E := K.E; have hx := E.1; have hb := E.2.1; have hLl := K.hL
  refine lv_aload_n hx hb dL_law_318 rfl (lv_at hl 2 rfl) ?_
  refine lv_aload_n hx hb dL_law_319 rfl (lv_at hl 3 rfl) ?_
  refine lv_iload_n hx hb dL_law_320 rfl (lv_at hl 0 rfl) ?_
  refine lv_iconst (v := 1) hx hb dL_law_321 rfl ?_
  refine lv_iadd hx hb dL_law_322 (lv_topi (fun v21 e21 => ?_))
  have e21i : v21.toInt = z + 1 := i_add e21 ez (by decide) (by omega) (by omega)
  refine va_sld hx hb K.hX K.hbl K.hbA hS (i_in e21i (by omega) (by omega)) dL_law_323 ?_
  refine lv_aload_n hx hb dL_law_324 rfl (lv_at hl 3 rfl) ?_
  refine lv_iload_n hx hb dL_law_325 rfl (lv_at hl 0 rfl) ?_
  refine lv_iconst (v := 2) hx hb dL_law_326 rfl ?_
  refine lv_iadd hx hb dL_law_327 (lv_topi (fun v22 e22 => ?_))
  have e22i : v22.toInt = z + 2 := i_add e22 ez (by decide) (by omega) (by omega)
  refine va_sld hx hb K.hX K.hbl K.hbA hS (i_in e22i (by omega) (by omega)) dL_law_328 ?_
  refine lv_aload_n hx hb dL_law_329 rfl (lv_at hl 3 rfl) ?_
  refine lv_iload_n hx hb dL_law_330 rfl (lv_at hl 0 rfl) ?_
  refine lv_iconst (v := 3) hx hb dL_law_331 rfl ?_
  refine lv_iadd hx hb dL_law_332 (lv_topi (fun v23 e23 => ?_))
  have e23i : v23.toInt = z + 3 := i_add e23 ez (by decide) (by omega) (by omega)
  refine va_sld hx hb K.hX K.hbl K.hbA hS (i_in e23i (by omega) (by omega)) dL_law_333 ?_
  refine lv_i2l (v := ((xs v23.toNatClampNeg) : Int32).toInt64) hx hb dL_law_334 rfl (lv_topl (fun v24 e24 => ?_))
  refine lv_bipush (v := 32) hx hb dL_law_335 rfl ?_
  refine lv_lshl hx hb dL_law_337 rfl (lv_topl (fun v25 e25 => ?_))
  refine lv_aload_n hx hb dL_law_338 rfl (lv_at hl 3 rfl) ?_
  refine lv_iload_n hx hb dL_law_339 rfl (lv_at hl 0 rfl) ?_
  refine lv_iconst (v := 4) hx hb dL_law_340 rfl ?_
  refine lv_iadd hx hb dL_law_341 (lv_topi (fun v26 e26 => ?_))
  have e26i : v26.toInt = z + 4 := i_add e26 ez (by decide) (by omega) (by omega)
  refine va_sld hx hb K.hX K.hbl K.hbA hS (i_in e26i (by omega) (by omega)) dL_law_342 ?_
  refine lv_i2l (v := ((xs v26.toNatClampNeg) : Int32).toInt64) hx hb dL_law_343 rfl (lv_topl (fun v27 e27 => ?_))
  refine lv_ldc2 (v := 4294967295) hx hb E.2.2.2.1 (E.2.2.2.2.1 _ w_2000) dL_law_344 ?_
  refine lv_land hx hb dL_law_347 (lv_topl (fun v28 e28 => ?_))
  refine lv_lor hx hb dL_law_348 (lv_topl (fun v29 e29 => ?_))
  refine r_goI (r_runV (As := [.int (xs v21.toNatClampNeg), .int (xs v22.toNatClampNeg), .long v29]) (rest := []) E hC hS (m_X11_write l X Γ H hC x1 K.g1 (xs v21.toNatClampNeg) (a1 := ((xs v21.toNatClampNeg) : Int32).toInt) rfl (xs v22.toNatClampNeg) (a2 := ((xs v22.toNatClampNeg) : Int32).toInt) rfl v29 (a3 := (v29 : Int64).toInt) rfl ta td nd hSH) lcw_X11_write lcl_34 K.g1 ⟨rfl, rfl⟩ rfl hl.1 rfl (Nat.zero_le _) (by decide) (by decide) (by decide) (by decide) dL_law_349) hS (fun v30 H30 locs30 hp hC30 hS30 => ?_)
  obtain ⟨hp1, hp2a⟩ := hp
  have hMI : MI X H30 m1 ca := hMI.cl hC K.gca K.g2 hp1 rfl
  have hMR : mkI X H30 x1 = mmI X H30 m1 := (mk_kp hp1 K.g1 rfl).trans (hMR.trans (mm_kp hp1 K.g2 rfl).symm)
  have hFR : flI X H30 ra = tpdI X H30 m1 := (fl_kp hp1 K.gra rfl).trans (hFR.trans (tpd_kp hp1 K.g2 rfl).symm)
  have hSd := hSH; have hSH : SHP X Γ H30 x1 ta td nd := hSH.kp K.g1 hp1 rfl
  have hTr0 := hTR; have hNr0 := hNR; have hTm : TMm tm ts H H30 := TMm.kp0 hp1 K.gtm K.gts rfl; have hNm : NSm (nM na H) (nM na H30) := nM_kp0 hp1 K.gna rfl
  have hTc : TSm X td H H30 := TSm.kp TSm.rf hp1 hSH rfl; have hTR := hTR.same hTc hTm
  have hpa := hp2a; have hCA := hC
  have hMO := (kp_R hp1 K.g1 (ci := 10) (k := 13) rfl (by decide) rfl).trans hMO; have hWK := (kp_R hp1 K.g2 (ci := 11) (k := 29) rfl (by decide) rfl).trans hWK
  have hWR0 := hWR; have hMm : MmK X H H30 m1 wk := MmK.kp0 hp1 K.g2 K.gwk rfl
  have hMc : MoK X H H30 mo := MoK.kp MoK.rf hp1 K.gmo rfl; have hWR := hWR.same hMc hMm
  have hC := hC30; have hS := hS30
  refine lv_pop hx hb dL_law_352 rfl ?_
  refine lv_aload_n hx hb dL_law_353 rfl (lv_at hl 1 rfl) ?_
  refine lv_aload_n hx hb dL_law_354 rfl (lv_at hl 3 rfl) ?_
  refine lv_iload_n hx hb dL_law_355 rfl (lv_at hl 0 rfl) ?_
  refine lv_iconst (v := 1) hx hb dL_law_356 rfl ?_
  refine lv_iadd hx hb dL_law_357 (lv_topi (fun v31 e31 => ?_))
  have e31i : v31.toInt = z + 1 := i_add e31 ez (by decide) (by omega) (by omega)
  have hq31 : v31 = v21 := e31.trans e21.symm
  refine va_sld hx hb K.hX K.hbl K.hbA hS (i_in e31i (by omega) (by omega)) dL_law_358 ?_
  rw [hq31]
  refine lv_aload_n hx hb dL_law_359 rfl (lv_at hl 3 rfl) ?_
  refine lv_iload_n hx hb dL_law_360 rfl (lv_at hl 0 rfl) ?_
  refine lv_iconst (v := 2) hx hb dL_law_361 rfl ?_
  refine lv_iadd hx hb dL_law_362 (lv_topi (fun v32 e32 => ?_))
  have e32i : v32.toInt = z + 2 := i_add e32 ez (by decide) (by omega) (by omega)
  have hq32 : v32 = v22 := e32.trans e22.symm
  refine va_sld hx hb K.hX K.hbl K.hbA hS (i_in e32i (by omega) (by omega)) dL_law_363 ?_
  rw [hq32]
  refine lv_aload_n hx hb dL_law_364 rfl (lv_at hl 3 rfl) ?_
  refine lv_iload_n hx hb dL_law_365 rfl (lv_at hl 0 rfl) ?_
  refine lv_iconst (v := 3) hx hb dL_law_366 rfl ?_
  refine lv_iadd hx hb dL_law_367 (lv_topi (fun v33 e33 => ?_))
  have e33i : v33.toInt = z + 3 := i_add e33 ez (by decide) (by omega) (by omega)
  have hq33 : v33 = v23 := e33.trans e23.symm
  refine va_sld hx hb K.hX K.hbl K.hbA hS (i_in e33i (by omega) (by omega)) dL_law_368 ?_
  rw [hq33]
  refine lv_i2l (v := ((xs v23.toNatClampNeg) : Int32).toInt64) hx hb dL_law_369 rfl (lv_topl (fun v34 e34 => ?_))
  have hq34 : v34 = v24 := e34.trans e24.symm
  rw [hq34]
  refine lv_bipush (v := 32) hx hb dL_law_370 rfl ?_
  refine lv_lshl hx hb dL_law_372 rfl (lv_topl (fun v35 e35 => ?_))
  have hq35 : v35 = v25 := e35.trans e25.symm
  rw [hq35]
  refine lv_aload_n hx hb dL_law_373 rfl (lv_at hl 3 rfl) ?_
  refine lv_iload_n hx hb dL_law_374 rfl (lv_at hl 0 rfl) ?_
  refine lv_iconst (v := 4) hx hb dL_law_375 rfl ?_
  refine lv_iadd hx hb dL_law_376 (lv_topi (fun v36 e36 => ?_))
  have e36i : v36.toInt = z + 4 := i_add e36 ez (by decide) (by omega) (by omega)
  have hq36 : v36 = v26 := e36.trans e26.symm
  refine va_sld hx hb K.hX K.hbl K.hbA hS (i_in e36i (by omega) (by omega)) dL_law_377 ?_
  rw [hq36]
  refine lv_i2l (v := ((xs v26.toNatClampNeg) : Int32).toInt64) hx hb dL_law_378 rfl (lv_topl (fun v37 e37 => ?_))
  have hq37 : v37 = v27 := e37.trans e27.symm
  rw [hq37]
  refine lv_ldc2 (v := 4294967295) hx hb E.2.2.2.1 (E.2.2.2.2.1 _ w_2000) dL_law_379 ?_
  refine lv_land hx hb dL_law_382 (lv_topl (fun v38 e38 => ?_))
  have hq38 : v38 = v28 := e38.trans e28.symm
  rw [hq38]
  refine lv_lor hx hb dL_law_383 (lv_topl (fun v39 e39 => ?_))
  have hq39 : v39 = v29 := e39.trans e29.symm
  rw [hq39]
  refine r_goI (r_runV (As := [.int (xs v21.toNatClampNeg), .int (xs v22.toNatClampNeg), .long v29]) (rest := []) E hC hS (m_X12_write l X Γ H30 hC m1 K.g2 (xs v21.toNatClampNeg) (a1 := ((xs v21.toNatClampNeg) : Int32).toInt) rfl (xs v22.toNatClampNeg) (a2 := ((xs v22.toNatClampNeg) : Int32).toInt) rfl v29 (a3 := (v29 : Int64).toInt) rfl ca K.gca K.uc tm ts K.gtm K.utm K.gts K.uts na K.gna K.una) lcw_X12_write lcl_38 K.g2 ⟨rfl, rfl⟩ rfl hl.1 rfl (Nat.zero_le _) (by decide) (by decide) (by decide) (by decide) dL_law_384) hS (fun v40 H40 locs40 hp hC40 hS40 => ?_)
  obtain ⟨hp1, hp2b⟩ := hp
  have hMI : MI X H40 m1 ca := hMI.kp hC K.gca K.g2 hp1 rfl rfl rfl
  have hMR : mkI X H40 x1 = mmI X H40 m1 := (mk_kp hp1 K.g1 rfl).trans (hMR.trans (mm_kp hp1 K.g2 rfl).symm)
  have hFR : flI X H40 ra = tpdI X H40 m1 := (fl_kp hp1 K.gra rfl).trans (hFR.trans (tpd_kp hp1 K.g2 rfl).symm)
  have hSd := hSH; have hSH : SHP X Γ H40 x1 ta td nd := hSH.kpM K.g1 hp1 rfl
  have hTc2 : TSm X td H30 H40 := TSm.kp1 hp1 hSH rfl; have hNc2 : NSm (nC nd H30) (nC nd H40) := nC_kp1 hp1 hSH rfl
  have hTrm := hTR; have hTm2 : TMm tm ts H30 H40 := TMm.kp TMm.rf hp1 K.gtm K.gts rfl; have hTR := hTR.same hTc2 hTm2
  have hpb := hp2b
  have t1 := hTr0 (((xs v21.toNatClampNeg) : Int32).toInt).toNat; have w1 := hTm (((xs v21.toNatClampNeg) : Int32).toInt).toNat; have c91 := hTc (((xs v21.toNatClampNeg) : Int32).toInt).toNat
  have hNR : NRl X td nd na H40 := by
    clear hp2a hp2b
    rcases hpa with ⟨a1, a2, a3, a4, -, w⟩ | ⟨an, -, w⟩ <;> rcases hpb with ⟨b1, b2, b3, b4, -, y⟩ | ⟨bn, -, y⟩
    · exact hNr0.write (hTc.tr hTc2) w hNc2 hNm (by rw [show (sI H (td (((xs v21.toNatClampNeg) : Int32).toInt).toNat) (X.1.2 6 1)).toInt = (sI H30 ts (((xs v21.toNatClampNeg) : Int32).toInt).toNat).toInt from by omega]; exact y)
    · exact absurd bn (by omega)
    · exact absurd an (by omega)
    · exact hNr0.same (hTc.tr hTc2) (w.tr hNc2) (hNm.tr y)
  have hMO := (kp_R hp1 K.g1 (ci := 10) (k := 13) rfl (by decide) rfl).trans hMO; have hWK := (kp_R hp1 K.g2 (ci := 11) (k := 29) rfl (by decide) rfl).trans hWK
  have hMc2 : MoK X H30 H40 mo := MoK.kp1 hp1 K.gmo rfl
  have hWRm := hWR; have hWR := hWR.same hMc2 (MmK.kp MmK.rf hp1 K.g2 K.gwk rfl)
  have hC := hC40; have hS := hS40
  refine lv_pop hx hb dL_law_387 rfl ?_
  refine lv_goto (tgt := 1667) hx hb dL_law_388 rfl ?_
  exact hk _ _ hC hS hMI hMR hFR hSH hTR hNR hMO hWK hWR
set_option maxRecDepth 100000 in
set_option maxHeartbeats 4000000 in
theorem law_5 (l : Launch) {p : Program} {e : Env} {s : State} {m : MethodId} {below : List Frame} {meth : Method} {c : Code} {X : xW} {Γ : Nat → Option Nat} {b L : Nat} {xs : Nat → Int32} {x1 m1 ca ka oa ra ta tm ts na mo wk : Nat} {td nd : Nat → Nat} (K : LK p s m meth c X Γ b L xs x1 m1 ca ka oa ra tm ts na mo wk) {H : Heap} {locs : List Loc} {ls : Array Slot} {Q : State → Prop} {i : Int32} {z : Int} (ez : i.toInt = z) (h0z : 0 ≤ z) (hzL : z + 6 ≤ L) (hC : Conf X Γ H) (hS : va_S (AΓ Γ) s.heap H locs) (hMI : MI X H m1 ca) (hMR : mkI X H x1 = mmI X H m1) (hFR : flI X H ra = tpdI X H m1) (hSH : SHP X Γ H x1 ta td nd) (hTR : TRl X td tm ts H) (hNR : NRl X td nd na H) (hMO : sR H x1 (X.1.2 10 13) = some mo) (hWK : sR H m1 (X.1.2 11 29) = some wk) (hWR : WRl X H mo m1 wk) (hl : lv_has ls 4 [(3, .int i), (2, .ref m1), (1, .ref x1), (0, .ref b)]) (hk : ∀ (H1 : Heap) (locs1 : List Loc), Conf X Γ H1 → va_S (AΓ Γ) s.heap H1 locs1 → MI X H1 m1 ca → mkI X H1 x1 = mmI X H1 m1 → flI X H1 ra = tpdI X H1 m1 → SHP X Γ H1 x1 ta td nd → TRl X td tm ts H1 → NRl X td nd na H1 → sR H1 x1 (X.1.2 10 13) = some mo → sR H1 m1 (X.1.2 11 29) = some wk → WRl X H1 mo m1 wk → W p l e room_1 s m #[Value.ref b] below meth c H1 locs1 147 13128 Q (F0 m 1667 ls [])) : W p l e room_1 s m #[Value.ref b] below meth c H locs 147 13128 Q (F0 m 391 ls []) := by
  have E := K.E; have hx := E.1; have hb := E.2.1; have hLl := K.hL
  refine lv_aload_n hx hb dL_law_391 rfl (lv_at hl 2 rfl) ?_
  refine lv_aload_n hx hb dL_law_392 rfl (lv_at hl 3 rfl) ?_
  refine lv_iload_n hx hb dL_law_393 rfl (lv_at hl 0 rfl) ?_
  refine lv_iconst (v := 1) hx hb dL_law_394 rfl ?_
  refine lv_iadd hx hb dL_law_395 (lv_topi (fun v21 e21 => ?_))
  have e21i : v21.toInt = z + 1 := i_add e21 ez (by decide) (by omega) (by omega)
  refine va_sld hx hb K.hX K.hbl K.hbA hS (i_in e21i (by omega) (by omega)) dL_law_396 ?_
  refine lv_aload_n hx hb dL_law_397 rfl (lv_at hl 3 rfl) ?_
  refine lv_iload_n hx hb dL_law_398 rfl (lv_at hl 0 rfl) ?_
  refine lv_iconst (v := 2) hx hb dL_law_399 rfl ?_
  refine lv_iadd hx hb dL_law_400 (lv_topi (fun v22 e22 => ?_))
  have e22i : v22.toInt = z + 2 := i_add e22 ez (by decide) (by omega) (by omega)
  refine va_sld hx hb K.hX K.hbl K.hbA hS (i_in e22i (by omega) (by omega)) dL_law_401 ?_
  refine r_goJ (r_runV (As := [.int (xs v21.toNatClampNeg), .int (xs v22.toNatClampNeg)]) (rest := []) E hC hS (m_X11_read l X Γ H hC x1 K.g1 (xs v21.toNatClampNeg) (a1 := ((xs v21.toNatClampNeg) : Int32).toInt) rfl (xs v22.toNatClampNeg) (a2 := ((xs v22.toNatClampNeg) : Int32).toInt) rfl ta td nd hSH) lcw_X11_read lcl_39 K.g1 ⟨rfl, rfl⟩ rfl hl.1 rfl (Nat.zero_le _) (by decide) (by decide) (by decide) (by decide) dL_law_402) hS (fun v23 H23 locs23 hp hC23 hS23 => ?_)
  obtain ⟨hp1, hp2a⟩ := hp
  have hMI : MI X H23 m1 ca := hMI.cl hC K.gca K.g2 hp1 rfl
  have hMR : mkI X H23 x1 = mmI X H23 m1 := (mk_kp hp1 K.g1 rfl).trans (hMR.trans (mm_kp hp1 K.g2 rfl).symm)
  have hFR : flI X H23 ra = tpdI X H23 m1 := (fl_kp hp1 K.gra rfl).trans (hFR.trans (tpd_kp hp1 K.g2 rfl).symm)
  have hSd := hSH; have hSH : SHP X Γ H23 x1 ta td nd := hSH.kp K.g1 hp1 rfl
  have hTr0 := hTR; have hNr0 := hNR; have hTm : TMm tm ts H H23 := TMm.kp0 hp1 K.gtm K.gts rfl; have hNm : NSm (nM na H) (nM na H23) := nM_kp0 hp1 K.gna rfl
  have hTc : TSm X td H H23 := TSm.kp TSm.rf hp1 hSH rfl; have hTR := hTR.same hTc hTm
  have hNc : NSm (nC nd H) (nC nd H23) := nC_kp NSm.rf hp1 hSH rfl; have hNR := hNR.same hTc hNc hNm
  have hpa := hp2a; have hCA := hC
  have hMO := (kp_R hp1 K.g1 (ci := 10) (k := 13) rfl (by decide) rfl).trans hMO; have hWK := (kp_R hp1 K.g2 (ci := 11) (k := 29) rfl (by decide) rfl).trans hWK
  have hWR0 := hWR; have hMm : MmK X H H23 m1 wk := MmK.kp0 hp1 K.g2 K.gwk rfl
  have hMc : MoK X H H23 mo := MoK.kp MoK.rf hp1 K.gmo rfl; have hWR := hWR.same hMc hMm
  have hC := hC23; have hS := hS23
  refine lv_pop2_2 hx hb dL_law_405 rfl ?_
  refine lv_aload_n hx hb dL_law_406 rfl (lv_at hl 1 rfl) ?_
  refine lv_aload_n hx hb dL_law_407 rfl (lv_at hl 3 rfl) ?_
  refine lv_iload_n hx hb dL_law_408 rfl (lv_at hl 0 rfl) ?_
  refine lv_iconst (v := 1) hx hb dL_law_409 rfl ?_
  refine lv_iadd hx hb dL_law_410 (lv_topi (fun v24 e24 => ?_))
  have e24i : v24.toInt = z + 1 := i_add e24 ez (by decide) (by omega) (by omega)
  have hq24 : v24 = v21 := e24.trans e21.symm
  refine va_sld hx hb K.hX K.hbl K.hbA hS (i_in e24i (by omega) (by omega)) dL_law_411 ?_
  rw [hq24]
  refine lv_aload_n hx hb dL_law_412 rfl (lv_at hl 3 rfl) ?_
  refine lv_iload_n hx hb dL_law_413 rfl (lv_at hl 0 rfl) ?_
  refine lv_iconst (v := 2) hx hb dL_law_414 rfl ?_
  refine lv_iadd hx hb dL_law_415 (lv_topi (fun v25 e25 => ?_))
  have e25i : v25.toInt = z + 2 := i_add e25 ez (by decide) (by omega) (by omega)
  have hq25 : v25 = v22 := e25.trans e22.symm
  refine va_sld hx hb K.hX K.hbl K.hbA hS (i_in e25i (by omega) (by omega)) dL_law_416 ?_
  rw [hq25]
  refine r_goJ (r_runV (As := [.int (xs v21.toNatClampNeg), .int (xs v22.toNatClampNeg)]) (rest := []) E hC hS (m_X12_read l X Γ H23 hC m1 K.g2 (xs v21.toNatClampNeg) (a1 := ((xs v21.toNatClampNeg) : Int32).toInt) rfl (xs v22.toNatClampNeg) (a2 := ((xs v22.toNatClampNeg) : Int32).toInt) rfl ca K.gca K.uc tm ts K.gtm K.utm K.gts K.uts na K.gna K.una) lcw_X12_read lcl_43 K.g2 ⟨rfl, rfl⟩ rfl hl.1 rfl (Nat.zero_le _) (by decide) (by decide) (by decide) (by decide) dL_law_417) hS (fun v26 H26 locs26 hp hC26 hS26 => ?_)
  obtain ⟨hp1, hp2b⟩ := hp
  have hMI : MI X H26 m1 ca := hMI.kp hC K.gca K.g2 hp1 rfl rfl rfl
  have hMR : mkI X H26 x1 = mmI X H26 m1 := (mk_kp hp1 K.g1 rfl).trans (hMR.trans (mm_kp hp1 K.g2 rfl).symm)
  have hFR : flI X H26 ra = tpdI X H26 m1 := (fl_kp hp1 K.gra rfl).trans (hFR.trans (tpd_kp hp1 K.g2 rfl).symm)
  have hSd := hSH; have hSH : SHP X Γ H26 x1 ta td nd := hSH.kpM K.g1 hp1 rfl
  have hTc2 : TSm X td H23 H26 := TSm.kp1 hp1 hSH rfl; have hNc2 : NSm (nC nd H23) (nC nd H26) := nC_kp1 hp1 hSH rfl
  have hTrm := hTR; have hTm2 : TMm tm ts H23 H26 := TMm.kp TMm.rf hp1 K.gtm K.gts rfl; have hTR := hTR.same hTc2 hTm2
  have hpb := hp2b
  have hNm2 : NSm (nM na H23) (nM na H26) := nM_kp NSm.rf hp1 K.gna rfl; have hNrm := hNR; have hNR := hNR.same hTc2 hNc2 hNm2
  have hMO := (kp_R hp1 K.g1 (ci := 10) (k := 13) rfl (by decide) rfl).trans hMO; have hWK := (kp_R hp1 K.g2 (ci := 11) (k := 29) rfl (by decide) rfl).trans hWK
  have hMc2 : MoK X H23 H26 mo := MoK.kp1 hp1 K.gmo rfl
  have hWRm := hWR; have hWR := hWR.same hMc2 (MmK.kp MmK.rf hp1 K.g2 K.gwk rfl)
  have hC := hC26; have hS := hS26
  refine lv_pop2_2 hx hb dL_law_420 rfl ?_
  refine lv_goto (tgt := 1667) hx hb dL_law_421 rfl ?_
  exact hk _ _ hC hS hMI hMR hFR hSH hTR hNR hMO hWK hWR
set_option maxRecDepth 100000 in
set_option maxHeartbeats 4000000 in
theorem law_6 (l : Launch) {p : Program} {e : Env} {s : State} {m : MethodId} {below : List Frame} {meth : Method} {c : Code} {X : xW} {Γ : Nat → Option Nat} {b L : Nat} {xs : Nat → Int32} {x1 m1 ca ka oa ra ta tm ts na mo wk : Nat} {td nd : Nat → Nat} (K : LK p s m meth c X Γ b L xs x1 m1 ca ka oa ra tm ts na mo wk) {H : Heap} {locs : List Loc} {ls : Array Slot} {Q : State → Prop} {i : Int32} {z : Int} (ez : i.toInt = z) (h0z : 0 ≤ z) (hzL : z + 6 ≤ L) (hC : Conf X Γ H) (hS : va_S (AΓ Γ) s.heap H locs) (hMI : MI X H m1 ca) (hMR : mkI X H x1 = mmI X H m1) (hFR : flI X H ra = tpdI X H m1) (hSH : SHP X Γ H x1 ta td nd) (hTR : TRl X td tm ts H) (hNR : NRl X td nd na H) (hMO : sR H x1 (X.1.2 10 13) = some mo) (hWK : sR H m1 (X.1.2 11 29) = some wk) (hWR : WRl X H mo m1 wk) (hl : lv_has ls 4 [(3, .int i), (2, .ref m1), (1, .ref x1), (0, .ref b)]) (hk : ∀ (H1 : Heap) (locs1 : List Loc), Conf X Γ H1 → va_S (AΓ Γ) s.heap H1 locs1 → MI X H1 m1 ca → mkI X H1 x1 = mmI X H1 m1 → flI X H1 ra = tpdI X H1 m1 → SHP X Γ H1 x1 ta td nd → TRl X td tm ts H1 → NRl X td nd na H1 → sR H1 x1 (X.1.2 10 13) = some mo → sR H1 m1 (X.1.2 11 29) = some wk → WRl X H1 mo m1 wk → W p l e room_1 s m #[Value.ref b] below meth c H1 locs1 147 13128 Q (F0 m 1667 ls [])) : W p l e room_1 s m #[Value.ref b] below meth c H locs 147 13128 Q (F0 m 424 ls []) := by
  have E := K.E; have hx := E.1; have hb := E.2.1; have hLl := K.hL
  refine lv_aload_n hx hb dL_law_424 rfl (lv_at hl 2 rfl) ?_
  refine lv_aload_n hx hb dL_law_425 rfl (lv_at hl 3 rfl) ?_
  refine lv_iload_n hx hb dL_law_426 rfl (lv_at hl 0 rfl) ?_
  refine lv_iconst (v := 1) hx hb dL_law_427 rfl ?_
  refine lv_iadd hx hb dL_law_428 (lv_topi (fun v21 e21 => ?_))
  have e21i : v21.toInt = z + 1 := i_add e21 ez (by decide) (by omega) (by omega)
  refine va_sld hx hb K.hX K.hbl K.hbA hS (i_in e21i (by omega) (by omega)) dL_law_429 ?_
  refine lv_aload_n hx hb dL_law_430 rfl (lv_at hl 3 rfl) ?_
  refine lv_iload_n hx hb dL_law_431 rfl (lv_at hl 0 rfl) ?_
  refine lv_iconst (v := 2) hx hb dL_law_432 rfl ?_
  refine lv_iadd hx hb dL_law_433 (lv_topi (fun v22 e22 => ?_))
  have e22i : v22.toInt = z + 2 := i_add e22 ez (by decide) (by omega) (by omega)
  refine va_sld hx hb K.hX K.hbl K.hbA hS (i_in e22i (by omega) (by omega)) dL_law_434 ?_
  refine lv_aload_n hx hb dL_law_435 rfl (lv_at hl 3 rfl) ?_
  refine lv_iload_n hx hb dL_law_436 rfl (lv_at hl 0 rfl) ?_
  refine lv_iconst (v := 3) hx hb dL_law_437 rfl ?_
  refine lv_iadd hx hb dL_law_438 (lv_topi (fun v23 e23 => ?_))
  have e23i : v23.toInt = z + 3 := i_add e23 ez (by decide) (by omega) (by omega)
  refine va_sld hx hb K.hX K.hbl K.hbA hS (i_in e23i (by omega) (by omega)) dL_law_439 ?_
  refine lv_aload_n hx hb dL_law_440 rfl (lv_at hl 3 rfl) ?_
  refine lv_iload_n hx hb dL_law_441 rfl (lv_at hl 0 rfl) ?_
  refine lv_iconst (v := 4) hx hb dL_law_442 rfl ?_
  refine lv_iadd hx hb dL_law_443 (lv_topi (fun v24 e24 => ?_))
  have e24i : v24.toInt = z + 4 := i_add e24 ez (by decide) (by omega) (by omega)
  refine va_sld hx hb K.hX K.hbl K.hbA hS (i_in e24i (by omega) (by omega)) dL_law_444 ?_
  refine lv_aload_n hx hb dL_law_445 rfl (lv_at hl 3 rfl) ?_
  refine lv_iload_n hx hb dL_law_446 rfl (lv_at hl 0 rfl) ?_
  refine lv_iconst (v := 5) hx hb dL_law_447 rfl ?_
  refine lv_iadd hx hb dL_law_448 (lv_topi (fun v25 e25 => ?_))
  have e25i : v25.toInt = z + 5 := i_add e25 ez (by decide) (by omega) (by omega)
  refine va_sld hx hb K.hX K.hbl K.hbA hS (i_in e25i (by omega) (by omega)) dL_law_449 ?_
  refine r_goI (r_runV (As := [.int (xs v21.toNatClampNeg), .int (xs v22.toNatClampNeg), .int (xs v23.toNatClampNeg), .int (xs v24.toNatClampNeg), .int (xs v25.toNatClampNeg)]) (rest := []) E hC hS (m_X11_pour l X Γ H hC x1 K.g1 (xs v21.toNatClampNeg) (a1 := ((xs v21.toNatClampNeg) : Int32).toInt) rfl (xs v22.toNatClampNeg) (a2 := ((xs v22.toNatClampNeg) : Int32).toInt) rfl (xs v23.toNatClampNeg) (a3 := ((xs v23.toNatClampNeg) : Int32).toInt) rfl (xs v24.toNatClampNeg) (a4 := ((xs v24.toNatClampNeg) : Int32).toInt) rfl (xs v25.toNatClampNeg) (a5 := ((xs v25.toNatClampNeg) : Int32).toInt) rfl ta td nd hSH) lcw_X11_pour lcl_44 K.g1 ⟨rfl, rfl⟩ rfl hl.1 rfl (Nat.zero_le _) (by decide) (by decide) (by decide) (by decide) dL_law_450) hS (fun v26 H26 locs26 hp hC26 hS26 => ?_)
  obtain ⟨hp1, hp2a⟩ := hp
  have hMI : MI X H26 m1 ca := hMI.cl hC K.gca K.g2 hp1 rfl
  have hMR : mkI X H26 x1 = mmI X H26 m1 := (mk_kp hp1 K.g1 rfl).trans (hMR.trans (mm_kp hp1 K.g2 rfl).symm)
  have hFR : flI X H26 ra = tpdI X H26 m1 := (fl_kp hp1 K.gra rfl).trans (hFR.trans (tpd_kp hp1 K.g2 rfl).symm)
  have hSd := hSH; have hSH : SHP X Γ H26 x1 ta td nd := hSH.kp K.g1 hp1 rfl
  have hTr0 := hTR; have hNr0 := hNR; have hTm : TMm tm ts H H26 := TMm.kp0 hp1 K.gtm K.gts rfl; have hNm : NSm (nM na H) (nM na H26) := nM_kp0 hp1 K.gna rfl
  have hTc : TSm X td H H26 := TSm.kp TSm.rf hp1 hSH rfl; have hTR := hTR.same hTc hTm
  have hpa := hp2a; have hCA := hC
  have hMO := (kp_R hp1 K.g1 (ci := 10) (k := 13) rfl (by decide) rfl).trans hMO; have hWK := (kp_R hp1 K.g2 (ci := 11) (k := 29) rfl (by decide) rfl).trans hWK
  have hWR0 := hWR; have hMm : MmK X H H26 m1 wk := MmK.kp0 hp1 K.g2 K.gwk rfl
  have hMc : MoK X H H26 mo := MoK.kp MoK.rf hp1 K.gmo rfl; have hWR := hWR.same hMc hMm
  have hC := hC26; have hS := hS26
  refine lv_pop hx hb dL_law_453 rfl ?_
  refine lv_aload_n hx hb dL_law_454 rfl (lv_at hl 1 rfl) ?_
  refine lv_aload_n hx hb dL_law_455 rfl (lv_at hl 3 rfl) ?_
  refine lv_iload_n hx hb dL_law_456 rfl (lv_at hl 0 rfl) ?_
  refine lv_iconst (v := 1) hx hb dL_law_457 rfl ?_
  refine lv_iadd hx hb dL_law_458 (lv_topi (fun v27 e27 => ?_))
  have e27i : v27.toInt = z + 1 := i_add e27 ez (by decide) (by omega) (by omega)
  have hq27 : v27 = v21 := e27.trans e21.symm
  refine va_sld hx hb K.hX K.hbl K.hbA hS (i_in e27i (by omega) (by omega)) dL_law_459 ?_
  rw [hq27]
  refine lv_aload_n hx hb dL_law_460 rfl (lv_at hl 3 rfl) ?_
  refine lv_iload_n hx hb dL_law_461 rfl (lv_at hl 0 rfl) ?_
  refine lv_iconst (v := 2) hx hb dL_law_462 rfl ?_
  refine lv_iadd hx hb dL_law_463 (lv_topi (fun v28 e28 => ?_))
  have e28i : v28.toInt = z + 2 := i_add e28 ez (by decide) (by omega) (by omega)
  have hq28 : v28 = v22 := e28.trans e22.symm
  refine va_sld hx hb K.hX K.hbl K.hbA hS (i_in e28i (by omega) (by omega)) dL_law_464 ?_
  rw [hq28]
  refine lv_aload_n hx hb dL_law_465 rfl (lv_at hl 3 rfl) ?_
  refine lv_iload_n hx hb dL_law_466 rfl (lv_at hl 0 rfl) ?_
  refine lv_iconst (v := 3) hx hb dL_law_467 rfl ?_
  refine lv_iadd hx hb dL_law_468 (lv_topi (fun v29 e29 => ?_))
  have e29i : v29.toInt = z + 3 := i_add e29 ez (by decide) (by omega) (by omega)
  have hq29 : v29 = v23 := e29.trans e23.symm
  refine va_sld hx hb K.hX K.hbl K.hbA hS (i_in e29i (by omega) (by omega)) dL_law_469 ?_
  rw [hq29]
  refine lv_aload_n hx hb dL_law_470 rfl (lv_at hl 3 rfl) ?_
  refine lv_iload_n hx hb dL_law_471 rfl (lv_at hl 0 rfl) ?_
  refine lv_iconst (v := 4) hx hb dL_law_472 rfl ?_
  refine lv_iadd hx hb dL_law_473 (lv_topi (fun v30 e30 => ?_))
  have e30i : v30.toInt = z + 4 := i_add e30 ez (by decide) (by omega) (by omega)
  have hq30 : v30 = v24 := e30.trans e24.symm
  refine va_sld hx hb K.hX K.hbl K.hbA hS (i_in e30i (by omega) (by omega)) dL_law_474 ?_
  rw [hq30]
  refine lv_aload_n hx hb dL_law_475 rfl (lv_at hl 3 rfl) ?_
  refine lv_iload_n hx hb dL_law_476 rfl (lv_at hl 0 rfl) ?_
  refine lv_iconst (v := 5) hx hb dL_law_477 rfl ?_
  refine lv_iadd hx hb dL_law_478 (lv_topi (fun v31 e31 => ?_))
  have e31i : v31.toInt = z + 5 := i_add e31 ez (by decide) (by omega) (by omega)
  have hq31 : v31 = v25 := e31.trans e25.symm
  refine va_sld hx hb K.hX K.hbl K.hbA hS (i_in e31i (by omega) (by omega)) dL_law_479 ?_
  rw [hq31]
  refine r_goI (r_runV (As := [.int (xs v21.toNatClampNeg), .int (xs v22.toNatClampNeg), .int (xs v23.toNatClampNeg), .int (xs v24.toNatClampNeg), .int (xs v25.toNatClampNeg)]) (rest := []) E hC hS (m_X12_pour l X Γ H26 hC m1 K.g2 (xs v21.toNatClampNeg) (a1 := ((xs v21.toNatClampNeg) : Int32).toInt) rfl (xs v22.toNatClampNeg) (a2 := ((xs v22.toNatClampNeg) : Int32).toInt) rfl (xs v23.toNatClampNeg) (a3 := ((xs v23.toNatClampNeg) : Int32).toInt) rfl (xs v24.toNatClampNeg) (a4 := ((xs v24.toNatClampNeg) : Int32).toInt) rfl (xs v25.toNatClampNeg) (a5 := ((xs v25.toNatClampNeg) : Int32).toInt) rfl ca K.gca K.uc tm ts K.gtm K.utm K.gts K.uts na K.gna K.una) lcw_X12_pour lcl_48 K.g2 ⟨rfl, rfl⟩ rfl hl.1 rfl (Nat.zero_le _) (by decide) (by decide) (by decide) (by decide) dL_law_480) hS (fun v32 H32 locs32 hp hC32 hS32 => ?_)
  obtain ⟨hp1, hp2b⟩ := hp
  have hMI : MI X H32 m1 ca := hMI.kp hC K.gca K.g2 hp1 rfl rfl rfl
  have hMR : mkI X H32 x1 = mmI X H32 m1 := (mk_kp hp1 K.g1 rfl).trans (hMR.trans (mm_kp hp1 K.g2 rfl).symm)
  have hFR : flI X H32 ra = tpdI X H32 m1 := (fl_kp hp1 K.gra rfl).trans (hFR.trans (tpd_kp hp1 K.g2 rfl).symm)
  have hSd := hSH; have hSH : SHP X Γ H32 x1 ta td nd := hSH.kpM K.g1 hp1 rfl
  have hTc2 : TSm X td H26 H32 := TSm.kp1 hp1 hSH rfl; have hNc2 : NSm (nC nd H26) (nC nd H32) := nC_kp1 hp1 hSH rfl
  have hTrm := hTR; have hTm2 : TMm tm ts H26 H32 := TMm.kp TMm.rf hp1 K.gtm K.gts rfl; have hTR := hTR.same hTc2 hTm2
  have hpb := hp2b
  have t1 := hTr0 (((xs v21.toNatClampNeg) : Int32).toInt).toNat; have w1 := hTm (((xs v21.toNatClampNeg) : Int32).toInt).toNat; have c91 := hTc (((xs v21.toNatClampNeg) : Int32).toInt).toNat
  have t3 := hTr0 (((xs v23.toNatClampNeg) : Int32).toInt).toNat; have w3 := hTm (((xs v23.toNatClampNeg) : Int32).toInt).toNat; have c93 := hTc (((xs v23.toNatClampNeg) : Int32).toInt).toNat
  have hNR : NRl X td nd na H32 := by
    clear hp2a hp2b
    rcases hpa with ⟨a1, a2, a3, a4, a5, a6, a7, a8, a9, a10, a11, a12, -, w⟩ | ⟨an, -, w⟩ <;> rcases hpb with ⟨b1, b2, b3, b4, b5, b6, b7, b8, b9, b10, b11, b12, -, y⟩ | ⟨bn, -, y⟩
    · exact hNr0.pour (hTc.tr hTc2) w hNc2 hNm y a1 a2 a9 a10 a8 (f_bd hCA ((hSH.2.2.1 (((xs v21.toNatClampNeg) : Int32).toInt).toNat (by omega)).2) (ci := 6) (k := 2) rfl rfl).2
    · exact absurd bn (by omega)
    · exact absurd an (by omega)
    · exact hNr0.same (hTc.tr hTc2) (w.tr hNc2) (hNm.tr y)
  have hMO := (kp_R hp1 K.g1 (ci := 10) (k := 13) rfl (by decide) rfl).trans hMO; have hWK := (kp_R hp1 K.g2 (ci := 11) (k := 29) rfl (by decide) rfl).trans hWK
  have hMc2 : MoK X H26 H32 mo := MoK.kp1 hp1 K.gmo rfl
  have hWRm := hWR; have hWR := hWR.same hMc2 (MmK.kp MmK.rf hp1 K.g2 K.gwk rfl)
  have hC := hC32; have hS := hS32
  refine lv_pop hx hb dL_law_483 rfl ?_
  refine lv_goto (tgt := 1667) hx hb dL_law_484 rfl ?_
  exact hk _ _ hC hS hMI hMR hFR hSH hTR hNR hMO hWK hWR
set_option maxRecDepth 100000 in
set_option maxHeartbeats 4000000 in
theorem law_7 (l : Launch) {p : Program} {e : Env} {s : State} {m : MethodId} {below : List Frame} {meth : Method} {c : Code} {X : xW} {Γ : Nat → Option Nat} {b L : Nat} {xs : Nat → Int32} {x1 m1 ca ka oa ra ta tm ts na mo wk : Nat} {td nd : Nat → Nat} (K : LK p s m meth c X Γ b L xs x1 m1 ca ka oa ra tm ts na mo wk) {H : Heap} {locs : List Loc} {ls : Array Slot} {Q : State → Prop} {i : Int32} {z : Int} (ez : i.toInt = z) (h0z : 0 ≤ z) (hzL : z + 6 ≤ L) (hC : Conf X Γ H) (hS : va_S (AΓ Γ) s.heap H locs) (hMI : MI X H m1 ca) (hMR : mkI X H x1 = mmI X H m1) (hFR : flI X H ra = tpdI X H m1) (hSH : SHP X Γ H x1 ta td nd) (hTR : TRl X td tm ts H) (hNR : NRl X td nd na H) (hMO : sR H x1 (X.1.2 10 13) = some mo) (hWK : sR H m1 (X.1.2 11 29) = some wk) (hWR : WRl X H mo m1 wk) (hl : lv_has ls 4 [(3, .int i), (2, .ref m1), (1, .ref x1), (0, .ref b)]) (hk : ∀ (H1 : Heap) (locs1 : List Loc), Conf X Γ H1 → va_S (AΓ Γ) s.heap H1 locs1 → MI X H1 m1 ca → mkI X H1 x1 = mmI X H1 m1 → flI X H1 ra = tpdI X H1 m1 → SHP X Γ H1 x1 ta td nd → TRl X td tm ts H1 → NRl X td nd na H1 → sR H1 x1 (X.1.2 10 13) = some mo → sR H1 m1 (X.1.2 11 29) = some wk → WRl X H1 mo m1 wk → W p l e room_1 s m #[Value.ref b] below meth c H1 locs1 147 13128 Q (F0 m 1667 ls [])) : W p l e room_1 s m #[Value.ref b] below meth c H locs 147 13128 Q (F0 m 487 ls []) := by
  have E := K.E; have hx := E.1; have hb := E.2.1; have hLl := K.hL
  refine lv_aload_n hx hb dL_law_487 rfl (lv_at hl 2 rfl) ?_
  refine lv_aload_n hx hb dL_law_488 rfl (lv_at hl 3 rfl) ?_
  refine lv_iload_n hx hb dL_law_489 rfl (lv_at hl 0 rfl) ?_
  refine lv_iconst (v := 1) hx hb dL_law_490 rfl ?_
  refine lv_iadd hx hb dL_law_491 (lv_topi (fun v21 e21 => ?_))
  have e21i : v21.toInt = z + 1 := i_add e21 ez (by decide) (by omega) (by omega)
  refine va_sld hx hb K.hX K.hbl K.hbA hS (i_in e21i (by omega) (by omega)) dL_law_492 ?_
  refine lv_aload_n hx hb dL_law_493 rfl (lv_at hl 3 rfl) ?_
  refine lv_iload_n hx hb dL_law_494 rfl (lv_at hl 0 rfl) ?_
  refine lv_iconst (v := 2) hx hb dL_law_495 rfl ?_
  refine lv_iadd hx hb dL_law_496 (lv_topi (fun v22 e22 => ?_))
  have e22i : v22.toInt = z + 2 := i_add e22 ez (by decide) (by omega) (by omega)
  refine va_sld hx hb K.hX K.hbl K.hbA hS (i_in e22i (by omega) (by omega)) dL_law_497 ?_
  refine lv_aload_n hx hb dL_law_498 rfl (lv_at hl 3 rfl) ?_
  refine lv_iload_n hx hb dL_law_499 rfl (lv_at hl 0 rfl) ?_
  refine lv_iconst (v := 3) hx hb dL_law_500 rfl ?_
  refine lv_iadd hx hb dL_law_501 (lv_topi (fun v23 e23 => ?_))
  have e23i : v23.toInt = z + 3 := i_add e23 ez (by decide) (by omega) (by omega)
  refine va_sld hx hb K.hX K.hbl K.hbA hS (i_in e23i (by omega) (by omega)) dL_law_502 ?_
  refine lv_aload_n hx hb dL_law_503 rfl (lv_at hl 3 rfl) ?_
  refine lv_iload_n hx hb dL_law_504 rfl (lv_at hl 0 rfl) ?_
  refine lv_iconst (v := 4) hx hb dL_law_505 rfl ?_
  refine lv_iadd hx hb dL_law_506 (lv_topi (fun v24 e24 => ?_))
  have e24i : v24.toInt = z + 4 := i_add e24 ez (by decide) (by omega) (by omega)
  refine va_sld hx hb K.hX K.hbl K.hbA hS (i_in e24i (by omega) (by omega)) dL_law_507 ?_
  refine lv_aload_n hx hb dL_law_508 rfl (lv_at hl 3 rfl) ?_
  refine lv_iload_n hx hb dL_law_509 rfl (lv_at hl 0 rfl) ?_
  refine lv_iconst (v := 5) hx hb dL_law_510 rfl ?_
  refine lv_iadd hx hb dL_law_511 (lv_topi (fun v25 e25 => ?_))
  have e25i : v25.toInt = z + 5 := i_add e25 ez (by decide) (by omega) (by omega)
  refine va_sld hx hb K.hX K.hbl K.hbA hS (i_in e25i (by omega) (by omega)) dL_law_512 ?_
  refine r_goI (r_runV (As := [.int (xs v21.toNatClampNeg), .int (xs v22.toNatClampNeg), .int (xs v23.toNatClampNeg), .int (xs v24.toNatClampNeg), .int (xs v25.toNatClampNeg)]) (rest := []) E hC hS (m_X11_feed l X Γ H hC x1 K.g1 (xs v21.toNatClampNeg) (a1 := ((xs v21.toNatClampNeg) : Int32).toInt) rfl (xs v22.toNatClampNeg) (a2 := ((xs v22.toNatClampNeg) : Int32).toInt) rfl (xs v23.toNatClampNeg) (a3 := ((xs v23.toNatClampNeg) : Int32).toInt) rfl (xs v24.toNatClampNeg) (a4 := ((xs v24.toNatClampNeg) : Int32).toInt) rfl (xs v25.toNatClampNeg) (a5 := ((xs v25.toNatClampNeg) : Int32).toInt) rfl ra K.gra K.ur) lcw_X11_feed lcl_49 K.g1 ⟨rfl, rfl⟩ rfl hl.1 rfl (Nat.zero_le _) (by decide) (by decide) (by decide) (by decide) dL_law_513) hS (fun v26 H26 locs26 hp hC26 hS26 => ?_)
  obtain ⟨hp1, hp2a⟩ := hp
  have hMI : MI X H26 m1 ca := hMI.cl hC K.gca K.g2 hp1 rfl
  have hMR : mkI X H26 x1 = mmI X H26 m1 := (mk_kp hp1 K.g1 rfl).trans (hMR.trans (mm_kp hp1 K.g2 rfl).symm)
  have hF0 := hFR; have hB1 := tpd_kp hp1 K.g2 rfl; have hp9 := hp2a
  have hSd := hSH; have hSH : SHP X Γ H26 x1 ta td nd := hSH.kp K.g1 hp1 rfl
  have hTr0 := hTR; have hNr0 := hNR; have hTm : TMm tm ts H H26 := TMm.kp0 hp1 K.gtm K.gts rfl; have hNm : NSm (nM na H) (nM na H26) := nM_kp0 hp1 K.gna rfl
  have hTc : TSm X td H H26 := TSm.kp TSm.rf hp1 hSH rfl; have hTR := hTR.same hTc hTm
  have hNc : NSm (nC nd H) (nC nd H26) := nC_kp NSm.rf hp1 hSH rfl; have hNR := hNR.same hTc hNc hNm
  have hpa := hp2a; have hCA := hC
  have hMO := (kp_R hp1 K.g1 (ci := 10) (k := 13) rfl (by decide) rfl).trans hMO; have hWK := (kp_R hp1 K.g2 (ci := 11) (k := 29) rfl (by decide) rfl).trans hWK
  have hWR0 := hWR; have hMm : MmK X H H26 m1 wk := MmK.kp0 hp1 K.g2 K.gwk rfl
  have hMc : MoK X H H26 mo := MoK.kp MoK.rf hp1 K.gmo rfl; have hWR := hWR.same hMc hMm
  have hC := hC26; have hS := hS26
  refine lv_pop hx hb dL_law_516 rfl ?_
  refine lv_aload_n hx hb dL_law_517 rfl (lv_at hl 1 rfl) ?_
  refine lv_aload_n hx hb dL_law_518 rfl (lv_at hl 3 rfl) ?_
  refine lv_iload_n hx hb dL_law_519 rfl (lv_at hl 0 rfl) ?_
  refine lv_iconst (v := 1) hx hb dL_law_520 rfl ?_
  refine lv_iadd hx hb dL_law_521 (lv_topi (fun v27 e27 => ?_))
  have e27i : v27.toInt = z + 1 := i_add e27 ez (by decide) (by omega) (by omega)
  have hq27 : v27 = v21 := e27.trans e21.symm
  refine va_sld hx hb K.hX K.hbl K.hbA hS (i_in e27i (by omega) (by omega)) dL_law_522 ?_
  rw [hq27]
  refine lv_aload_n hx hb dL_law_523 rfl (lv_at hl 3 rfl) ?_
  refine lv_iload_n hx hb dL_law_524 rfl (lv_at hl 0 rfl) ?_
  refine lv_iconst (v := 2) hx hb dL_law_525 rfl ?_
  refine lv_iadd hx hb dL_law_526 (lv_topi (fun v28 e28 => ?_))
  have e28i : v28.toInt = z + 2 := i_add e28 ez (by decide) (by omega) (by omega)
  have hq28 : v28 = v22 := e28.trans e22.symm
  refine va_sld hx hb K.hX K.hbl K.hbA hS (i_in e28i (by omega) (by omega)) dL_law_527 ?_
  rw [hq28]
  refine lv_aload_n hx hb dL_law_528 rfl (lv_at hl 3 rfl) ?_
  refine lv_iload_n hx hb dL_law_529 rfl (lv_at hl 0 rfl) ?_
  refine lv_iconst (v := 3) hx hb dL_law_530 rfl ?_
  refine lv_iadd hx hb dL_law_531 (lv_topi (fun v29 e29 => ?_))
  have e29i : v29.toInt = z + 3 := i_add e29 ez (by decide) (by omega) (by omega)
  have hq29 : v29 = v23 := e29.trans e23.symm
  refine va_sld hx hb K.hX K.hbl K.hbA hS (i_in e29i (by omega) (by omega)) dL_law_532 ?_
  rw [hq29]
  refine lv_aload_n hx hb dL_law_533 rfl (lv_at hl 3 rfl) ?_
  refine lv_iload_n hx hb dL_law_534 rfl (lv_at hl 0 rfl) ?_
  refine lv_iconst (v := 4) hx hb dL_law_535 rfl ?_
  refine lv_iadd hx hb dL_law_536 (lv_topi (fun v30 e30 => ?_))
  have e30i : v30.toInt = z + 4 := i_add e30 ez (by decide) (by omega) (by omega)
  have hq30 : v30 = v24 := e30.trans e24.symm
  refine va_sld hx hb K.hX K.hbl K.hbA hS (i_in e30i (by omega) (by omega)) dL_law_537 ?_
  rw [hq30]
  refine lv_aload_n hx hb dL_law_538 rfl (lv_at hl 3 rfl) ?_
  refine lv_iload_n hx hb dL_law_539 rfl (lv_at hl 0 rfl) ?_
  refine lv_iconst (v := 5) hx hb dL_law_540 rfl ?_
  refine lv_iadd hx hb dL_law_541 (lv_topi (fun v31 e31 => ?_))
  have e31i : v31.toInt = z + 5 := i_add e31 ez (by decide) (by omega) (by omega)
  have hq31 : v31 = v25 := e31.trans e25.symm
  refine va_sld hx hb K.hX K.hbl K.hbA hS (i_in e31i (by omega) (by omega)) dL_law_542 ?_
  rw [hq31]
  refine r_goI (r_runV (As := [.int (xs v21.toNatClampNeg), .int (xs v22.toNatClampNeg), .int (xs v23.toNatClampNeg), .int (xs v24.toNatClampNeg), .int (xs v25.toNatClampNeg)]) (rest := []) E hC hS (m_X12_feed l X Γ H26 hC m1 K.g2 (xs v21.toNatClampNeg) (a1 := ((xs v21.toNatClampNeg) : Int32).toInt) rfl (xs v22.toNatClampNeg) (a2 := ((xs v22.toNatClampNeg) : Int32).toInt) rfl (xs v23.toNatClampNeg) (a3 := ((xs v23.toNatClampNeg) : Int32).toInt) rfl (xs v24.toNatClampNeg) (a4 := ((xs v24.toNatClampNeg) : Int32).toInt) rfl (xs v25.toNatClampNeg) (a5 := ((xs v25.toNatClampNeg) : Int32).toInt) rfl ca K.gca K.uc) lcw_X12_feed lcl_53 K.g2 ⟨rfl, rfl⟩ rfl hl.1 rfl (Nat.zero_le _) (by decide) (by decide) (by decide) (by decide) dL_law_543) hS (fun v32 H32 locs32 hp hC32 hS32 => ?_)
  obtain ⟨hp1, hp2b⟩ := hp
  have hMI : MI X H32 m1 ca := hMI.kp hC K.gca K.g2 hp1 rfl rfl rfl
  have hMR : mkI X H32 x1 = mmI X H32 m1 := (mk_kp hp1 K.g1 rfl).trans (hMR.trans (mm_kp hp1 K.g2 rfl).symm)
  have hB2 := fl_kp hp1 K.gra rfl; have hp8 := hp2b
  have hFR : flI X H32 ra = tpdI X H32 m1 := by simp only [flI, tpdI] at hF0 hB1 hB2 ⊢; omega
  have hSd := hSH; have hSH : SHP X Γ H32 x1 ta td nd := hSH.kpM K.g1 hp1 rfl
  have hTc2 : TSm X td H26 H32 := TSm.kp1 hp1 hSH rfl; have hNc2 : NSm (nC nd H26) (nC nd H32) := nC_kp1 hp1 hSH rfl
  have hTrm := hTR; have hTm2 : TMm tm ts H26 H32 := TMm.kp TMm.rf hp1 K.gtm K.gts rfl; have hTR := hTR.same hTc2 hTm2
  have hpb := hp2b
  have hNm2 : NSm (nM na H26) (nM na H32) := nM_kp NSm.rf hp1 K.gna rfl; have hNrm := hNR; have hNR := hNR.same hTc2 hNc2 hNm2
  have hMO := (kp_R hp1 K.g1 (ci := 10) (k := 13) rfl (by decide) rfl).trans hMO; have hWK := (kp_R hp1 K.g2 (ci := 11) (k := 29) rfl (by decide) rfl).trans hWK
  have hMc2 : MoK X H26 H32 mo := MoK.kp1 hp1 K.gmo rfl
  have hWRm := hWR; have hWR := hWR.same hMc2 (MmK.kp MmK.rf hp1 K.g2 K.gwk rfl)
  have hC := hC32; have hS := hS32
  refine lv_pop hx hb dL_law_546 rfl ?_
  refine lv_goto (tgt := 1667) hx hb dL_law_547 rfl ?_
  exact hk _ _ hC hS hMI hMR hFR hSH hTR hNR hMO hWK hWR
set_option maxRecDepth 100000 in
set_option maxHeartbeats 4000000 in
theorem law_8 (l : Launch) {p : Program} {e : Env} {s : State} {m : MethodId} {below : List Frame} {meth : Method} {c : Code} {X : xW} {Γ : Nat → Option Nat} {b L : Nat} {xs : Nat → Int32} {x1 m1 ca ka oa ra ta tm ts na mo wk : Nat} {td nd : Nat → Nat} (K : LK p s m meth c X Γ b L xs x1 m1 ca ka oa ra tm ts na mo wk) {H : Heap} {locs : List Loc} {ls : Array Slot} {Q : State → Prop} {i : Int32} {z : Int} (ez : i.toInt = z) (h0z : 0 ≤ z) (hzL : z + 6 ≤ L) (hC : Conf X Γ H) (hS : va_S (AΓ Γ) s.heap H locs) (hMI : MI X H m1 ca) (hMR : mkI X H x1 = mmI X H m1) (hFR : flI X H ra = tpdI X H m1) (hSH : SHP X Γ H x1 ta td nd) (hTR : TRl X td tm ts H) (hNR : NRl X td nd na H) (hMO : sR H x1 (X.1.2 10 13) = some mo) (hWK : sR H m1 (X.1.2 11 29) = some wk) (hWR : WRl X H mo m1 wk) (hl : lv_has ls 4 [(3, .int i), (2, .ref m1), (1, .ref x1), (0, .ref b)]) (hk : ∀ (H1 : Heap) (locs1 : List Loc), Conf X Γ H1 → va_S (AΓ Γ) s.heap H1 locs1 → MI X H1 m1 ca → mkI X H1 x1 = mmI X H1 m1 → flI X H1 ra = tpdI X H1 m1 → SHP X Γ H1 x1 ta td nd → TRl X td tm ts H1 → NRl X td nd na H1 → sR H1 x1 (X.1.2 10 13) = some mo → sR H1 m1 (X.1.2 11 29) = some wk → WRl X H1 mo m1 wk → W p l e room_1 s m #[Value.ref b] below meth c H1 locs1 147 13128 Q (F0 m 1667 ls [])) : W p l e room_1 s m #[Value.ref b] below meth c H locs 147 13128 Q (F0 m 550 ls []) := by
  have E := K.E; have hx := E.1; have hb := E.2.1; have hLl := K.hL
  refine lv_aload_n hx hb dL_law_550 rfl (lv_at hl 2 rfl) ?_
  refine lv_aload_n hx hb dL_law_551 rfl (lv_at hl 3 rfl) ?_
  refine lv_iload_n hx hb dL_law_552 rfl (lv_at hl 0 rfl) ?_
  refine lv_iconst (v := 1) hx hb dL_law_553 rfl ?_
  refine lv_iadd hx hb dL_law_554 (lv_topi (fun v21 e21 => ?_))
  have e21i : v21.toInt = z + 1 := i_add e21 ez (by decide) (by omega) (by omega)
  refine va_sld hx hb K.hX K.hbl K.hbA hS (i_in e21i (by omega) (by omega)) dL_law_555 ?_
  refine r_goI (r_runV (As := [.int (xs v21.toNatClampNeg)]) (rest := []) E hC hS (m_X11_yard l X Γ H hC x1 K.g1 (xs v21.toNatClampNeg) (a1 := ((xs v21.toNatClampNeg) : Int32).toInt) rfl ra K.gra K.ur) lcw_X11_yard lcl_54 K.g1 ⟨rfl, rfl⟩ rfl hl.1 rfl (Nat.zero_le _) (by decide) (by decide) (by decide) (by decide) dL_law_556) hS (fun v22 H22 locs22 hp hC22 hS22 => ?_)
  obtain ⟨hp1, hp2a⟩ := hp
  have hMI : MI X H22 m1 ca := hMI.cl hC K.gca K.g2 hp1 rfl
  have hMR : mkI X H22 x1 = mmI X H22 m1 := (mk_kp hp1 K.g1 rfl).trans (hMR.trans (mm_kp hp1 K.g2 rfl).symm)
  have hF0 := hFR; have hB1 := tpd_kp hp1 K.g2 rfl; have hp9 := hp2a
  have hSd := hSH; have hSH : SHP X Γ H22 x1 ta td nd := hSH.kp K.g1 hp1 rfl
  have hTr0 := hTR; have hNr0 := hNR; have hTm : TMm tm ts H H22 := TMm.kp0 hp1 K.gtm K.gts rfl; have hNm : NSm (nM na H) (nM na H22) := nM_kp0 hp1 K.gna rfl
  have hTc : TSm X td H H22 := TSm.kp TSm.rf hp1 hSH rfl; have hTR := hTR.same hTc hTm
  have hNc : NSm (nC nd H) (nC nd H22) := nC_kp NSm.rf hp1 hSH rfl; have hNR := hNR.same hTc hNc hNm
  have hpa := hp2a; have hCA := hC
  have hMO := (kp_R hp1 K.g1 (ci := 10) (k := 13) rfl (by decide) rfl).trans hMO; have hWK := (kp_R hp1 K.g2 (ci := 11) (k := 29) rfl (by decide) rfl).trans hWK
  have hWR0 := hWR; have hMm : MmK X H H22 m1 wk := MmK.kp0 hp1 K.g2 K.gwk rfl
  have hMc : MoK X H H22 mo := MoK.kp MoK.rf hp1 K.gmo rfl; have hWR := hWR.same hMc hMm
  have hC := hC22; have hS := hS22
  refine lv_pop hx hb dL_law_559 rfl ?_
  refine lv_aload_n hx hb dL_law_560 rfl (lv_at hl 1 rfl) ?_
  refine lv_aload_n hx hb dL_law_561 rfl (lv_at hl 3 rfl) ?_
  refine lv_iload_n hx hb dL_law_562 rfl (lv_at hl 0 rfl) ?_
  refine lv_iconst (v := 1) hx hb dL_law_563 rfl ?_
  refine lv_iadd hx hb dL_law_564 (lv_topi (fun v23 e23 => ?_))
  have e23i : v23.toInt = z + 1 := i_add e23 ez (by decide) (by omega) (by omega)
  have hq23 : v23 = v21 := e23.trans e21.symm
  refine va_sld hx hb K.hX K.hbl K.hbA hS (i_in e23i (by omega) (by omega)) dL_law_565 ?_
  rw [hq23]
  refine r_goI (r_runV (As := [.int (xs v21.toNatClampNeg)]) (rest := []) E hC hS (m_X12_yard l X Γ H22 hC m1 K.g2 (xs v21.toNatClampNeg) (a1 := ((xs v21.toNatClampNeg) : Int32).toInt) rfl ca K.gca K.uc) lcw_X12_yard lcl_58 K.g2 ⟨rfl, rfl⟩ rfl hl.1 rfl (Nat.zero_le _) (by decide) (by decide) (by decide) (by decide) dL_law_566) hS (fun v24 H24 locs24 hp hC24 hS24 => ?_)
  obtain ⟨hp1, hp2b⟩ := hp
  have hMI : MI X H24 m1 ca := hMI.yard hC K.gca hp2b.1 (mm_kp hp1 K.g2 rfl)
  have hMR : mkI X H24 x1 = mmI X H24 m1 := (mk_kp hp1 K.g1 rfl).trans (hMR.trans (mm_kp hp1 K.g2 rfl).symm)
  have hB2 := fl_kp hp1 K.gra rfl; have hp8 := hp2b.2
  have hFR : flI X H24 ra = tpdI X H24 m1 := by simp only [flI, tpdI] at hF0 hB1 hB2 ⊢; omega
  have hSd := hSH; have hSH : SHP X Γ H24 x1 ta td nd := hSH.kpM K.g1 hp1 rfl
  have hTc2 : TSm X td H22 H24 := TSm.kp1 hp1 hSH rfl; have hNc2 : NSm (nC nd H22) (nC nd H24) := nC_kp1 hp1 hSH rfl
  have hTrm := hTR; have hTm2 : TMm tm ts H22 H24 := TMm.kp TMm.rf hp1 K.gtm K.gts rfl; have hTR := hTR.same hTc2 hTm2
  have hpb := hp2b
  have hNm2 : NSm (nM na H22) (nM na H24) := nM_kp NSm.rf hp1 K.gna rfl; have hNrm := hNR; have hNR := hNR.same hTc2 hNc2 hNm2
  have hMO := (kp_R hp1 K.g1 (ci := 10) (k := 13) rfl (by decide) rfl).trans hMO; have hWK := (kp_R hp1 K.g2 (ci := 11) (k := 29) rfl (by decide) rfl).trans hWK
  have hMc2 : MoK X H22 H24 mo := MoK.kp1 hp1 K.gmo rfl
  have hWRm := hWR; have hWR := hWR.same hMc2 (MmK.kp MmK.rf hp1 K.g2 K.gwk rfl)
  have hC := hC24; have hS := hS24
  refine lv_pop hx hb dL_law_569 rfl ?_
  refine lv_goto (tgt := 1667) hx hb dL_law_570 rfl ?_
  exact hk _ _ hC hS hMI hMR hFR hSH hTR hNR hMO hWK hWR
set_option maxRecDepth 100000 in
set_option maxHeartbeats 4000000 in
theorem law_9 (l : Launch) {p : Program} {e : Env} {s : State} {m : MethodId} {below : List Frame} {meth : Method} {c : Code} {X : xW} {Γ : Nat → Option Nat} {b L : Nat} {xs : Nat → Int32} {x1 m1 ca ka oa ra ta tm ts na mo wk : Nat} {td nd : Nat → Nat} (K : LK p s m meth c X Γ b L xs x1 m1 ca ka oa ra tm ts na mo wk) {H : Heap} {locs : List Loc} {ls : Array Slot} {Q : State → Prop} {i : Int32} {z : Int} (ez : i.toInt = z) (h0z : 0 ≤ z) (hzL : z + 6 ≤ L) (hC : Conf X Γ H) (hS : va_S (AΓ Γ) s.heap H locs) (hMI : MI X H m1 ca) (hMR : mkI X H x1 = mmI X H m1) (hFR : flI X H ra = tpdI X H m1) (hSH : SHP X Γ H x1 ta td nd) (hTR : TRl X td tm ts H) (hNR : NRl X td nd na H) (hMO : sR H x1 (X.1.2 10 13) = some mo) (hWK : sR H m1 (X.1.2 11 29) = some wk) (hWR : WRl X H mo m1 wk) (hl : lv_has ls 4 [(3, .int i), (2, .ref m1), (1, .ref x1), (0, .ref b)]) (hk : ∀ (H1 : Heap) (locs1 : List Loc), Conf X Γ H1 → va_S (AΓ Γ) s.heap H1 locs1 → MI X H1 m1 ca → mkI X H1 x1 = mmI X H1 m1 → flI X H1 ra = tpdI X H1 m1 → SHP X Γ H1 x1 ta td nd → TRl X td tm ts H1 → NRl X td nd na H1 → sR H1 x1 (X.1.2 10 13) = some mo → sR H1 m1 (X.1.2 11 29) = some wk → WRl X H1 mo m1 wk → W p l e room_1 s m #[Value.ref b] below meth c H1 locs1 147 13128 Q (F0 m 1667 ls [])) : W p l e room_1 s m #[Value.ref b] below meth c H locs 147 13128 Q (F0 m 573 ls []) := by
  have E := K.E; have hx := E.1; have hb := E.2.1; have hLl := K.hL
  refine lv_aload_n hx hb dL_law_573 rfl (lv_at hl 2 rfl) ?_
  refine lv_aload_n hx hb dL_law_574 rfl (lv_at hl 3 rfl) ?_
  refine lv_iload_n hx hb dL_law_575 rfl (lv_at hl 0 rfl) ?_
  refine lv_iconst (v := 1) hx hb dL_law_576 rfl ?_
  refine lv_iadd hx hb dL_law_577 (lv_topi (fun v21 e21 => ?_))
  have e21i : v21.toInt = z + 1 := i_add e21 ez (by decide) (by omega) (by omega)
  refine va_sld hx hb K.hX K.hbl K.hbA hS (i_in e21i (by omega) (by omega)) dL_law_578 ?_
  refine r_goI (r_runV (As := [.int (xs v21.toNatClampNeg)]) (rest := []) E hC hS (m_X11_orders l X Γ H hC x1 K.g1 (xs v21.toNatClampNeg) (a1 := ((xs v21.toNatClampNeg) : Int32).toInt) rfl ra K.gra K.ur) lcw_X11_orders lcl_59 K.g1 ⟨rfl, rfl⟩ rfl hl.1 rfl (Nat.zero_le _) (by decide) (by decide) (by decide) (by decide) dL_law_579) hS (fun v22 H22 locs22 hp hC22 hS22 => ?_)
  obtain ⟨hp1, hp2a⟩ := hp
  have hMI : MI X H22 m1 ca := hMI.cl hC K.gca K.g2 hp1 rfl
  have hMR : mkI X H22 x1 = mmI X H22 m1 := (mk_kp hp1 K.g1 rfl).trans (hMR.trans (mm_kp hp1 K.g2 rfl).symm)
  have hF0 := hFR; have hB1 := tpd_kp hp1 K.g2 rfl; have hp9 := hp2a
  have hSd := hSH; have hSH : SHP X Γ H22 x1 ta td nd := hSH.kp K.g1 hp1 rfl
  have hTr0 := hTR; have hNr0 := hNR; have hTm : TMm tm ts H H22 := TMm.kp0 hp1 K.gtm K.gts rfl; have hNm : NSm (nM na H) (nM na H22) := nM_kp0 hp1 K.gna rfl
  have hTc : TSm X td H H22 := TSm.kp TSm.rf hp1 hSH rfl; have hTR := hTR.same hTc hTm
  have hNc : NSm (nC nd H) (nC nd H22) := nC_kp NSm.rf hp1 hSH rfl; have hNR := hNR.same hTc hNc hNm
  have hpa := hp2a; have hCA := hC
  have hMO := (kp_R hp1 K.g1 (ci := 10) (k := 13) rfl (by decide) rfl).trans hMO; have hWK := (kp_R hp1 K.g2 (ci := 11) (k := 29) rfl (by decide) rfl).trans hWK
  have hWR0 := hWR; have hMm : MmK X H H22 m1 wk := MmK.kp0 hp1 K.g2 K.gwk rfl
  have hMc : MoK X H H22 mo := MoK.kp MoK.rf hp1 K.gmo rfl; have hWR := hWR.same hMc hMm
  have hC := hC22; have hS := hS22
  refine lv_pop hx hb dL_law_582 rfl ?_
  refine lv_aload_n hx hb dL_law_583 rfl (lv_at hl 1 rfl) ?_
  refine lv_aload_n hx hb dL_law_584 rfl (lv_at hl 3 rfl) ?_
  refine lv_iload_n hx hb dL_law_585 rfl (lv_at hl 0 rfl) ?_
  refine lv_iconst (v := 1) hx hb dL_law_586 rfl ?_
  refine lv_iadd hx hb dL_law_587 (lv_topi (fun v23 e23 => ?_))
  have e23i : v23.toInt = z + 1 := i_add e23 ez (by decide) (by omega) (by omega)
  have hq23 : v23 = v21 := e23.trans e21.symm
  refine va_sld hx hb K.hX K.hbl K.hbA hS (i_in e23i (by omega) (by omega)) dL_law_588 ?_
  rw [hq23]
  refine r_goI (r_runV (As := [.int (xs v21.toNatClampNeg)]) (rest := []) E hC hS (m_X12_orders l X Γ H22 hC m1 K.g2 (xs v21.toNatClampNeg) (a1 := ((xs v21.toNatClampNeg) : Int32).toInt) rfl ca K.gca K.uc) lcw_X12_orders lcl_62 K.g2 ⟨rfl, rfl⟩ rfl hl.1 rfl (Nat.zero_le _) (by decide) (by decide) (by decide) (by decide) dL_law_589) hS (fun v24 H24 locs24 hp hC24 hS24 => ?_)
  obtain ⟨hp1, hp2b⟩ := hp
  have hMI : MI X H24 m1 ca := hMI.orders hC K.gca hp2b.1 (mm_kp hp1 K.g2 rfl)
  have hMR : mkI X H24 x1 = mmI X H24 m1 := (mk_kp hp1 K.g1 rfl).trans (hMR.trans (mm_kp hp1 K.g2 rfl).symm)
  have hB2 := fl_kp hp1 K.gra rfl; have hp8 := hp2b.2
  have hFR : flI X H24 ra = tpdI X H24 m1 := by simp only [flI, tpdI] at hF0 hB1 hB2 ⊢; omega
  have hSd := hSH; have hSH : SHP X Γ H24 x1 ta td nd := hSH.kpM K.g1 hp1 rfl
  have hTc2 : TSm X td H22 H24 := TSm.kp1 hp1 hSH rfl; have hNc2 : NSm (nC nd H22) (nC nd H24) := nC_kp1 hp1 hSH rfl
  have hTrm := hTR; have hTm2 : TMm tm ts H22 H24 := TMm.kp TMm.rf hp1 K.gtm K.gts rfl; have hTR := hTR.same hTc2 hTm2
  have hpb := hp2b
  have hNm2 : NSm (nM na H22) (nM na H24) := nM_kp NSm.rf hp1 K.gna rfl; have hNrm := hNR; have hNR := hNR.same hTc2 hNc2 hNm2
  have hMO := (kp_R hp1 K.g1 (ci := 10) (k := 13) rfl (by decide) rfl).trans hMO; have hWK := (kp_R hp1 K.g2 (ci := 11) (k := 29) rfl (by decide) rfl).trans hWK
  have hMc2 : MoK X H22 H24 mo := MoK.kp1 hp1 K.gmo rfl
  have hWRm := hWR; have hWR := hWR.same hMc2 (MmK.kp MmK.rf hp1 K.g2 K.gwk rfl)
  have hC := hC24; have hS := hS24
  refine lv_pop hx hb dL_law_592 rfl ?_
  refine lv_goto (tgt := 1667) hx hb dL_law_593 rfl ?_
  exact hk _ _ hC hS hMI hMR hFR hSH hTR hNR hMO hWK hWR
set_option maxRecDepth 100000 in
set_option maxHeartbeats 4000000 in
theorem law_10 (l : Launch) {p : Program} {e : Env} {s : State} {m : MethodId} {below : List Frame} {meth : Method} {c : Code} {X : xW} {Γ : Nat → Option Nat} {b L : Nat} {xs : Nat → Int32} {x1 m1 ca ka oa ra ta tm ts na mo wk : Nat} {td nd : Nat → Nat} (K : LK p s m meth c X Γ b L xs x1 m1 ca ka oa ra tm ts na mo wk) {H : Heap} {locs : List Loc} {ls : Array Slot} {Q : State → Prop} {i : Int32} {z : Int} (ez : i.toInt = z) (h0z : 0 ≤ z) (hzL : z + 6 ≤ L) (hC : Conf X Γ H) (hS : va_S (AΓ Γ) s.heap H locs) (hMI : MI X H m1 ca) (hMR : mkI X H x1 = mmI X H m1) (hFR : flI X H ra = tpdI X H m1) (hSH : SHP X Γ H x1 ta td nd) (hTR : TRl X td tm ts H) (hNR : NRl X td nd na H) (hMO : sR H x1 (X.1.2 10 13) = some mo) (hWK : sR H m1 (X.1.2 11 29) = some wk) (hWR : WRl X H mo m1 wk) (hl : lv_has ls 4 [(3, .int i), (2, .ref m1), (1, .ref x1), (0, .ref b)]) (hk : ∀ (H1 : Heap) (locs1 : List Loc), Conf X Γ H1 → va_S (AΓ Γ) s.heap H1 locs1 → MI X H1 m1 ca → mkI X H1 x1 = mmI X H1 m1 → flI X H1 ra = tpdI X H1 m1 → SHP X Γ H1 x1 ta td nd → TRl X td tm ts H1 → NRl X td nd na H1 → sR H1 x1 (X.1.2 10 13) = some mo → sR H1 m1 (X.1.2 11 29) = some wk → WRl X H1 mo m1 wk → W p l e room_1 s m #[Value.ref b] below meth c H1 locs1 147 13128 Q (F0 m 1667 ls [])) : W p l e room_1 s m #[Value.ref b] below meth c H locs 147 13128 Q (F0 m 596 ls []) := by
  have E := K.E; have hx := E.1; have hb := E.2.1; have hLl := K.hL
  refine lv_aload_n hx hb dL_law_596 rfl (lv_at hl 2 rfl) ?_
  refine lv_aload_n hx hb dL_law_597 rfl (lv_at hl 3 rfl) ?_
  refine lv_iload_n hx hb dL_law_598 rfl (lv_at hl 0 rfl) ?_
  refine lv_iconst (v := 1) hx hb dL_law_599 rfl ?_
  refine lv_iadd hx hb dL_law_600 (lv_topi (fun v21 e21 => ?_))
  have e21i : v21.toInt = z + 1 := i_add e21 ez (by decide) (by omega) (by omega)
  refine va_sld hx hb K.hX K.hbl K.hbA hS (i_in e21i (by omega) (by omega)) dL_law_601 ?_
  refine r_goI (r_runV (As := [.int (xs v21.toNatClampNeg)]) (rest := []) E hC hS (m_X11_fault l X Γ H hC x1 K.g1 (xs v21.toNatClampNeg) (a1 := ((xs v21.toNatClampNeg) : Int32).toInt) rfl) lcw_X11_fault lcl_63 K.g1 ⟨rfl, rfl⟩ rfl hl.1 rfl (Nat.zero_le _) (by decide) (by decide) (by decide) (by decide) dL_law_602) hS (fun v22 H22 locs22 hp hC22 hS22 => ?_)
  obtain ⟨hp1, hp2a⟩ := hp
  have hMI : MI X H22 m1 ca := by rw [hp1]; exact hMI
  have hMR : mkI X H22 x1 = mmI X H22 m1 := by rw [hp1]; exact hMR
  have hFR : flI X H22 ra = tpdI X H22 m1 := by rw [hp1]; exact hFR
  have hSH : SHP X Γ H22 x1 ta td nd := by rw [hp1]; exact hSH
  have hTR : TRl X td tm ts H22 := by rw [hp1]; exact hTR
  have hNR : NRl X td nd na H22 := by rw [hp1]; exact hNR
  have hMO : sR H22 x1 (X.1.2 10 13) = some mo := by rw [hp1]; exact hMO
  have hWK : sR H22 m1 (X.1.2 11 29) = some wk := by rw [hp1]; exact hWK
  have hWR : WRl X H22 mo m1 wk := by rw [hp1]; exact hWR
  have hC := hC22; have hS := hS22
  refine lv_pop hx hb dL_law_605 rfl ?_
  refine lv_aload_n hx hb dL_law_606 rfl (lv_at hl 1 rfl) ?_
  refine lv_aload_n hx hb dL_law_607 rfl (lv_at hl 3 rfl) ?_
  refine lv_iload_n hx hb dL_law_608 rfl (lv_at hl 0 rfl) ?_
  refine lv_iconst (v := 1) hx hb dL_law_609 rfl ?_
  refine lv_iadd hx hb dL_law_610 (lv_topi (fun v23 e23 => ?_))
  have e23i : v23.toInt = z + 1 := i_add e23 ez (by decide) (by omega) (by omega)
  have hq23 : v23 = v21 := e23.trans e21.symm
  refine va_sld hx hb K.hX K.hbl K.hbA hS (i_in e23i (by omega) (by omega)) dL_law_611 ?_
  rw [hq23]
  refine r_goI (r_runV (As := [.int (xs v21.toNatClampNeg)]) (rest := []) E hC hS (m_X12_fault l X Γ H22 hC m1 K.g2 (xs v21.toNatClampNeg) (a1 := ((xs v21.toNatClampNeg) : Int32).toInt) rfl ca K.gca K.uc) lcw_X12_fault lcl_66 K.g2 ⟨rfl, rfl⟩ rfl hl.1 rfl (Nat.zero_le _) (by decide) (by decide) (by decide) (by decide) dL_law_612) hS (fun v24 H24 locs24 hp hC24 hS24 => ?_)
  obtain ⟨hp1, hp2b⟩ := hp
  have hMI : MI X H24 m1 ca := hMI.kp hC K.gca K.g2 hp1 rfl rfl rfl
  have hMR : mkI X H24 x1 = mmI X H24 m1 := (mk_kp hp1 K.g1 rfl).trans (hMR.trans (mm_kp hp1 K.g2 rfl).symm)
  have hFR : flI X H24 ra = tpdI X H24 m1 := (fl_kp hp1 K.gra rfl).trans (hFR.trans (tpd_kp hp1 K.g2 rfl).symm)
  have hSd := hSH; have hSH : SHP X Γ H24 x1 ta td nd := hSH.kpM K.g1 hp1 rfl
  have hTc2 : TSm X td H22 H24 := TSm.kp1 hp1 hSH rfl; have hNc2 : NSm (nC nd H22) (nC nd H24) := nC_kp1 hp1 hSH rfl
  have hTrm := hTR; have hTm2 : TMm tm ts H22 H24 := TMm.kp TMm.rf hp1 K.gtm K.gts rfl; have hTR := hTR.same hTc2 hTm2
  have hpb := hp2b
  have hNm2 : NSm (nM na H22) (nM na H24) := nM_kp NSm.rf hp1 K.gna rfl; have hNrm := hNR; have hNR := hNR.same hTc2 hNc2 hNm2
  have hMO := (kp_R hp1 K.g1 (ci := 10) (k := 13) rfl (by decide) rfl).trans hMO; have hWK := (kp_R hp1 K.g2 (ci := 11) (k := 29) rfl (by decide) rfl).trans hWK
  have hMc2 : MoK X H22 H24 mo := MoK.kp1 hp1 K.gmo rfl
  have hWRm := hWR; have hWR := hWR.same hMc2 (MmK.kp MmK.rf hp1 K.g2 K.gwk rfl)
  have hC := hC24; have hS := hS24
  refine lv_pop hx hb dL_law_615 rfl ?_
  refine lv_goto (tgt := 1667) hx hb dL_law_616 rfl ?_
  exact hk _ _ hC hS hMI hMR hFR hSH hTR hNR hMO hWK hWR
set_option maxRecDepth 100000 in
set_option maxHeartbeats 4000000 in
theorem law_11 (l : Launch) {p : Program} {e : Env} {s : State} {m : MethodId} {below : List Frame} {meth : Method} {c : Code} {X : xW} {Γ : Nat → Option Nat} {b L : Nat} {xs : Nat → Int32} {x1 m1 ca ka oa ra ta tm ts na mo wk : Nat} {td nd : Nat → Nat} (K : LK p s m meth c X Γ b L xs x1 m1 ca ka oa ra tm ts na mo wk) {H : Heap} {locs : List Loc} {ls : Array Slot} {Q : State → Prop} {i : Int32} {z : Int} (ez : i.toInt = z) (h0z : 0 ≤ z) (hzL : z + 6 ≤ L) (hC : Conf X Γ H) (hS : va_S (AΓ Γ) s.heap H locs) (hMI : MI X H m1 ca) (hMR : mkI X H x1 = mmI X H m1) (hFR : flI X H ra = tpdI X H m1) (hSH : SHP X Γ H x1 ta td nd) (hTR : TRl X td tm ts H) (hNR : NRl X td nd na H) (hMO : sR H x1 (X.1.2 10 13) = some mo) (hWK : sR H m1 (X.1.2 11 29) = some wk) (hWR : WRl X H mo m1 wk) (hl : lv_has ls 4 [(3, .int i), (2, .ref m1), (1, .ref x1), (0, .ref b)]) (hk : ∀ (H1 : Heap) (locs1 : List Loc), Conf X Γ H1 → va_S (AΓ Γ) s.heap H1 locs1 → MI X H1 m1 ca → mkI X H1 x1 = mmI X H1 m1 → flI X H1 ra = tpdI X H1 m1 → SHP X Γ H1 x1 ta td nd → TRl X td tm ts H1 → NRl X td nd na H1 → sR H1 x1 (X.1.2 10 13) = some mo → sR H1 m1 (X.1.2 11 29) = some wk → WRl X H1 mo m1 wk → W p l e room_1 s m #[Value.ref b] below meth c H1 locs1 147 13128 Q (F0 m 1667 ls [])) : W p l e room_1 s m #[Value.ref b] below meth c H locs 147 13128 Q (F0 m 619 ls []) := by
  have E := K.E; have hx := E.1; have hb := E.2.1; have hLl := K.hL
  refine lv_aload_n hx hb dL_law_619 rfl (lv_at hl 2 rfl) ?_
  refine lv_aload_n hx hb dL_law_620 rfl (lv_at hl 3 rfl) ?_
  refine lv_iload_n hx hb dL_law_621 rfl (lv_at hl 0 rfl) ?_
  refine lv_iconst (v := 1) hx hb dL_law_622 rfl ?_
  refine lv_iadd hx hb dL_law_623 (lv_topi (fun v21 e21 => ?_))
  have e21i : v21.toInt = z + 1 := i_add e21 ez (by decide) (by omega) (by omega)
  refine va_sld hx hb K.hX K.hbl K.hbA hS (i_in e21i (by omega) (by omega)) dL_law_624 ?_
  refine r_goI (r_runV (As := [.int (xs v21.toNatClampNeg)]) (rest := []) E hC hS (m_X11_many l X Γ H hC x1 K.g1 (xs v21.toNatClampNeg) (a1 := ((xs v21.toNatClampNeg) : Int32).toInt) rfl) lcw_X11_many lcl_67 K.g1 ⟨rfl, rfl⟩ rfl hl.1 rfl (Nat.zero_le _) (by decide) (by decide) (by decide) (by decide) dL_law_625) hS (fun v22 H22 locs22 hp hC22 hS22 => ?_)
  obtain ⟨hp1, hp2a⟩ := hp
  have hMI : MI X H22 m1 ca := hMI.cl hC K.gca K.g2 hp1 rfl
  have hMR : mkI X H22 x1 = mmI X H22 m1 := (mk_kp hp1 K.g1 rfl).trans (hMR.trans (mm_kp hp1 K.g2 rfl).symm)
  have hFR : flI X H22 ra = tpdI X H22 m1 := (fl_kp hp1 K.gra rfl).trans (hFR.trans (tpd_kp hp1 K.g2 rfl).symm)
  have hSd := hSH; have hSH : SHP X Γ H22 x1 ta td nd := hSH.kp K.g1 hp1 rfl
  have hTr0 := hTR; have hNr0 := hNR; have hTm : TMm tm ts H H22 := TMm.kp0 hp1 K.gtm K.gts rfl; have hNm : NSm (nM na H) (nM na H22) := nM_kp0 hp1 K.gna rfl
  have hTc : TSm X td H H22 := TSm.kp TSm.rf hp1 hSH rfl; have hTR := hTR.same hTc hTm
  have hNc : NSm (nC nd H) (nC nd H22) := nC_kp NSm.rf hp1 hSH rfl; have hNR := hNR.same hTc hNc hNm
  have hpa := hp2a; have hCA := hC
  have hMO := (kp_R hp1 K.g1 (ci := 10) (k := 13) rfl (by decide) rfl).trans hMO; have hWK := (kp_R hp1 K.g2 (ci := 11) (k := 29) rfl (by decide) rfl).trans hWK
  have hWR0 := hWR; have hMm : MmK X H H22 m1 wk := MmK.kp0 hp1 K.g2 K.gwk rfl
  have hMc : MoK X H H22 mo := MoK.kp MoK.rf hp1 K.gmo rfl; have hWR := hWR.same hMc hMm
  have hC := hC22; have hS := hS22
  refine lv_pop hx hb dL_law_628 rfl ?_
  refine lv_aload_n hx hb dL_law_629 rfl (lv_at hl 1 rfl) ?_
  refine lv_aload_n hx hb dL_law_630 rfl (lv_at hl 3 rfl) ?_
  refine lv_iload_n hx hb dL_law_631 rfl (lv_at hl 0 rfl) ?_
  refine lv_iconst (v := 1) hx hb dL_law_632 rfl ?_
  refine lv_iadd hx hb dL_law_633 (lv_topi (fun v23 e23 => ?_))
  have e23i : v23.toInt = z + 1 := i_add e23 ez (by decide) (by omega) (by omega)
  have hq23 : v23 = v21 := e23.trans e21.symm
  refine va_sld hx hb K.hX K.hbl K.hbA hS (i_in e23i (by omega) (by omega)) dL_law_634 ?_
  rw [hq23]
  refine r_goI (r_runV (As := [.int (xs v21.toNatClampNeg)]) (rest := []) E hC hS (m_X12_many l X Γ H22 hC m1 K.g2 (xs v21.toNatClampNeg) (a1 := ((xs v21.toNatClampNeg) : Int32).toInt) rfl ca K.gca K.uc) lcw_X12_many lcl_70 K.g2 ⟨rfl, rfl⟩ rfl hl.1 rfl (Nat.zero_le _) (by decide) (by decide) (by decide) (by decide) dL_law_635) hS (fun v24 H24 locs24 hp hC24 hS24 => ?_)
  obtain ⟨hp1, hp2b⟩ := hp
  have hMI : MI X H24 m1 ca := hMI.kp hC K.gca K.g2 hp1 rfl rfl rfl
  have hMR : mkI X H24 x1 = mmI X H24 m1 := (mk_kp hp1 K.g1 rfl).trans (hMR.trans (mm_kp hp1 K.g2 rfl).symm)
  have hFR : flI X H24 ra = tpdI X H24 m1 := (fl_kp hp1 K.gra rfl).trans (hFR.trans (tpd_kp hp1 K.g2 rfl).symm)
  have hSd := hSH; have hSH : SHP X Γ H24 x1 ta td nd := hSH.kpM K.g1 hp1 rfl
  have hTc2 : TSm X td H22 H24 := TSm.kp1 hp1 hSH rfl; have hNc2 : NSm (nC nd H22) (nC nd H24) := nC_kp1 hp1 hSH rfl
  have hTrm := hTR; have hTm2 : TMm tm ts H22 H24 := TMm.kp TMm.rf hp1 K.gtm K.gts rfl; have hTR := hTR.same hTc2 hTm2
  have hpb := hp2b
  have hNm2 : NSm (nM na H22) (nM na H24) := nM_kp NSm.rf hp1 K.gna rfl; have hNrm := hNR; have hNR := hNR.same hTc2 hNc2 hNm2
  have hMO := (kp_R hp1 K.g1 (ci := 10) (k := 13) rfl (by decide) rfl).trans hMO; have hWK := (kp_R hp1 K.g2 (ci := 11) (k := 29) rfl (by decide) rfl).trans hWK
  have hMc2 : MoK X H22 H24 mo := MoK.kp1 hp1 K.gmo rfl
  have hWRm := hWR; have hWR := hWR.same hMc2 (MmK.kp MmK.rf hp1 K.g2 K.gwk rfl)
  have hC := hC24; have hS := hS24
  refine lv_pop hx hb dL_law_638 rfl ?_
  refine lv_goto (tgt := 1667) hx hb dL_law_639 rfl ?_
  exact hk _ _ hC hS hMI hMR hFR hSH hTR hNR hMO hWK hWR
set_option maxRecDepth 100000 in
set_option maxHeartbeats 4000000 in
theorem law_12 (l : Launch) {p : Program} {e : Env} {s : State} {m : MethodId} {below : List Frame} {meth : Method} {c : Code} {X : xW} {Γ : Nat → Option Nat} {b L : Nat} {xs : Nat → Int32} {x1 m1 ca ka oa ra ta tm ts na mo wk : Nat} {td nd : Nat → Nat} (K : LK p s m meth c X Γ b L xs x1 m1 ca ka oa ra tm ts na mo wk) {H : Heap} {locs : List Loc} {ls : Array Slot} {Q : State → Prop} {i : Int32} {z : Int} (ez : i.toInt = z) (h0z : 0 ≤ z) (hzL : z + 6 ≤ L) (hC : Conf X Γ H) (hS : va_S (AΓ Γ) s.heap H locs) (hMI : MI X H m1 ca) (hMR : mkI X H x1 = mmI X H m1) (hFR : flI X H ra = tpdI X H m1) (hSH : SHP X Γ H x1 ta td nd) (hTR : TRl X td tm ts H) (hNR : NRl X td nd na H) (hMO : sR H x1 (X.1.2 10 13) = some mo) (hWK : sR H m1 (X.1.2 11 29) = some wk) (hWR : WRl X H mo m1 wk) (hl : lv_has ls 4 [(3, .int i), (2, .ref m1), (1, .ref x1), (0, .ref b)]) (hk : ∀ (H1 : Heap) (locs1 : List Loc), Conf X Γ H1 → va_S (AΓ Γ) s.heap H1 locs1 → MI X H1 m1 ca → mkI X H1 x1 = mmI X H1 m1 → flI X H1 ra = tpdI X H1 m1 → SHP X Γ H1 x1 ta td nd → TRl X td tm ts H1 → NRl X td nd na H1 → sR H1 x1 (X.1.2 10 13) = some mo → sR H1 m1 (X.1.2 11 29) = some wk → WRl X H1 mo m1 wk → W p l e room_1 s m #[Value.ref b] below meth c H1 locs1 147 13128 Q (F0 m 1667 ls [])) : W p l e room_1 s m #[Value.ref b] below meth c H locs 147 13128 Q (F0 m 642 ls []) := by
  have E := K.E; have hx := E.1; have hb := E.2.1; have hLl := K.hL
  refine lv_aload_n hx hb dL_law_642 rfl (lv_at hl 2 rfl) ?_
  refine lv_aload_n hx hb dL_law_643 rfl (lv_at hl 3 rfl) ?_
  refine lv_iload_n hx hb dL_law_644 rfl (lv_at hl 0 rfl) ?_
  refine lv_iconst (v := 1) hx hb dL_law_645 rfl ?_
  refine lv_iadd hx hb dL_law_646 (lv_topi (fun v21 e21 => ?_))
  have e21i : v21.toInt = z + 1 := i_add e21 ez (by decide) (by omega) (by omega)
  refine va_sld hx hb K.hX K.hbl K.hbA hS (i_in e21i (by omega) (by omega)) dL_law_647 ?_
  refine lv_aload_n hx hb dL_law_648 rfl (lv_at hl 3 rfl) ?_
  refine lv_iload_n hx hb dL_law_649 rfl (lv_at hl 0 rfl) ?_
  refine lv_iconst (v := 2) hx hb dL_law_650 rfl ?_
  refine lv_iadd hx hb dL_law_651 (lv_topi (fun v22 e22 => ?_))
  have e22i : v22.toInt = z + 2 := i_add e22 ez (by decide) (by omega) (by omega)
  refine va_sld hx hb K.hX K.hbl K.hbA hS (i_in e22i (by omega) (by omega)) dL_law_652 ?_
  refine lv_aload_n hx hb dL_law_653 rfl (lv_at hl 3 rfl) ?_
  refine lv_iload_n hx hb dL_law_654 rfl (lv_at hl 0 rfl) ?_
  refine lv_iconst (v := 3) hx hb dL_law_655 rfl ?_
  refine lv_iadd hx hb dL_law_656 (lv_topi (fun v23 e23 => ?_))
  have e23i : v23.toInt = z + 3 := i_add e23 ez (by decide) (by omega) (by omega)
  refine va_sld hx hb K.hX K.hbl K.hbA hS (i_in e23i (by omega) (by omega)) dL_law_657 ?_
  refine r_goI (r_runV (As := [.int (xs v21.toNatClampNeg), .int (xs v22.toNatClampNeg), .int (xs v23.toNatClampNeg)]) (rest := []) E hC hS (m_X11_cell l X Γ H hC x1 K.g1 (xs v21.toNatClampNeg) (a1 := ((xs v21.toNatClampNeg) : Int32).toInt) rfl (xs v22.toNatClampNeg) (a2 := ((xs v22.toNatClampNeg) : Int32).toInt) rfl (xs v23.toNatClampNeg) (a3 := ((xs v23.toNatClampNeg) : Int32).toInt) rfl) lcw_X11_cell lcl_71 K.g1 ⟨rfl, rfl⟩ rfl hl.1 rfl (Nat.zero_le _) (by decide) (by decide) (by decide) (by decide) dL_law_658) hS (fun v24 H24 locs24 hp hC24 hS24 => ?_)
  obtain ⟨hp1, hp2a⟩ := hp
  have hMI : MI X H24 m1 ca := hMI.cl hC K.gca K.g2 hp1 rfl
  have hMR : mkI X H24 x1 = mmI X H24 m1 := (mk_kp hp1 K.g1 rfl).trans (hMR.trans (mm_kp hp1 K.g2 rfl).symm)
  have hFR : flI X H24 ra = tpdI X H24 m1 := (fl_kp hp1 K.gra rfl).trans (hFR.trans (tpd_kp hp1 K.g2 rfl).symm)
  have hSd := hSH; have hSH : SHP X Γ H24 x1 ta td nd := hSH.kp K.g1 hp1 rfl
  have hTr0 := hTR; have hNr0 := hNR; have hTm : TMm tm ts H H24 := TMm.kp0 hp1 K.gtm K.gts rfl; have hNm : NSm (nM na H) (nM na H24) := nM_kp0 hp1 K.gna rfl
  have hTc : TSm X td H H24 := TSm.kp TSm.rf hp1 hSH rfl; have hTR := hTR.same hTc hTm
  have hNc : NSm (nC nd H) (nC nd H24) := nC_kp NSm.rf hp1 hSH rfl; have hNR := hNR.same hTc hNc hNm
  have hpa := hp2a; have hCA := hC
  have hMO := (kp_R hp1 K.g1 (ci := 10) (k := 13) rfl (by decide) rfl).trans hMO; have hWK := (kp_R hp1 K.g2 (ci := 11) (k := 29) rfl (by decide) rfl).trans hWK
  have hWR0 := hWR; have hMm : MmK X H H24 m1 wk := MmK.kp0 hp1 K.g2 K.gwk rfl
  have hMc : MoK X H H24 mo := MoK.kp MoK.rf hp1 K.gmo rfl; have hWR := hWR.same hMc hMm
  have hC := hC24; have hS := hS24
  refine lv_pop hx hb dL_law_661 rfl ?_
  refine lv_aload_n hx hb dL_law_662 rfl (lv_at hl 1 rfl) ?_
  refine lv_aload_n hx hb dL_law_663 rfl (lv_at hl 3 rfl) ?_
  refine lv_iload_n hx hb dL_law_664 rfl (lv_at hl 0 rfl) ?_
  refine lv_iconst (v := 1) hx hb dL_law_665 rfl ?_
  refine lv_iadd hx hb dL_law_666 (lv_topi (fun v25 e25 => ?_))
  have e25i : v25.toInt = z + 1 := i_add e25 ez (by decide) (by omega) (by omega)
  have hq25 : v25 = v21 := e25.trans e21.symm
  refine va_sld hx hb K.hX K.hbl K.hbA hS (i_in e25i (by omega) (by omega)) dL_law_667 ?_
  rw [hq25]
  refine lv_aload_n hx hb dL_law_668 rfl (lv_at hl 3 rfl) ?_
  refine lv_iload_n hx hb dL_law_669 rfl (lv_at hl 0 rfl) ?_
  refine lv_iconst (v := 2) hx hb dL_law_670 rfl ?_
  refine lv_iadd hx hb dL_law_671 (lv_topi (fun v26 e26 => ?_))
  have e26i : v26.toInt = z + 2 := i_add e26 ez (by decide) (by omega) (by omega)
  have hq26 : v26 = v22 := e26.trans e22.symm
  refine va_sld hx hb K.hX K.hbl K.hbA hS (i_in e26i (by omega) (by omega)) dL_law_672 ?_
  rw [hq26]
  refine lv_aload_n hx hb dL_law_673 rfl (lv_at hl 3 rfl) ?_
  refine lv_iload_n hx hb dL_law_674 rfl (lv_at hl 0 rfl) ?_
  refine lv_iconst (v := 3) hx hb dL_law_675 rfl ?_
  refine lv_iadd hx hb dL_law_676 (lv_topi (fun v27 e27 => ?_))
  have e27i : v27.toInt = z + 3 := i_add e27 ez (by decide) (by omega) (by omega)
  have hq27 : v27 = v23 := e27.trans e23.symm
  refine va_sld hx hb K.hX K.hbl K.hbA hS (i_in e27i (by omega) (by omega)) dL_law_677 ?_
  rw [hq27]
  refine r_goI (r_runV (As := [.int (xs v21.toNatClampNeg), .int (xs v22.toNatClampNeg), .int (xs v23.toNatClampNeg)]) (rest := []) E hC hS (m_X12_cell l X Γ H24 hC m1 K.g2 (xs v21.toNatClampNeg) (a1 := ((xs v21.toNatClampNeg) : Int32).toInt) rfl (xs v22.toNatClampNeg) (a2 := ((xs v22.toNatClampNeg) : Int32).toInt) rfl (xs v23.toNatClampNeg) (a3 := ((xs v23.toNatClampNeg) : Int32).toInt) rfl ca K.gca K.uc) lcw_X12_cell lcl_75 K.g2 ⟨rfl, rfl⟩ rfl hl.1 rfl (Nat.zero_le _) (by decide) (by decide) (by decide) (by decide) dL_law_678) hS (fun v28 H28 locs28 hp hC28 hS28 => ?_)
  obtain ⟨hp1, hp2b⟩ := hp
  have hMI : MI X H28 m1 ca := hMI.kp hC K.gca K.g2 hp1 rfl rfl rfl
  have hMR : mkI X H28 x1 = mmI X H28 m1 := (mk_kp hp1 K.g1 rfl).trans (hMR.trans (mm_kp hp1 K.g2 rfl).symm)
  have hFR : flI X H28 ra = tpdI X H28 m1 := (fl_kp hp1 K.gra rfl).trans (hFR.trans (tpd_kp hp1 K.g2 rfl).symm)
  have hSd := hSH; have hSH : SHP X Γ H28 x1 ta td nd := hSH.kpM K.g1 hp1 rfl
  have hTc2 : TSm X td H24 H28 := TSm.kp1 hp1 hSH rfl; have hNc2 : NSm (nC nd H24) (nC nd H28) := nC_kp1 hp1 hSH rfl
  have hTrm := hTR; have hTm2 : TMm tm ts H24 H28 := TMm.kp TMm.rf hp1 K.gtm K.gts rfl; have hTR := hTR.same hTc2 hTm2
  have hpb := hp2b
  have hNm2 : NSm (nM na H24) (nM na H28) := nM_kp NSm.rf hp1 K.gna rfl; have hNrm := hNR; have hNR := hNR.same hTc2 hNc2 hNm2
  have hMO := (kp_R hp1 K.g1 (ci := 10) (k := 13) rfl (by decide) rfl).trans hMO; have hWK := (kp_R hp1 K.g2 (ci := 11) (k := 29) rfl (by decide) rfl).trans hWK
  have hMc2 : MoK X H24 H28 mo := MoK.kp1 hp1 K.gmo rfl
  have hWRm := hWR; have hWR := hWR.same hMc2 (MmK.kp MmK.rf hp1 K.g2 K.gwk rfl)
  have hC := hC28; have hS := hS28
  refine lv_pop hx hb dL_law_681 rfl ?_
  refine lv_goto (tgt := 1667) hx hb dL_law_682 rfl ?_
  exact hk _ _ hC hS hMI hMR hFR hSH hTR hNR hMO hWK hWR
set_option maxRecDepth 100000 in
set_option maxHeartbeats 4000000 in
theorem law_13 (l : Launch) {p : Program} {e : Env} {s : State} {m : MethodId} {below : List Frame} {meth : Method} {c : Code} {X : xW} {Γ : Nat → Option Nat} {b L : Nat} {xs : Nat → Int32} {x1 m1 ca ka oa ra ta tm ts na mo wk : Nat} {td nd : Nat → Nat} (K : LK p s m meth c X Γ b L xs x1 m1 ca ka oa ra tm ts na mo wk) {H : Heap} {locs : List Loc} {ls : Array Slot} {Q : State → Prop} {i : Int32} {z : Int} (ez : i.toInt = z) (h0z : 0 ≤ z) (hzL : z + 6 ≤ L) (hC : Conf X Γ H) (hS : va_S (AΓ Γ) s.heap H locs) (hMI : MI X H m1 ca) (hMR : mkI X H x1 = mmI X H m1) (hFR : flI X H ra = tpdI X H m1) (hSH : SHP X Γ H x1 ta td nd) (hTR : TRl X td tm ts H) (hNR : NRl X td nd na H) (hMO : sR H x1 (X.1.2 10 13) = some mo) (hWK : sR H m1 (X.1.2 11 29) = some wk) (hWR : WRl X H mo m1 wk) (hl : lv_has ls 4 [(3, .int i), (2, .ref m1), (1, .ref x1), (0, .ref b)]) (hk : ∀ (H1 : Heap) (locs1 : List Loc), Conf X Γ H1 → va_S (AΓ Γ) s.heap H1 locs1 → MI X H1 m1 ca → mkI X H1 x1 = mmI X H1 m1 → flI X H1 ra = tpdI X H1 m1 → SHP X Γ H1 x1 ta td nd → TRl X td tm ts H1 → NRl X td nd na H1 → sR H1 x1 (X.1.2 10 13) = some mo → sR H1 m1 (X.1.2 11 29) = some wk → WRl X H1 mo m1 wk → W p l e room_1 s m #[Value.ref b] below meth c H1 locs1 147 13128 Q (F0 m 1667 ls [])) : W p l e room_1 s m #[Value.ref b] below meth c H locs 147 13128 Q (F0 m 685 ls []) := by
  have E := K.E; have hx := E.1; have hb := E.2.1; have hLl := K.hL
  refine lv_aload_n hx hb dL_law_685 rfl (lv_at hl 2 rfl) ?_
  refine lv_aload_n hx hb dL_law_686 rfl (lv_at hl 3 rfl) ?_
  refine lv_iload_n hx hb dL_law_687 rfl (lv_at hl 0 rfl) ?_
  refine lv_iconst (v := 1) hx hb dL_law_688 rfl ?_
  refine lv_iadd hx hb dL_law_689 (lv_topi (fun v21 e21 => ?_))
  have e21i : v21.toInt = z + 1 := i_add e21 ez (by decide) (by omega) (by omega)
  refine va_sld hx hb K.hX K.hbl K.hbA hS (i_in e21i (by omega) (by omega)) dL_law_690 ?_
  refine lv_aload_n hx hb dL_law_691 rfl (lv_at hl 3 rfl) ?_
  refine lv_iload_n hx hb dL_law_692 rfl (lv_at hl 0 rfl) ?_
  refine lv_iconst (v := 2) hx hb dL_law_693 rfl ?_
  refine lv_iadd hx hb dL_law_694 (lv_topi (fun v22 e22 => ?_))
  have e22i : v22.toInt = z + 2 := i_add e22 ez (by decide) (by omega) (by omega)
  refine va_sld hx hb K.hX K.hbl K.hbA hS (i_in e22i (by omega) (by omega)) dL_law_695 ?_
  refine r_goI (r_runV (As := [.int (xs v21.toNatClampNeg), .int (xs v22.toNatClampNeg)]) (rest := []) E hC hS (m_X11_school l X Γ H hC x1 K.g1 (xs v21.toNatClampNeg) (a1 := ((xs v21.toNatClampNeg) : Int32).toInt) rfl (xs v22.toNatClampNeg) (a2 := ((xs v22.toNatClampNeg) : Int32).toInt) rfl) lcw_X11_school lcl_76 K.g1 ⟨rfl, rfl⟩ rfl hl.1 rfl (Nat.zero_le _) (by decide) (by decide) (by decide) (by decide) dL_law_696) hS (fun v23 H23 locs23 hp hC23 hS23 => ?_)
  obtain ⟨hp1, hp2a⟩ := hp
  have hMI : MI X H23 m1 ca := hMI.cl hC K.gca K.g2 hp1 rfl
  have hMR : mkI X H23 x1 = mmI X H23 m1 := (mk_kp hp1 K.g1 rfl).trans (hMR.trans (mm_kp hp1 K.g2 rfl).symm)
  have hFR : flI X H23 ra = tpdI X H23 m1 := (fl_kp hp1 K.gra rfl).trans (hFR.trans (tpd_kp hp1 K.g2 rfl).symm)
  have hSd := hSH; have hSH : SHP X Γ H23 x1 ta td nd := hSH.kp K.g1 hp1 rfl
  have hTr0 := hTR; have hNr0 := hNR; have hTm : TMm tm ts H H23 := TMm.kp0 hp1 K.gtm K.gts rfl; have hNm : NSm (nM na H) (nM na H23) := nM_kp0 hp1 K.gna rfl
  have hTc : TSm X td H H23 := TSm.kp TSm.rf hp1 hSH rfl; have hTR := hTR.same hTc hTm
  have hNc : NSm (nC nd H) (nC nd H23) := nC_kp NSm.rf hp1 hSH rfl; have hNR := hNR.same hTc hNc hNm
  have hpa := hp2a; have hCA := hC
  have hMO := (kp_R hp1 K.g1 (ci := 10) (k := 13) rfl (by decide) rfl).trans hMO; have hWK := (kp_R hp1 K.g2 (ci := 11) (k := 29) rfl (by decide) rfl).trans hWK
  have hWR0 := hWR; have hMm : MmK X H H23 m1 wk := MmK.kp0 hp1 K.g2 K.gwk rfl
  have hMc : MoK X H H23 mo := MoK.kp MoK.rf hp1 K.gmo rfl; have hWR := hWR.same hMc hMm
  have hC := hC23; have hS := hS23
  refine lv_pop hx hb dL_law_699 rfl ?_
  refine lv_aload_n hx hb dL_law_700 rfl (lv_at hl 1 rfl) ?_
  refine lv_aload_n hx hb dL_law_701 rfl (lv_at hl 3 rfl) ?_
  refine lv_iload_n hx hb dL_law_702 rfl (lv_at hl 0 rfl) ?_
  refine lv_iconst (v := 1) hx hb dL_law_703 rfl ?_
  refine lv_iadd hx hb dL_law_704 (lv_topi (fun v24 e24 => ?_))
  have e24i : v24.toInt = z + 1 := i_add e24 ez (by decide) (by omega) (by omega)
  have hq24 : v24 = v21 := e24.trans e21.symm
  refine va_sld hx hb K.hX K.hbl K.hbA hS (i_in e24i (by omega) (by omega)) dL_law_705 ?_
  rw [hq24]
  refine lv_aload_n hx hb dL_law_706 rfl (lv_at hl 3 rfl) ?_
  refine lv_iload_n hx hb dL_law_707 rfl (lv_at hl 0 rfl) ?_
  refine lv_iconst (v := 2) hx hb dL_law_708 rfl ?_
  refine lv_iadd hx hb dL_law_709 (lv_topi (fun v25 e25 => ?_))
  have e25i : v25.toInt = z + 2 := i_add e25 ez (by decide) (by omega) (by omega)
  have hq25 : v25 = v22 := e25.trans e22.symm
  refine va_sld hx hb K.hX K.hbl K.hbA hS (i_in e25i (by omega) (by omega)) dL_law_710 ?_
  rw [hq25]
  refine r_goI (r_runV (As := [.int (xs v21.toNatClampNeg), .int (xs v22.toNatClampNeg)]) (rest := []) E hC hS (m_X12_school l X Γ H23 hC m1 K.g2 (xs v21.toNatClampNeg) (a1 := ((xs v21.toNatClampNeg) : Int32).toInt) rfl (xs v22.toNatClampNeg) (a2 := ((xs v22.toNatClampNeg) : Int32).toInt) rfl ca K.gca K.uc) lcw_X12_school lcl_80 K.g2 ⟨rfl, rfl⟩ rfl hl.1 rfl (Nat.zero_le _) (by decide) (by decide) (by decide) (by decide) dL_law_711) hS (fun v26 H26 locs26 hp hC26 hS26 => ?_)
  obtain ⟨hp1, hp2b⟩ := hp
  have hMI : MI X H26 m1 ca := hMI.kp hC K.gca K.g2 hp1 rfl rfl rfl
  have hMR : mkI X H26 x1 = mmI X H26 m1 := (mk_kp hp1 K.g1 rfl).trans (hMR.trans (mm_kp hp1 K.g2 rfl).symm)
  have hFR : flI X H26 ra = tpdI X H26 m1 := (fl_kp hp1 K.gra rfl).trans (hFR.trans (tpd_kp hp1 K.g2 rfl).symm)
  have hSd := hSH; have hSH : SHP X Γ H26 x1 ta td nd := hSH.kpM K.g1 hp1 rfl
  have hTc2 : TSm X td H23 H26 := TSm.kp1 hp1 hSH rfl; have hNc2 : NSm (nC nd H23) (nC nd H26) := nC_kp1 hp1 hSH rfl
  have hTrm := hTR; have hTm2 : TMm tm ts H23 H26 := TMm.kp TMm.rf hp1 K.gtm K.gts rfl; have hTR := hTR.same hTc2 hTm2
  have hpb := hp2b
  have hNm2 : NSm (nM na H23) (nM na H26) := nM_kp NSm.rf hp1 K.gna rfl; have hNrm := hNR; have hNR := hNR.same hTc2 hNc2 hNm2
  have hMO := (kp_R hp1 K.g1 (ci := 10) (k := 13) rfl (by decide) rfl).trans hMO; have hWK := (kp_R hp1 K.g2 (ci := 11) (k := 29) rfl (by decide) rfl).trans hWK
  have hMc2 : MoK X H23 H26 mo := MoK.kp1 hp1 K.gmo rfl
  have hWRm := hWR; have hWR := hWR.same hMc2 (MmK.kp MmK.rf hp1 K.g2 K.gwk rfl)
  have hC := hC26; have hS := hS26
  refine lv_pop hx hb dL_law_714 rfl ?_
  refine lv_goto (tgt := 1667) hx hb dL_law_715 rfl ?_
  exact hk _ _ hC hS hMI hMR hFR hSH hTR hNR hMO hWK hWR
set_option maxRecDepth 100000 in
set_option maxHeartbeats 4000000 in
theorem law_14 (l : Launch) {p : Program} {e : Env} {s : State} {m : MethodId} {below : List Frame} {meth : Method} {c : Code} {X : xW} {Γ : Nat → Option Nat} {b L : Nat} {xs : Nat → Int32} {x1 m1 ca ka oa ra ta tm ts na mo wk : Nat} {td nd : Nat → Nat} (K : LK p s m meth c X Γ b L xs x1 m1 ca ka oa ra tm ts na mo wk) {H : Heap} {locs : List Loc} {ls : Array Slot} {Q : State → Prop} {i : Int32} {z : Int} (ez : i.toInt = z) (h0z : 0 ≤ z) (hzL : z + 6 ≤ L) (hC : Conf X Γ H) (hS : va_S (AΓ Γ) s.heap H locs) (hMI : MI X H m1 ca) (hMR : mkI X H x1 = mmI X H m1) (hFR : flI X H ra = tpdI X H m1) (hSH : SHP X Γ H x1 ta td nd) (hTR : TRl X td tm ts H) (hNR : NRl X td nd na H) (hMO : sR H x1 (X.1.2 10 13) = some mo) (hWK : sR H m1 (X.1.2 11 29) = some wk) (hWR : WRl X H mo m1 wk) (hl : lv_has ls 4 [(3, .int i), (2, .ref m1), (1, .ref x1), (0, .ref b)]) (hk : ∀ (H1 : Heap) (locs1 : List Loc), Conf X Γ H1 → va_S (AΓ Γ) s.heap H1 locs1 → MI X H1 m1 ca → mkI X H1 x1 = mmI X H1 m1 → flI X H1 ra = tpdI X H1 m1 → SHP X Γ H1 x1 ta td nd → TRl X td tm ts H1 → NRl X td nd na H1 → sR H1 x1 (X.1.2 10 13) = some mo → sR H1 m1 (X.1.2 11 29) = some wk → WRl X H1 mo m1 wk → W p l e room_1 s m #[Value.ref b] below meth c H1 locs1 147 13128 Q (F0 m 1667 ls [])) : W p l e room_1 s m #[Value.ref b] below meth c H locs 147 13128 Q (F0 m 718 ls []) := by
  have E := K.E; have hx := E.1; have hb := E.2.1; have hLl := K.hL
  refine lv_aload_n hx hb dL_law_718 rfl (lv_at hl 2 rfl) ?_
  refine lv_aload_n hx hb dL_law_719 rfl (lv_at hl 3 rfl) ?_
  refine lv_iload_n hx hb dL_law_720 rfl (lv_at hl 0 rfl) ?_
  refine lv_iconst (v := 1) hx hb dL_law_721 rfl ?_
  refine lv_iadd hx hb dL_law_722 (lv_topi (fun v21 e21 => ?_))
  have e21i : v21.toInt = z + 1 := i_add e21 ez (by decide) (by omega) (by omega)
  refine va_sld hx hb K.hX K.hbl K.hbA hS (i_in e21i (by omega) (by omega)) dL_law_723 ?_
  refine r_goI (r_runV (As := [.int (xs v21.toNatClampNeg)]) (rest := []) E hC hS (m_X11_article l X Γ H hC x1 K.g1 (xs v21.toNatClampNeg) (a1 := ((xs v21.toNatClampNeg) : Int32).toInt) rfl) lcw_X11_article lcl_81 K.g1 ⟨rfl, rfl⟩ rfl hl.1 rfl (Nat.zero_le _) (by decide) (by decide) (by decide) (by decide) dL_law_724) hS (fun v22 H22 locs22 hp hC22 hS22 => ?_)
  obtain ⟨hp1, hp2a⟩ := hp
  have hMI : MI X H22 m1 ca := hMI.cl hC K.gca K.g2 hp1 rfl
  have hMR : mkI X H22 x1 = mmI X H22 m1 := (mk_kp hp1 K.g1 rfl).trans (hMR.trans (mm_kp hp1 K.g2 rfl).symm)
  have hFR : flI X H22 ra = tpdI X H22 m1 := (fl_kp hp1 K.gra rfl).trans (hFR.trans (tpd_kp hp1 K.g2 rfl).symm)
  have hSd := hSH; have hSH : SHP X Γ H22 x1 ta td nd := hSH.kp K.g1 hp1 rfl
  have hTr0 := hTR; have hNr0 := hNR; have hTm : TMm tm ts H H22 := TMm.kp0 hp1 K.gtm K.gts rfl; have hNm : NSm (nM na H) (nM na H22) := nM_kp0 hp1 K.gna rfl
  have hTc : TSm X td H H22 := TSm.kp TSm.rf hp1 hSH rfl; have hTR := hTR.same hTc hTm
  have hNc : NSm (nC nd H) (nC nd H22) := nC_kp NSm.rf hp1 hSH rfl; have hNR := hNR.same hTc hNc hNm
  have hpa := hp2a; have hCA := hC
  have hMO := (kp_R hp1 K.g1 (ci := 10) (k := 13) rfl (by decide) rfl).trans hMO; have hWK := (kp_R hp1 K.g2 (ci := 11) (k := 29) rfl (by decide) rfl).trans hWK
  have hWR0 := hWR; have hMm : MmK X H H22 m1 wk := MmK.kp0 hp1 K.g2 K.gwk rfl
  have hMc : MoK X H H22 mo := MoK.kp MoK.rf hp1 K.gmo rfl; have hWR := hWR.same hMc hMm
  have hC := hC22; have hS := hS22
  refine lv_pop hx hb dL_law_727 rfl ?_
  refine lv_aload_n hx hb dL_law_728 rfl (lv_at hl 1 rfl) ?_
  refine lv_aload_n hx hb dL_law_729 rfl (lv_at hl 3 rfl) ?_
  refine lv_iload_n hx hb dL_law_730 rfl (lv_at hl 0 rfl) ?_
  refine lv_iconst (v := 1) hx hb dL_law_731 rfl ?_
  refine lv_iadd hx hb dL_law_732 (lv_topi (fun v23 e23 => ?_))
  have e23i : v23.toInt = z + 1 := i_add e23 ez (by decide) (by omega) (by omega)
  have hq23 : v23 = v21 := e23.trans e21.symm
  refine va_sld hx hb K.hX K.hbl K.hbA hS (i_in e23i (by omega) (by omega)) dL_law_733 ?_
  rw [hq23]
  refine r_goI (r_runV (As := [.int (xs v21.toNatClampNeg)]) (rest := []) E hC hS (m_X12_article l X Γ H22 hC m1 K.g2 (xs v21.toNatClampNeg) (a1 := ((xs v21.toNatClampNeg) : Int32).toInt) rfl ca K.gca K.uc) lcw_X12_article lcl_84 K.g2 ⟨rfl, rfl⟩ rfl hl.1 rfl (Nat.zero_le _) (by decide) (by decide) (by decide) (by decide) dL_law_734) hS (fun v24 H24 locs24 hp hC24 hS24 => ?_)
  obtain ⟨hp1, hp2b⟩ := hp
  have hMI : MI X H24 m1 ca := hMI.kp hC K.gca K.g2 hp1 rfl rfl rfl
  have hMR : mkI X H24 x1 = mmI X H24 m1 := (mk_kp hp1 K.g1 rfl).trans (hMR.trans (mm_kp hp1 K.g2 rfl).symm)
  have hFR : flI X H24 ra = tpdI X H24 m1 := (fl_kp hp1 K.gra rfl).trans (hFR.trans (tpd_kp hp1 K.g2 rfl).symm)
  have hSd := hSH; have hSH : SHP X Γ H24 x1 ta td nd := hSH.kpM K.g1 hp1 rfl
  have hTc2 : TSm X td H22 H24 := TSm.kp1 hp1 hSH rfl; have hNc2 : NSm (nC nd H22) (nC nd H24) := nC_kp1 hp1 hSH rfl
  have hTrm := hTR; have hTm2 : TMm tm ts H22 H24 := TMm.kp TMm.rf hp1 K.gtm K.gts rfl; have hTR := hTR.same hTc2 hTm2
  have hpb := hp2b
  have hNm2 : NSm (nM na H22) (nM na H24) := nM_kp NSm.rf hp1 K.gna rfl; have hNrm := hNR; have hNR := hNR.same hTc2 hNc2 hNm2
  have hMO := (kp_R hp1 K.g1 (ci := 10) (k := 13) rfl (by decide) rfl).trans hMO; have hWK := (kp_R hp1 K.g2 (ci := 11) (k := 29) rfl (by decide) rfl).trans hWK
  have hMc2 : MoK X H22 H24 mo := MoK.kp1 hp1 K.gmo rfl
  have hWRm := hWR; have hWR := hWR.same hMc2 (MmK.kp MmK.rf hp1 K.g2 K.gwk rfl)
  have hC := hC24; have hS := hS24
  refine lv_pop hx hb dL_law_737 rfl ?_
  refine lv_goto (tgt := 1667) hx hb dL_law_738 rfl ?_
  exact hk _ _ hC hS hMI hMR hFR hSH hTR hNR hMO hWK hWR
set_option maxRecDepth 100000 in
set_option maxHeartbeats 4000000 in
theorem law_15 (l : Launch) {p : Program} {e : Env} {s : State} {m : MethodId} {below : List Frame} {meth : Method} {c : Code} {X : xW} {Γ : Nat → Option Nat} {b L : Nat} {xs : Nat → Int32} {x1 m1 ca ka oa ra ta tm ts na mo wk : Nat} {td nd : Nat → Nat} (K : LK p s m meth c X Γ b L xs x1 m1 ca ka oa ra tm ts na mo wk) {H : Heap} {locs : List Loc} {ls : Array Slot} {Q : State → Prop} {i : Int32} {z : Int} (ez : i.toInt = z) (h0z : 0 ≤ z) (hzL : z + 6 ≤ L) (hC : Conf X Γ H) (hS : va_S (AΓ Γ) s.heap H locs) (hMI : MI X H m1 ca) (hMR : mkI X H x1 = mmI X H m1) (hFR : flI X H ra = tpdI X H m1) (hSH : SHP X Γ H x1 ta td nd) (hTR : TRl X td tm ts H) (hNR : NRl X td nd na H) (hMO : sR H x1 (X.1.2 10 13) = some mo) (hWK : sR H m1 (X.1.2 11 29) = some wk) (hWR : WRl X H mo m1 wk) (hl : lv_has ls 4 [(3, .int i), (2, .ref m1), (1, .ref x1), (0, .ref b)]) (hk : ∀ (H1 : Heap) (locs1 : List Loc), Conf X Γ H1 → va_S (AΓ Γ) s.heap H1 locs1 → MI X H1 m1 ca → mkI X H1 x1 = mmI X H1 m1 → flI X H1 ra = tpdI X H1 m1 → SHP X Γ H1 x1 ta td nd → TRl X td tm ts H1 → NRl X td nd na H1 → sR H1 x1 (X.1.2 10 13) = some mo → sR H1 m1 (X.1.2 11 29) = some wk → WRl X H1 mo m1 wk → W p l e room_1 s m #[Value.ref b] below meth c H1 locs1 147 13128 Q (F0 m 1667 ls [])) : W p l e room_1 s m #[Value.ref b] below meth c H locs 147 13128 Q (F0 m 741 ls []) := by
  have E := K.E; have hx := E.1; have hb := E.2.1; have hLl := K.hL
  refine lv_aload_n hx hb dL_law_741 rfl (lv_at hl 2 rfl) ?_
  refine lv_aload_n hx hb dL_law_742 rfl (lv_at hl 3 rfl) ?_
  refine lv_iload_n hx hb dL_law_743 rfl (lv_at hl 0 rfl) ?_
  refine lv_iconst (v := 1) hx hb dL_law_744 rfl ?_
  refine lv_iadd hx hb dL_law_745 (lv_topi (fun v21 e21 => ?_))
  have e21i : v21.toInt = z + 1 := i_add e21 ez (by decide) (by omega) (by omega)
  refine va_sld hx hb K.hX K.hbl K.hbA hS (i_in e21i (by omega) (by omega)) dL_law_746 ?_
  refine r_goI (r_runV (As := [.int (xs v21.toNatClampNeg)]) (rest := []) E hC hS (m_X11_breach l X Γ H hC x1 K.g1 (xs v21.toNatClampNeg) (a1 := ((xs v21.toNatClampNeg) : Int32).toInt) rfl) lcw_X11_breach lcl_85 K.g1 ⟨rfl, rfl⟩ rfl hl.1 rfl (Nat.zero_le _) (by decide) (by decide) (by decide) (by decide) dL_law_747) hS (fun v22 H22 locs22 hp hC22 hS22 => ?_)
  obtain ⟨hp1, hp2a⟩ := hp
  have hMI : MI X H22 m1 ca := hMI.cl hC K.gca K.g2 hp1 rfl
  have hMR : mkI X H22 x1 = mmI X H22 m1 := (mk_kp hp1 K.g1 rfl).trans (hMR.trans (mm_kp hp1 K.g2 rfl).symm)
  have hFR : flI X H22 ra = tpdI X H22 m1 := (fl_kp hp1 K.gra rfl).trans (hFR.trans (tpd_kp hp1 K.g2 rfl).symm)
  have hSd := hSH; have hSH : SHP X Γ H22 x1 ta td nd := hSH.kp K.g1 hp1 rfl
  have hTr0 := hTR; have hNr0 := hNR; have hTm : TMm tm ts H H22 := TMm.kp0 hp1 K.gtm K.gts rfl; have hNm : NSm (nM na H) (nM na H22) := nM_kp0 hp1 K.gna rfl
  have hTc : TSm X td H H22 := TSm.kp TSm.rf hp1 hSH rfl; have hTR := hTR.same hTc hTm
  have hNc : NSm (nC nd H) (nC nd H22) := nC_kp NSm.rf hp1 hSH rfl; have hNR := hNR.same hTc hNc hNm
  have hpa := hp2a; have hCA := hC
  have hMO := (kp_R hp1 K.g1 (ci := 10) (k := 13) rfl (by decide) rfl).trans hMO; have hWK := (kp_R hp1 K.g2 (ci := 11) (k := 29) rfl (by decide) rfl).trans hWK
  have hWR0 := hWR; have hMm : MmK X H H22 m1 wk := MmK.kp0 hp1 K.g2 K.gwk rfl
  have hMc : MoK X H H22 mo := MoK.kp MoK.rf hp1 K.gmo rfl; have hWR := hWR.same hMc hMm
  have hC := hC22; have hS := hS22
  refine lv_pop hx hb dL_law_750 rfl ?_
  refine lv_aload_n hx hb dL_law_751 rfl (lv_at hl 1 rfl) ?_
  refine lv_aload_n hx hb dL_law_752 rfl (lv_at hl 3 rfl) ?_
  refine lv_iload_n hx hb dL_law_753 rfl (lv_at hl 0 rfl) ?_
  refine lv_iconst (v := 1) hx hb dL_law_754 rfl ?_
  refine lv_iadd hx hb dL_law_755 (lv_topi (fun v23 e23 => ?_))
  have e23i : v23.toInt = z + 1 := i_add e23 ez (by decide) (by omega) (by omega)
  have hq23 : v23 = v21 := e23.trans e21.symm
  refine va_sld hx hb K.hX K.hbl K.hbA hS (i_in e23i (by omega) (by omega)) dL_law_756 ?_
  rw [hq23]
  refine r_goI (r_runV (As := [.int (xs v21.toNatClampNeg)]) (rest := []) E hC hS (m_X12_breach l X Γ H22 hC m1 K.g2 (xs v21.toNatClampNeg) (a1 := ((xs v21.toNatClampNeg) : Int32).toInt) rfl ca K.gca K.uc) lcw_X12_breach lcl_88 K.g2 ⟨rfl, rfl⟩ rfl hl.1 rfl (Nat.zero_le _) (by decide) (by decide) (by decide) (by decide) dL_law_757) hS (fun v24 H24 locs24 hp hC24 hS24 => ?_)
  obtain ⟨hp1, hp2b⟩ := hp
  have hMI : MI X H24 m1 ca := hMI.kp hC K.gca K.g2 hp1 rfl rfl rfl
  have hMR : mkI X H24 x1 = mmI X H24 m1 := (mk_kp hp1 K.g1 rfl).trans (hMR.trans (mm_kp hp1 K.g2 rfl).symm)
  have hFR : flI X H24 ra = tpdI X H24 m1 := (fl_kp hp1 K.gra rfl).trans (hFR.trans (tpd_kp hp1 K.g2 rfl).symm)
  have hSd := hSH; have hSH : SHP X Γ H24 x1 ta td nd := hSH.kpM K.g1 hp1 rfl
  have hTc2 : TSm X td H22 H24 := TSm.kp1 hp1 hSH rfl; have hNc2 : NSm (nC nd H22) (nC nd H24) := nC_kp1 hp1 hSH rfl
  have hTrm := hTR; have hTm2 : TMm tm ts H22 H24 := TMm.kp TMm.rf hp1 K.gtm K.gts rfl; have hTR := hTR.same hTc2 hTm2
  have hpb := hp2b
  have hNm2 : NSm (nM na H22) (nM na H24) := nM_kp NSm.rf hp1 K.gna rfl; have hNrm := hNR; have hNR := hNR.same hTc2 hNc2 hNm2
  have hMO := (kp_R hp1 K.g1 (ci := 10) (k := 13) rfl (by decide) rfl).trans hMO; have hWK := (kp_R hp1 K.g2 (ci := 11) (k := 29) rfl (by decide) rfl).trans hWK
  have hMc2 : MoK X H22 H24 mo := MoK.kp1 hp1 K.gmo rfl
  have hWRm := hWR; have hWR := hWR.same hMc2 (MmK.kp MmK.rf hp1 K.g2 K.gwk rfl)
  have hC := hC24; have hS := hS24
  refine lv_pop hx hb dL_law_760 rfl ?_
  refine lv_goto (tgt := 1667) hx hb dL_law_761 rfl ?_
  exact hk _ _ hC hS hMI hMR hFR hSH hTR hNR hMO hWK hWR
