set_option maxRecDepth 100000 in
set_option maxHeartbeats 4000000 in
theorem law_32 (l : Launch) {p : Program} {e : Env} {s : State} {m : MethodId} {below : List Frame} {meth : Method} {c : Code} {X : xW} {Γ : Nat → Option Nat} {b L : Nat} {xs : Nat → Int32} {x1 m1 ca ka oa ra ta tm ts na mo wk : Nat} {td nd : Nat → Nat} (K : LK p s m meth c X Γ b L xs x1 m1 ca ka oa ra tm ts na mo wk) {H : Heap} {locs : List Loc} {ls : Array Slot} {Q : State → Prop} {i : Int32} {z : Int} (ez : i.toInt = z) (h0z : 0 ≤ z) (hzL : z + 6 ≤ L) (hC : Conf X Γ H) (hS : va_S (AΓ Γ) s.heap H locs) (hMI : MI X H m1 ca) (hMR : mkI X H x1 = mmI X H m1) (hFR : flI X H ra = tpdI X H m1) (hSH : SHP X Γ H x1 ta td nd) (hTR : TRl X td tm ts H) (hNR : NRl X td nd na H) (hMO : sR H x1 (X.1.2 10 13) = some mo) (hWK : sR H m1 (X.1.2 11 29) = some wk) (hWR : WRl X H mo m1 wk) (hl : lv_has ls 4 [(3, .int i), (2, .ref m1), (1, .ref x1), (0, .ref b)]) (hk : ∀ (H1 : Heap) (locs1 : List Loc), Conf X Γ H1 → va_S (AΓ Γ) s.heap H1 locs1 → MI X H1 m1 ca → mkI X H1 x1 = mmI X H1 m1 → flI X H1 ra = tpdI X H1 m1 → SHP X Γ H1 x1 ta td nd → TRl X td tm ts H1 → NRl X td nd na H1 → sR H1 x1 (X.1.2 10 13) = some mo → sR H1 m1 (X.1.2 11 29) = some wk → WRl X H1 mo m1 wk → W p l e room_1 s m #[Value.ref b] below meth c H1 locs1 147 13128 Q (F0 m 1667 ls [])) : W p l e room_1 s m #[Value.ref b] below meth c H locs 147 13128 Q (F0 m 1202 ls []) := by
  have E := K.E; have hx := E.1; have hb := E.2.1; have hLl := K.hL
  refine lv_aload_n hx hb dL_law_1202 rfl (lv_at hl 2 rfl) ?_
  refine r_goI (r_runV (As := []) (rest := []) E hC hS (m_X11_peace l X Γ H hC x1 K.g1) lcw_X11_peace lcl_154 K.g1 ⟨rfl, rfl⟩ rfl hl.1 rfl (Nat.zero_le _) (by decide) (by decide) (by decide) (by decide) dL_law_1203) hS (fun v21 H21 locs21 hp hC21 hS21 => ?_)
  obtain ⟨hp1, hp2a⟩ := hp
  have hMI : MI X H21 m1 ca := hMI.cl hC K.gca K.g2 hp1 rfl
  have hMR : mkI X H21 x1 = mmI X H21 m1 := (mk_kp hp1 K.g1 rfl).trans (hMR.trans (mm_kp hp1 K.g2 rfl).symm)
  have hFR : flI X H21 ra = tpdI X H21 m1 := (fl_kp hp1 K.gra rfl).trans (hFR.trans (tpd_kp hp1 K.g2 rfl).symm)
  have hSd := hSH; have hSH : SHP X Γ H21 x1 ta td nd := hSH.kp K.g1 hp1 rfl
  have hTr0 := hTR; have hNr0 := hNR; have hTm : TMm tm ts H H21 := TMm.kp0 hp1 K.gtm K.gts rfl; have hNm : NSm (nM na H) (nM na H21) := nM_kp0 hp1 K.gna rfl
  have hTc : TSm X td H H21 := TSm.kp TSm.rf hp1 hSH rfl; have hTR := hTR.same hTc hTm
  have hNc : NSm (nC nd H) (nC nd H21) := nC_kp NSm.rf hp1 hSH rfl; have hNR := hNR.same hTc hNc hNm
  have hpa := hp2a; have hCA := hC
  have hMO := (kp_R hp1 K.g1 (ci := 10) (k := 13) rfl (by decide) rfl).trans hMO; have hWK := (kp_R hp1 K.g2 (ci := 11) (k := 29) rfl (by decide) rfl).trans hWK
  have hWR0 := hWR; have hMm : MmK X H H21 m1 wk := MmK.kp0 hp1 K.g2 K.gwk rfl
  have hMc : MoK X H H21 mo := MoK.kp MoK.rf hp1 K.gmo rfl; have hWR := hWR.same hMc hMm
  have hC := hC21; have hS := hS21
  refine lv_pop hx hb dL_law_1206 rfl ?_
  refine lv_aload_n hx hb dL_law_1207 rfl (lv_at hl 1 rfl) ?_
  refine r_goI (r_runV (As := []) (rest := []) E hC hS (m_X12_peace l X Γ H21 hC m1 K.g2 ca K.gca K.uc oa K.goa K.uo) lcw_X12_peace lcl_157 K.g2 ⟨rfl, rfl⟩ rfl hl.1 rfl (Nat.zero_le _) (by decide) (by decide) (by decide) (by decide) dL_law_1208) hS (fun v22 H22 locs22 hp hC22 hS22 => ?_)
  obtain ⟨hp1, hp2b⟩ := hp
  have hMI : MI X H22 m1 ca := hMI.kp hC K.gca K.g2 hp1 rfl rfl rfl
  have hMR : mkI X H22 x1 = mmI X H22 m1 := (mk_kp hp1 K.g1 rfl).trans (hMR.trans (mm_kp hp1 K.g2 rfl).symm)
  have hFR : flI X H22 ra = tpdI X H22 m1 := (fl_kp hp1 K.gra rfl).trans (hFR.trans (tpd_kp hp1 K.g2 rfl).symm)
  have hSd := hSH; have hSH : SHP X Γ H22 x1 ta td nd := hSH.kpM K.g1 hp1 rfl
  have hTc2 : TSm X td H21 H22 := TSm.kp1 hp1 hSH rfl; have hNc2 : NSm (nC nd H21) (nC nd H22) := nC_kp1 hp1 hSH rfl
  have hTrm := hTR; have hTm2 : TMm tm ts H21 H22 := TMm.kp TMm.rf hp1 K.gtm K.gts rfl; have hTR := hTR.same hTc2 hTm2
  have hpb := hp2b
  have hNm2 : NSm (nM na H21) (nM na H22) := nM_kp NSm.rf hp1 K.gna rfl; have hNrm := hNR; have hNR := hNR.same hTc2 hNc2 hNm2
  have hMO := (kp_R hp1 K.g1 (ci := 10) (k := 13) rfl (by decide) rfl).trans hMO; have hWK := (kp_R hp1 K.g2 (ci := 11) (k := 29) rfl (by decide) rfl).trans hWK
  have hMc2 : MoK X H21 H22 mo := MoK.kp1 hp1 K.gmo rfl
  have hWRm := hWR; have hWR := hWR.same hMc2 (MmK.kp MmK.rf hp1 K.g2 K.gwk rfl)
  have hC := hC22; have hS := hS22
  refine lv_pop hx hb dL_law_1211 rfl ?_
  refine lv_goto (tgt := 1667) hx hb dL_law_1212 rfl ?_
  exact hk _ _ hC hS hMI hMR hFR hSH hTR hNR hMO hWK hWR
set_option maxRecDepth 100000 in
set_option maxHeartbeats 4000000 in
theorem law_33 (l : Launch) {p : Program} {e : Env} {s : State} {m : MethodId} {below : List Frame} {meth : Method} {c : Code} {X : xW} {Γ : Nat → Option Nat} {b L : Nat} {xs : Nat → Int32} {x1 m1 ca ka oa ra ta tm ts na mo wk : Nat} {td nd : Nat → Nat} (K : LK p s m meth c X Γ b L xs x1 m1 ca ka oa ra tm ts na mo wk) {H : Heap} {locs : List Loc} {ls : Array Slot} {Q : State → Prop} {i : Int32} {z : Int} (ez : i.toInt = z) (h0z : 0 ≤ z) (hzL : z + 6 ≤ L) (hC : Conf X Γ H) (hS : va_S (AΓ Γ) s.heap H locs) (hMI : MI X H m1 ca) (hMR : mkI X H x1 = mmI X H m1) (hFR : flI X H ra = tpdI X H m1) (hSH : SHP X Γ H x1 ta td nd) (hTR : TRl X td tm ts H) (hNR : NRl X td nd na H) (hMO : sR H x1 (X.1.2 10 13) = some mo) (hWK : sR H m1 (X.1.2 11 29) = some wk) (hWR : WRl X H mo m1 wk) (hl : lv_has ls 4 [(3, .int i), (2, .ref m1), (1, .ref x1), (0, .ref b)]) (hk : ∀ (H1 : Heap) (locs1 : List Loc), Conf X Γ H1 → va_S (AΓ Γ) s.heap H1 locs1 → MI X H1 m1 ca → mkI X H1 x1 = mmI X H1 m1 → flI X H1 ra = tpdI X H1 m1 → SHP X Γ H1 x1 ta td nd → TRl X td tm ts H1 → NRl X td nd na H1 → sR H1 x1 (X.1.2 10 13) = some mo → sR H1 m1 (X.1.2 11 29) = some wk → WRl X H1 mo m1 wk → W p l e room_1 s m #[Value.ref b] below meth c H1 locs1 147 13128 Q (F0 m 1667 ls [])) : W p l e room_1 s m #[Value.ref b] below meth c H locs 147 13128 Q (F0 m 1215 ls []) := by
  have E := K.E; have hx := E.1; have hb := E.2.1; have hLl := K.hL
  refine lv_aload_n hx hb dL_law_1215 rfl (lv_at hl 2 rfl) ?_
  refine lv_aload_n hx hb dL_law_1216 rfl (lv_at hl 3 rfl) ?_
  refine lv_iload_n hx hb dL_law_1217 rfl (lv_at hl 0 rfl) ?_
  refine lv_iconst (v := 1) hx hb dL_law_1218 rfl ?_
  refine lv_iadd hx hb dL_law_1219 (lv_topi (fun v21 e21 => ?_))
  have e21i : v21.toInt = z + 1 := i_add e21 ez (by decide) (by omega) (by omega)
  refine va_sld hx hb K.hX K.hbl K.hbA hS (i_in e21i (by omega) (by omega)) dL_law_1220 ?_
  refine lv_aload_n hx hb dL_law_1221 rfl (lv_at hl 3 rfl) ?_
  refine lv_iload_n hx hb dL_law_1222 rfl (lv_at hl 0 rfl) ?_
  refine lv_iconst (v := 2) hx hb dL_law_1223 rfl ?_
  refine lv_iadd hx hb dL_law_1224 (lv_topi (fun v22 e22 => ?_))
  have e22i : v22.toInt = z + 2 := i_add e22 ez (by decide) (by omega) (by omega)
  refine va_sld hx hb K.hX K.hbl K.hbA hS (i_in e22i (by omega) (by omega)) dL_law_1225 ?_
  refine r_goI (r_runV (As := [.int (xs v21.toNatClampNeg), .int (xs v22.toNatClampNeg)]) (rest := []) E hC hS (m_X11_look l X Γ H hC x1 K.g1 (xs v21.toNatClampNeg) (a1 := ((xs v21.toNatClampNeg) : Int32).toInt) rfl (xs v22.toNatClampNeg) (a2 := ((xs v22.toNatClampNeg) : Int32).toInt) rfl) lcw_X11_look lcl_158 K.g1 ⟨rfl, rfl⟩ rfl hl.1 rfl (Nat.zero_le _) (by decide) (by decide) (by decide) (by decide) dL_law_1226) hS (fun v23 H23 locs23 hp hC23 hS23 => ?_)
  obtain ⟨hp1, hp2a⟩ := hp
  have hMI : MI X H23 m1 ca := hMI.cl hC K.gca K.g2 hp1 rfl
  have hMR : mkI X H23 x1 = mmI X H23 m1 := (mk_kp hp1 K.g1 rfl).trans (hMR.trans (mm_kp hp1 K.g2 rfl).symm)
  have hFR : flI X H23 ra = tpdI X H23 m1 := (fl_kp hp1 K.gra rfl).trans (hFR.trans (tpd_kp hp1 K.g2 rfl).symm)
  have hSd := hSH; have hSH : SHP X Γ H23 x1 ta td nd := hSH.kp K.g1 hp1 rfl
  have hTr0 := hTR; have hNr0 := hNR; have hTm : TMm tm ts H H23 := TMm.kp0 hp1 K.gtm K.gts rfl; have hNm : NSm (nM na H) (nM na H23) := nM_kp0 hp1 K.gna rfl
  have hTc : TSm X td H H23 := TSm.kp TSm.rf hp1 hSH rfl; have hTR := hTR.same hTc hTm
  have hNc : NSm (nC nd H) (nC nd H23) := nC_kp NSm.rf hp1 hSH rfl; have hNR := hNR.same hTc hNc hNm
  have hpa := hp2a; have hCA := hC
  have hMO := (kp_R hp1 K.g1 (ci := 10) (k := 13) rfl (by decide) rfl).trans hMO; have hWK := (kp_R hp1 K.g2 (ci := 11) (k := 29) rfl (by decide) rfl).trans hWK
  have hWR0 := hWR; have hMm : MmK X H H23 m1 wk := MmK.kp0 hp1 K.g2 K.gwk rfl
  have hMc : MoK X H H23 mo := MoK.kp MoK.rf hp1 K.gmo rfl; have hWR := hWR.same hMc hMm
  have hC := hC23; have hS := hS23
  refine lv_pop hx hb dL_law_1229 rfl ?_
  refine lv_aload_n hx hb dL_law_1230 rfl (lv_at hl 1 rfl) ?_
  refine lv_aload_n hx hb dL_law_1231 rfl (lv_at hl 3 rfl) ?_
  refine lv_iload_n hx hb dL_law_1232 rfl (lv_at hl 0 rfl) ?_
  refine lv_iconst (v := 1) hx hb dL_law_1233 rfl ?_
  refine lv_iadd hx hb dL_law_1234 (lv_topi (fun v24 e24 => ?_))
  have e24i : v24.toInt = z + 1 := i_add e24 ez (by decide) (by omega) (by omega)
  have hq24 : v24 = v21 := e24.trans e21.symm
  refine va_sld hx hb K.hX K.hbl K.hbA hS (i_in e24i (by omega) (by omega)) dL_law_1235 ?_
  rw [hq24]
  refine lv_aload_n hx hb dL_law_1236 rfl (lv_at hl 3 rfl) ?_
  refine lv_iload_n hx hb dL_law_1237 rfl (lv_at hl 0 rfl) ?_
  refine lv_iconst (v := 2) hx hb dL_law_1238 rfl ?_
  refine lv_iadd hx hb dL_law_1239 (lv_topi (fun v25 e25 => ?_))
  have e25i : v25.toInt = z + 2 := i_add e25 ez (by decide) (by omega) (by omega)
  have hq25 : v25 = v22 := e25.trans e22.symm
  refine va_sld hx hb K.hX K.hbl K.hbA hS (i_in e25i (by omega) (by omega)) dL_law_1240 ?_
  rw [hq25]
  refine r_goI (r_runV (As := [.int (xs v21.toNatClampNeg), .int (xs v22.toNatClampNeg)]) (rest := []) E hC hS (m_X12_look l X Γ H23 hC m1 K.g2 (xs v21.toNatClampNeg) (a1 := ((xs v21.toNatClampNeg) : Int32).toInt) rfl (xs v22.toNatClampNeg) (a2 := ((xs v22.toNatClampNeg) : Int32).toInt) rfl ca K.gca K.uc) lcw_X12_look lcl_161 K.g2 ⟨rfl, rfl⟩ rfl hl.1 rfl (Nat.zero_le _) (by decide) (by decide) (by decide) (by decide) dL_law_1241) hS (fun v26 H26 locs26 hp hC26 hS26 => ?_)
  obtain ⟨hp1, hp2b⟩ := hp
  have hMI : MI X H26 m1 ca := hMI.kp hC K.gca K.g2 hp1 rfl rfl rfl
  have hMR : mkI X H26 x1 = mmI X H26 m1 := (mk_kp hp1 K.g1 rfl).trans (hMR.trans (mm_kp hp1 K.g2 rfl).symm)
  have hFR : flI X H26 ra = tpdI X H26 m1 := (fl_kp hp1 K.gra rfl).trans (hFR.trans (tpd_kp hp1 K.g2 rfl).symm)
  have hSd := hSH; have hSH : SHP X Γ H26 x1 ta td nd := hSH.kpM K.g1 hp1 rfl
  have hTc2 : TSm X td H23 H26 := TSm.kp1 hp1 hSH rfl; have hNc2 : NSm (nC nd H23) (nC nd H26) := nC_kp1 hp1 hSH rfl
  have hTrm := hTR; have hTm2 : TMm tm ts H23 H26 := TMm.kp TMm.rf hp1 K.gtm K.gts rfl; have hTR := hTR.same hTc2 hTm2
  have hpb := hp2b
  have hNm2 : NSm (nM na H23) (nM na H26) := nM_kp NSm.rf hp1 K.gna rfl; have hNrm := hNR; have hNR := hNR.same hTc2 hNc2 hNm2
  have hMO := (kp_R hp1 K.g1 (ci := 10) (k := 13) rfl (by decide) rfl).trans hMO; have hWK := (kp_R hp1 K.g2 (ci := 11) (k := 29) rfl (by decide) rfl).trans hWK
  have hMc2 : MoK X H23 H26 mo := MoK.kp1 hp1 K.gmo rfl
  have hWRm := hWR; have hWR := hWR.same hMc2 (MmK.kp MmK.rf hp1 K.g2 K.gwk rfl)
  have hC := hC26; have hS := hS26
  refine lv_pop hx hb dL_law_1244 rfl ?_
  refine lv_goto (tgt := 1667) hx hb dL_law_1245 rfl ?_
  exact hk _ _ hC hS hMI hMR hFR hSH hTR hNR hMO hWK hWR
set_option maxRecDepth 100000 in
set_option maxHeartbeats 4000000 in
theorem law_34 (l : Launch) {p : Program} {e : Env} {s : State} {m : MethodId} {below : List Frame} {meth : Method} {c : Code} {X : xW} {Γ : Nat → Option Nat} {b L : Nat} {xs : Nat → Int32} {x1 m1 ca ka oa ra ta tm ts na mo wk : Nat} {td nd : Nat → Nat} (K : LK p s m meth c X Γ b L xs x1 m1 ca ka oa ra tm ts na mo wk) {H : Heap} {locs : List Loc} {ls : Array Slot} {Q : State → Prop} {i : Int32} {z : Int} (ez : i.toInt = z) (h0z : 0 ≤ z) (hzL : z + 6 ≤ L) (hC : Conf X Γ H) (hS : va_S (AΓ Γ) s.heap H locs) (hMI : MI X H m1 ca) (hMR : mkI X H x1 = mmI X H m1) (hFR : flI X H ra = tpdI X H m1) (hSH : SHP X Γ H x1 ta td nd) (hTR : TRl X td tm ts H) (hNR : NRl X td nd na H) (hMO : sR H x1 (X.1.2 10 13) = some mo) (hWK : sR H m1 (X.1.2 11 29) = some wk) (hWR : WRl X H mo m1 wk) (hl : lv_has ls 4 [(3, .int i), (2, .ref m1), (1, .ref x1), (0, .ref b)]) (hk : ∀ (H1 : Heap) (locs1 : List Loc), Conf X Γ H1 → va_S (AΓ Γ) s.heap H1 locs1 → MI X H1 m1 ca → mkI X H1 x1 = mmI X H1 m1 → flI X H1 ra = tpdI X H1 m1 → SHP X Γ H1 x1 ta td nd → TRl X td tm ts H1 → NRl X td nd na H1 → sR H1 x1 (X.1.2 10 13) = some mo → sR H1 m1 (X.1.2 11 29) = some wk → WRl X H1 mo m1 wk → W p l e room_1 s m #[Value.ref b] below meth c H1 locs1 147 13128 Q (F0 m 1667 ls [])) : W p l e room_1 s m #[Value.ref b] below meth c H locs 147 13128 Q (F0 m 1248 ls []) := by
  have E := K.E; have hx := E.1; have hb := E.2.1; have hLl := K.hL
  refine lv_aload_n hx hb dL_law_1248 rfl (lv_at hl 2 rfl) ?_
  refine lv_aload_n hx hb dL_law_1249 rfl (lv_at hl 3 rfl) ?_
  refine lv_iload_n hx hb dL_law_1250 rfl (lv_at hl 0 rfl) ?_
  refine lv_iconst (v := 1) hx hb dL_law_1251 rfl ?_
  refine lv_iadd hx hb dL_law_1252 (lv_topi (fun v21 e21 => ?_))
  have e21i : v21.toInt = z + 1 := i_add e21 ez (by decide) (by omega) (by omega)
  refine va_sld hx hb K.hX K.hbl K.hbA hS (i_in e21i (by omega) (by omega)) dL_law_1253 ?_
  refine r_goI (r_runV (As := [.int (xs v21.toNatClampNeg)]) (rest := []) E hC hS (m_X11_hiding l X Γ H hC x1 K.g1 (xs v21.toNatClampNeg) (a1 := ((xs v21.toNatClampNeg) : Int32).toInt) rfl) lcw_X11_hiding lcl_162 K.g1 ⟨rfl, rfl⟩ rfl hl.1 rfl (Nat.zero_le _) (by decide) (by decide) (by decide) (by decide) dL_law_1254) hS (fun v22 H22 locs22 hp hC22 hS22 => ?_)
  obtain ⟨hp1, hp2a⟩ := hp
  have hMI : MI X H22 m1 ca := hMI.cl hC K.gca K.g2 hp1 rfl
  have hMR : mkI X H22 x1 = mmI X H22 m1 := (mk_kp hp1 K.g1 rfl).trans (hMR.trans (mm_kp hp1 K.g2 rfl).symm)
  have hFR : flI X H22 ra = tpdI X H22 m1 := (fl_kp hp1 K.gra rfl).trans (hFR.trans (tpd_kp hp1 K.g2 rfl).symm)
  have hSd := hSH; have hSH : SHP X Γ H22 x1 ta td nd := hSH.kp K.g1 hp1 rfl
  have hTr0 := hTR; have hNr0 := hNR; have hTm : TMm tm ts H H22 := TMm.kp0 hp1 K.gtm K.gts rfl; have hNm : NSm (nM na H) (nM na H22) := nM_kp0 hp1 K.gna rfl
  have hTc : TSm X td H H22 := TSm.kp TSm.rf hp1 hSH rfl; have hTR := hTR.same hTc hTm
  have hNc : NSm (nC nd H) (nC nd H22) := nC_kp NSm.rf hp1 hSH rfl; have hNR := hNR.same hTc hNc hNm
  have hpa := hp2a; have hCA := hC
  have hMO := (kp_R hp1 K.g1 (ci := 10) (k := 13) rfl (by decide) rfl).trans hMO; have hWK := (kp_R hp1 K.g2 (ci := 11) (k := 29) rfl (by decide) rfl).trans hWK
  have hWR0 := hWR; have hMm : MmK X H H22 m1 wk := MmK.kp0 hp1 K.g2 K.gwk rfl
  have hMc : MoK X H H22 mo := MoK.kp MoK.rf hp1 K.gmo rfl; have hWR := hWR.same hMc hMm
  have hC := hC22; have hS := hS22
  refine lv_pop hx hb dL_law_1257 rfl ?_
  refine lv_aload_n hx hb dL_law_1258 rfl (lv_at hl 1 rfl) ?_
  refine lv_aload_n hx hb dL_law_1259 rfl (lv_at hl 3 rfl) ?_
  refine lv_iload_n hx hb dL_law_1260 rfl (lv_at hl 0 rfl) ?_
  refine lv_iconst (v := 1) hx hb dL_law_1261 rfl ?_
  refine lv_iadd hx hb dL_law_1262 (lv_topi (fun v23 e23 => ?_))
  have e23i : v23.toInt = z + 1 := i_add e23 ez (by decide) (by omega) (by omega)
  have hq23 : v23 = v21 := e23.trans e21.symm
  refine va_sld hx hb K.hX K.hbl K.hbA hS (i_in e23i (by omega) (by omega)) dL_law_1263 ?_
  rw [hq23]
  refine r_goI (r_runV (As := [.int (xs v21.toNatClampNeg)]) (rest := []) E hC hS (m_X12_hiding l X Γ H22 hC m1 K.g2 (xs v21.toNatClampNeg) (a1 := ((xs v21.toNatClampNeg) : Int32).toInt) rfl ca K.gca K.uc) lcw_X12_hiding lcl_165 K.g2 ⟨rfl, rfl⟩ rfl hl.1 rfl (Nat.zero_le _) (by decide) (by decide) (by decide) (by decide) dL_law_1264) hS (fun v24 H24 locs24 hp hC24 hS24 => ?_)
  obtain ⟨hp1, hp2b⟩ := hp
  have hMI : MI X H24 m1 ca := hMI.kp hC K.gca K.g2 hp1 rfl rfl rfl
  have hMR : mkI X H24 x1 = mmI X H24 m1 := (mk_kp hp1 K.g1 rfl).trans (hMR.trans (mm_kp hp1 K.g2 rfl).symm)
  have hFR : flI X H24 ra = tpdI X H24 m1 := (fl_kp hp1 K.gra rfl).trans (hFR.trans (tpd_kp hp1 K.g2 rfl).symm)
  have hSd := hSH; have hSH : SHP X Γ H24 x1 ta td nd := hSH.kpM K.g1 hp1 rfl
  have hTc2 : TSm X td H22 H24 := TSm.kp1 hp1 hSH rfl; have hNc2 : NSm (nC nd H22) (nC nd H24) := nC_kp1 hp1 hSH rfl
  have hTrm := hTR; have hTm2 : TMm tm ts H22 H24 := TMm.kp TMm.rf hp1 K.gtm K.gts rfl; have hTR := hTR.same hTc2 hTm2
  have hpb := hp2b
  have hNm2 : NSm (nM na H22) (nM na H24) := nM_kp NSm.rf hp1 K.gna rfl; have hNrm := hNR; have hNR := hNR.same hTc2 hNc2 hNm2
  have hMO := (kp_R hp1 K.g1 (ci := 10) (k := 13) rfl (by decide) rfl).trans hMO; have hWK := (kp_R hp1 K.g2 (ci := 11) (k := 29) rfl (by decide) rfl).trans hWK
  have hMc2 : MoK X H22 H24 mo := MoK.kp1 hp1 K.gmo rfl
  have hWRm := hWR; have hWR := hWR.same hMc2 (MmK.kp MmK.rf hp1 K.g2 K.gwk rfl)
  have hC := hC24; have hS := hS24
  refine lv_pop hx hb dL_law_1267 rfl ?_
  refine lv_goto (tgt := 1667) hx hb dL_law_1268 rfl ?_
  exact hk _ _ hC hS hMI hMR hFR hSH hTR hNR hMO hWK hWR
set_option maxRecDepth 100000 in
set_option maxHeartbeats 4000000 in
theorem law_35 (l : Launch) {p : Program} {e : Env} {s : State} {m : MethodId} {below : List Frame} {meth : Method} {c : Code} {X : xW} {Γ : Nat → Option Nat} {b L : Nat} {xs : Nat → Int32} {x1 m1 ca ka oa ra ta tm ts na mo wk : Nat} {td nd : Nat → Nat} (K : LK p s m meth c X Γ b L xs x1 m1 ca ka oa ra tm ts na mo wk) {H : Heap} {locs : List Loc} {ls : Array Slot} {Q : State → Prop} {i : Int32} {z : Int} (ez : i.toInt = z) (h0z : 0 ≤ z) (hzL : z + 6 ≤ L) (hC : Conf X Γ H) (hS : va_S (AΓ Γ) s.heap H locs) (hMI : MI X H m1 ca) (hMR : mkI X H x1 = mmI X H m1) (hFR : flI X H ra = tpdI X H m1) (hSH : SHP X Γ H x1 ta td nd) (hTR : TRl X td tm ts H) (hNR : NRl X td nd na H) (hMO : sR H x1 (X.1.2 10 13) = some mo) (hWK : sR H m1 (X.1.2 11 29) = some wk) (hWR : WRl X H mo m1 wk) (hl : lv_has ls 4 [(3, .int i), (2, .ref m1), (1, .ref x1), (0, .ref b)]) (hk : ∀ (H1 : Heap) (locs1 : List Loc), Conf X Γ H1 → va_S (AΓ Γ) s.heap H1 locs1 → MI X H1 m1 ca → mkI X H1 x1 = mmI X H1 m1 → flI X H1 ra = tpdI X H1 m1 → SHP X Γ H1 x1 ta td nd → TRl X td tm ts H1 → NRl X td nd na H1 → sR H1 x1 (X.1.2 10 13) = some mo → sR H1 m1 (X.1.2 11 29) = some wk → WRl X H1 mo m1 wk → W p l e room_1 s m #[Value.ref b] below meth c H1 locs1 147 13128 Q (F0 m 1667 ls [])) : W p l e room_1 s m #[Value.ref b] below meth c H locs 147 13128 Q (F0 m 1271 ls []) := by
  have E := K.E; have hx := E.1; have hb := E.2.1; have hLl := K.hL
  refine lv_aload_n hx hb dL_law_1271 rfl (lv_at hl 2 rfl) ?_
  refine lv_aload_n hx hb dL_law_1272 rfl (lv_at hl 3 rfl) ?_
  refine lv_iload_n hx hb dL_law_1273 rfl (lv_at hl 0 rfl) ?_
  refine lv_iconst (v := 1) hx hb dL_law_1274 rfl ?_
  refine lv_iadd hx hb dL_law_1275 (lv_topi (fun v21 e21 => ?_))
  have e21i : v21.toInt = z + 1 := i_add e21 ez (by decide) (by omega) (by omega)
  refine va_sld hx hb K.hX K.hbl K.hbA hS (i_in e21i (by omega) (by omega)) dL_law_1276 ?_
  refine lv_aload_n hx hb dL_law_1277 rfl (lv_at hl 3 rfl) ?_
  refine lv_iload_n hx hb dL_law_1278 rfl (lv_at hl 0 rfl) ?_
  refine lv_iconst (v := 2) hx hb dL_law_1279 rfl ?_
  refine lv_iadd hx hb dL_law_1280 (lv_topi (fun v22 e22 => ?_))
  have e22i : v22.toInt = z + 2 := i_add e22 ez (by decide) (by omega) (by omega)
  refine va_sld hx hb K.hX K.hbl K.hbA hS (i_in e22i (by omega) (by omega)) dL_law_1281 ?_
  refine r_goI (r_runV (As := [.int (xs v21.toNatClampNeg), .int (xs v22.toNatClampNeg)]) (rest := []) E hC hS (m_X11_sure l X Γ H hC x1 K.g1 (xs v21.toNatClampNeg) (a1 := ((xs v21.toNatClampNeg) : Int32).toInt) rfl (xs v22.toNatClampNeg) (a2 := ((xs v22.toNatClampNeg) : Int32).toInt) rfl) lcw_X11_sure lcl_166 K.g1 ⟨rfl, rfl⟩ rfl hl.1 rfl (Nat.zero_le _) (by decide) (by decide) (by decide) (by decide) dL_law_1282) hS (fun v23 H23 locs23 hp hC23 hS23 => ?_)
  obtain ⟨hp1, hp2a⟩ := hp
  have hMI : MI X H23 m1 ca := hMI.cl hC K.gca K.g2 hp1 rfl
  have hMR : mkI X H23 x1 = mmI X H23 m1 := (mk_kp hp1 K.g1 rfl).trans (hMR.trans (mm_kp hp1 K.g2 rfl).symm)
  have hFR : flI X H23 ra = tpdI X H23 m1 := (fl_kp hp1 K.gra rfl).trans (hFR.trans (tpd_kp hp1 K.g2 rfl).symm)
  have hSd := hSH; have hSH : SHP X Γ H23 x1 ta td nd := hSH.kp K.g1 hp1 rfl
  have hTr0 := hTR; have hNr0 := hNR; have hTm : TMm tm ts H H23 := TMm.kp0 hp1 K.gtm K.gts rfl; have hNm : NSm (nM na H) (nM na H23) := nM_kp0 hp1 K.gna rfl
  have hTc : TSm X td H H23 := TSm.kp TSm.rf hp1 hSH rfl; have hTR := hTR.same hTc hTm
  have hNc : NSm (nC nd H) (nC nd H23) := nC_kp NSm.rf hp1 hSH rfl; have hNR := hNR.same hTc hNc hNm
  have hpa := hp2a; have hCA := hC
  have hMO := (kp_R hp1 K.g1 (ci := 10) (k := 13) rfl (by decide) rfl).trans hMO; have hWK := (kp_R hp1 K.g2 (ci := 11) (k := 29) rfl (by decide) rfl).trans hWK
  have hWR0 := hWR; have hMm : MmK X H H23 m1 wk := MmK.kp0 hp1 K.g2 K.gwk rfl
  have hMc : MoK X H H23 mo := MoK.kp MoK.rf hp1 K.gmo rfl; have hWR := hWR.same hMc hMm
  have hC := hC23; have hS := hS23
  refine lv_pop hx hb dL_law_1285 rfl ?_
  refine lv_aload_n hx hb dL_law_1286 rfl (lv_at hl 1 rfl) ?_
  refine lv_aload_n hx hb dL_law_1287 rfl (lv_at hl 3 rfl) ?_
  refine lv_iload_n hx hb dL_law_1288 rfl (lv_at hl 0 rfl) ?_
  refine lv_iconst (v := 1) hx hb dL_law_1289 rfl ?_
  refine lv_iadd hx hb dL_law_1290 (lv_topi (fun v24 e24 => ?_))
  have e24i : v24.toInt = z + 1 := i_add e24 ez (by decide) (by omega) (by omega)
  have hq24 : v24 = v21 := e24.trans e21.symm
  refine va_sld hx hb K.hX K.hbl K.hbA hS (i_in e24i (by omega) (by omega)) dL_law_1291 ?_
  rw [hq24]
  refine lv_aload_n hx hb dL_law_1292 rfl (lv_at hl 3 rfl) ?_
  refine lv_iload_n hx hb dL_law_1293 rfl (lv_at hl 0 rfl) ?_
  refine lv_iconst (v := 2) hx hb dL_law_1294 rfl ?_
  refine lv_iadd hx hb dL_law_1295 (lv_topi (fun v25 e25 => ?_))
  have e25i : v25.toInt = z + 2 := i_add e25 ez (by decide) (by omega) (by omega)
  have hq25 : v25 = v22 := e25.trans e22.symm
  refine va_sld hx hb K.hX K.hbl K.hbA hS (i_in e25i (by omega) (by omega)) dL_law_1296 ?_
  rw [hq25]
  refine r_goI (r_runV (As := [.int (xs v21.toNatClampNeg), .int (xs v22.toNatClampNeg)]) (rest := []) E hC hS (m_X12_sure l X Γ H23 hC m1 K.g2 (xs v21.toNatClampNeg) (a1 := ((xs v21.toNatClampNeg) : Int32).toInt) rfl (xs v22.toNatClampNeg) (a2 := ((xs v22.toNatClampNeg) : Int32).toInt) rfl ca K.gca K.uc) lcw_X12_sure lcl_169 K.g2 ⟨rfl, rfl⟩ rfl hl.1 rfl (Nat.zero_le _) (by decide) (by decide) (by decide) (by decide) dL_law_1297) hS (fun v26 H26 locs26 hp hC26 hS26 => ?_)
  obtain ⟨hp1, hp2b⟩ := hp
  have hMI : MI X H26 m1 ca := hMI.kp hC K.gca K.g2 hp1 rfl rfl rfl
  have hMR : mkI X H26 x1 = mmI X H26 m1 := (mk_kp hp1 K.g1 rfl).trans (hMR.trans (mm_kp hp1 K.g2 rfl).symm)
  have hFR : flI X H26 ra = tpdI X H26 m1 := (fl_kp hp1 K.gra rfl).trans (hFR.trans (tpd_kp hp1 K.g2 rfl).symm)
  have hSd := hSH; have hSH : SHP X Γ H26 x1 ta td nd := hSH.kpM K.g1 hp1 rfl
  have hTc2 : TSm X td H23 H26 := TSm.kp1 hp1 hSH rfl; have hNc2 : NSm (nC nd H23) (nC nd H26) := nC_kp1 hp1 hSH rfl
  have hTrm := hTR; have hTm2 : TMm tm ts H23 H26 := TMm.kp TMm.rf hp1 K.gtm K.gts rfl; have hTR := hTR.same hTc2 hTm2
  have hpb := hp2b
  have hNm2 : NSm (nM na H23) (nM na H26) := nM_kp NSm.rf hp1 K.gna rfl; have hNrm := hNR; have hNR := hNR.same hTc2 hNc2 hNm2
  have hMO := (kp_R hp1 K.g1 (ci := 10) (k := 13) rfl (by decide) rfl).trans hMO; have hWK := (kp_R hp1 K.g2 (ci := 11) (k := 29) rfl (by decide) rfl).trans hWK
  have hMc2 : MoK X H23 H26 mo := MoK.kp1 hp1 K.gmo rfl
  have hWRm := hWR; have hWR := hWR.same hMc2 (MmK.kp MmK.rf hp1 K.g2 K.gwk rfl)
  have hC := hC26; have hS := hS26
  refine lv_pop hx hb dL_law_1300 rfl ?_
  refine lv_goto (tgt := 1667) hx hb dL_law_1301 rfl ?_
  exact hk _ _ hC hS hMI hMR hFR hSH hTR hNR hMO hWK hWR
set_option maxRecDepth 100000 in
set_option maxHeartbeats 4000000 in
theorem law_36 (l : Launch) {p : Program} {e : Env} {s : State} {m : MethodId} {below : List Frame} {meth : Method} {c : Code} {X : xW} {Γ : Nat → Option Nat} {b L : Nat} {xs : Nat → Int32} {x1 m1 ca ka oa ra ta tm ts na mo wk : Nat} {td nd : Nat → Nat} (K : LK p s m meth c X Γ b L xs x1 m1 ca ka oa ra tm ts na mo wk) {H : Heap} {locs : List Loc} {ls : Array Slot} {Q : State → Prop} {i : Int32} {z : Int} (ez : i.toInt = z) (h0z : 0 ≤ z) (hzL : z + 6 ≤ L) (hC : Conf X Γ H) (hS : va_S (AΓ Γ) s.heap H locs) (hMI : MI X H m1 ca) (hMR : mkI X H x1 = mmI X H m1) (hFR : flI X H ra = tpdI X H m1) (hSH : SHP X Γ H x1 ta td nd) (hTR : TRl X td tm ts H) (hNR : NRl X td nd na H) (hMO : sR H x1 (X.1.2 10 13) = some mo) (hWK : sR H m1 (X.1.2 11 29) = some wk) (hWR : WRl X H mo m1 wk) (hl : lv_has ls 4 [(3, .int i), (2, .ref m1), (1, .ref x1), (0, .ref b)]) (hk : ∀ (H1 : Heap) (locs1 : List Loc), Conf X Γ H1 → va_S (AΓ Γ) s.heap H1 locs1 → MI X H1 m1 ca → mkI X H1 x1 = mmI X H1 m1 → flI X H1 ra = tpdI X H1 m1 → SHP X Γ H1 x1 ta td nd → TRl X td tm ts H1 → NRl X td nd na H1 → sR H1 x1 (X.1.2 10 13) = some mo → sR H1 m1 (X.1.2 11 29) = some wk → WRl X H1 mo m1 wk → W p l e room_1 s m #[Value.ref b] below meth c H1 locs1 147 13128 Q (F0 m 1667 ls [])) : W p l e room_1 s m #[Value.ref b] below meth c H locs 147 13128 Q (F0 m 1304 ls []) := by
  have E := K.E; have hx := E.1; have hb := E.2.1; have hLl := K.hL
  refine lv_aload_n hx hb dL_law_1304 rfl (lv_at hl 2 rfl) ?_
  refine lv_aload_n hx hb dL_law_1305 rfl (lv_at hl 3 rfl) ?_
  refine lv_iload_n hx hb dL_law_1306 rfl (lv_at hl 0 rfl) ?_
  refine lv_iconst (v := 1) hx hb dL_law_1307 rfl ?_
  refine lv_iadd hx hb dL_law_1308 (lv_topi (fun v21 e21 => ?_))
  have e21i : v21.toInt = z + 1 := i_add e21 ez (by decide) (by omega) (by omega)
  refine va_sld hx hb K.hX K.hbl K.hbA hS (i_in e21i (by omega) (by omega)) dL_law_1309 ?_
  refine lv_aload_n hx hb dL_law_1310 rfl (lv_at hl 3 rfl) ?_
  refine lv_iload_n hx hb dL_law_1311 rfl (lv_at hl 0 rfl) ?_
  refine lv_iconst (v := 2) hx hb dL_law_1312 rfl ?_
  refine lv_iadd hx hb dL_law_1313 (lv_topi (fun v22 e22 => ?_))
  have e22i : v22.toInt = z + 2 := i_add e22 ez (by decide) (by omega) (by omega)
  refine va_sld hx hb K.hX K.hbl K.hbA hS (i_in e22i (by omega) (by omega)) dL_law_1314 ?_
  refine lv_aload_n hx hb dL_law_1315 rfl (lv_at hl 3 rfl) ?_
  refine lv_iload_n hx hb dL_law_1316 rfl (lv_at hl 0 rfl) ?_
  refine lv_iconst (v := 3) hx hb dL_law_1317 rfl ?_
  refine lv_iadd hx hb dL_law_1318 (lv_topi (fun v23 e23 => ?_))
  have e23i : v23.toInt = z + 3 := i_add e23 ez (by decide) (by omega) (by omega)
  refine va_sld hx hb K.hX K.hbl K.hbA hS (i_in e23i (by omega) (by omega)) dL_law_1319 ?_
  refine r_goJ (r_runV (As := [.int (xs v21.toNatClampNeg), .int (xs v22.toNatClampNeg), .int (xs v23.toNatClampNeg)]) (rest := []) E hC hS (m_X11_works l X Γ H hC x1 K.g1 (xs v21.toNatClampNeg) (a1 := ((xs v21.toNatClampNeg) : Int32).toInt) rfl (xs v22.toNatClampNeg) (a2 := ((xs v22.toNatClampNeg) : Int32).toInt) rfl (xs v23.toNatClampNeg) (a3 := ((xs v23.toNatClampNeg) : Int32).toInt) rfl ta td nd hSH mo hMO K.gmo) lcw_X11_works lcl_170 K.g1 ⟨rfl, rfl⟩ rfl hl.1 rfl (Nat.zero_le _) (by decide) (by decide) (by decide) (by decide) dL_law_1320) hS (fun v24 H24 locs24 hp hC24 hS24 => ?_)
  obtain ⟨hp1, hp2a⟩ := hp
  have hMI : MI X H24 m1 ca := hMI.cl hC K.gca K.g2 hp1 rfl
  have hMR : mkI X H24 x1 = mmI X H24 m1 := (mk_kp hp1 K.g1 rfl).trans (hMR.trans (mm_kp hp1 K.g2 rfl).symm)
  have hFR : flI X H24 ra = tpdI X H24 m1 := (fl_kp hp1 K.gra rfl).trans (hFR.trans (tpd_kp hp1 K.g2 rfl).symm)
  have hSd := hSH; have hSH : SHP X Γ H24 x1 ta td nd := hSH.kp K.g1 hp1 rfl
  have hTr0 := hTR; have hNr0 := hNR; have hTm : TMm tm ts H H24 := TMm.kp0 hp1 K.gtm K.gts rfl; have hNm : NSm (nM na H) (nM na H24) := nM_kp0 hp1 K.gna rfl
  have hTc : TSm X td H H24 := TSm.kp TSm.rf hp1 hSH rfl; have hTR := hTR.same hTc hTm
  have hNc : NSm (nC nd H) (nC nd H24) := nC_kp NSm.rf hp1 hSH rfl; have hNR := hNR.same hTc hNc hNm
  have hpa := hp2a; have hCA := hC
  have hMO := (kp_R hp1 K.g1 (ci := 10) (k := 13) rfl (by decide) rfl).trans hMO; have hWK := (kp_R hp1 K.g2 (ci := 11) (k := 29) rfl (by decide) rfl).trans hWK
  have hWR0 := hWR; have hMm : MmK X H H24 m1 wk := MmK.kp0 hp1 K.g2 K.gwk rfl
  have hC := hC24; have hS := hS24
  refine lv_pop2_2 hx hb dL_law_1323 rfl ?_
  refine lv_aload_n hx hb dL_law_1324 rfl (lv_at hl 1 rfl) ?_
  refine lv_aload_n hx hb dL_law_1325 rfl (lv_at hl 3 rfl) ?_
  refine lv_iload_n hx hb dL_law_1326 rfl (lv_at hl 0 rfl) ?_
  refine lv_iconst (v := 1) hx hb dL_law_1327 rfl ?_
  refine lv_iadd hx hb dL_law_1328 (lv_topi (fun v25 e25 => ?_))
  have e25i : v25.toInt = z + 1 := i_add e25 ez (by decide) (by omega) (by omega)
  have hq25 : v25 = v21 := e25.trans e21.symm
  refine va_sld hx hb K.hX K.hbl K.hbA hS (i_in e25i (by omega) (by omega)) dL_law_1329 ?_
  rw [hq25]
  refine lv_aload_n hx hb dL_law_1330 rfl (lv_at hl 3 rfl) ?_
  refine lv_iload_n hx hb dL_law_1331 rfl (lv_at hl 0 rfl) ?_
  refine lv_iconst (v := 2) hx hb dL_law_1332 rfl ?_
  refine lv_iadd hx hb dL_law_1333 (lv_topi (fun v26 e26 => ?_))
  have e26i : v26.toInt = z + 2 := i_add e26 ez (by decide) (by omega) (by omega)
  have hq26 : v26 = v22 := e26.trans e22.symm
  refine va_sld hx hb K.hX K.hbl K.hbA hS (i_in e26i (by omega) (by omega)) dL_law_1334 ?_
  rw [hq26]
  refine lv_aload_n hx hb dL_law_1335 rfl (lv_at hl 3 rfl) ?_
  refine lv_iload_n hx hb dL_law_1336 rfl (lv_at hl 0 rfl) ?_
  refine lv_iconst (v := 3) hx hb dL_law_1337 rfl ?_
  refine lv_iadd hx hb dL_law_1338 (lv_topi (fun v27 e27 => ?_))
  have e27i : v27.toInt = z + 3 := i_add e27 ez (by decide) (by omega) (by omega)
  have hq27 : v27 = v23 := e27.trans e23.symm
  refine va_sld hx hb K.hX K.hbl K.hbA hS (i_in e27i (by omega) (by omega)) dL_law_1339 ?_
  rw [hq27]
  refine r_goJ (r_runV (As := [.int (xs v21.toNatClampNeg), .int (xs v22.toNatClampNeg), .int (xs v23.toNatClampNeg)]) (rest := []) E hC hS (m_X12_works l X Γ H24 hC m1 K.g2 (xs v21.toNatClampNeg) (a1 := ((xs v21.toNatClampNeg) : Int32).toInt) rfl (xs v22.toNatClampNeg) (a2 := ((xs v22.toNatClampNeg) : Int32).toInt) rfl (xs v23.toNatClampNeg) (a3 := ((xs v23.toNatClampNeg) : Int32).toInt) rfl ca K.gca K.uc tm ts K.gtm K.utm K.gts K.uts na K.gna K.una wk hWK K.gwk) lcw_X12_works lcl_174 K.g2 ⟨rfl, rfl⟩ rfl hl.1 rfl (Nat.zero_le _) (by decide) (by decide) (by decide) (by decide) dL_law_1340) hS (fun v28 H28 locs28 hp hC28 hS28 => ?_)
  obtain ⟨hp1, hp2b⟩ := hp
  have hMI : MI X H28 m1 ca := hMI.kp hC K.gca K.g2 hp1 rfl rfl rfl
  have hMR : mkI X H28 x1 = mmI X H28 m1 := (mk_kp hp1 K.g1 rfl).trans (hMR.trans (mm_kp hp1 K.g2 rfl).symm)
  have hFR : flI X H28 ra = tpdI X H28 m1 := (fl_kp hp1 K.gra rfl).trans (hFR.trans (tpd_kp hp1 K.g2 rfl).symm)
  have hSd := hSH; have hSH : SHP X Γ H28 x1 ta td nd := hSH.kpM K.g1 hp1 rfl
  have hTc2 : TSm X td H24 H28 := TSm.kp1 hp1 hSH rfl; have hNc2 : NSm (nC nd H24) (nC nd H28) := nC_kp1 hp1 hSH rfl
  have hTrm := hTR; have hTm2 : TMm tm ts H24 H28 := TMm.kp TMm.rf hp1 K.gtm K.gts rfl; have hTR := hTR.same hTc2 hTm2
  have hpb := hp2b
  have hNm2 : NSm (nM na H24) (nM na H28) := nM_kp NSm.rf hp1 K.gna rfl; have hNrm := hNR; have hNR := hNR.same hTc2 hNc2 hNm2
  have hMO := (kp_R hp1 K.g1 (ci := 10) (k := 13) rfl (by decide) rfl).trans hMO; have hWK := (kp_R hp1 K.g2 (ci := 11) (k := 29) rfl (by decide) rfl).trans hWK
  have hMc2 : MoK X H24 H28 mo := MoK.kp1 hp1 K.gmo rfl
  have tw1 := hTr0 (((xs v21.toNatClampNeg) : Int32).toInt).toNat; have mw1 := hTm (((xs v21.toNatClampNeg) : Int32).toInt).toNat
  have tw2 := hTr0 (((xs v22.toNatClampNeg) : Int32).toInt).toNat; have mw2 := hTm (((xs v22.toNatClampNeg) : Int32).toInt).toNat
  have hnw : ∀ T : Int, 0 ≤ T → T ≤ 3 → ∀ i : Nat, i < 60 → (i : Int) < (sI H (td T.toNat) (X.1.2 6 2)).toInt → nCI nd H T i = nMI na H24 T i := fun T q0 q1 i q2 q3 => congrArg Int64.toInt ((hNr0 T.toNat i (by omega) q2 q3).trans (hNm T.toNat i (by omega) q2).symm)
  have h65 : ∀ T : Int, 0 ≤ T → T ≤ 3 → (sI H (td T.toNat) (X.1.2 6 2)).toInt ≤ 60 := fun T q0 q1 => (f_bd hCA ((hSH.2.2.1 T.toNat (by omega)).2) (ci := 6) (k := 2) rfl rfl).2
  have h66 : ∀ T : Int, 0 ≤ T → T ≤ 3 → (sI H (td T.toNat) (X.1.2 6 2)).toInt ≤ 60 := fun T q0 q1 => (f_bd hCA ((hSH.2.2.1 T.toNat (by omega)).2) (ci := 6) (k := 2) rfl rfl).2
  have hWR : WRl X H28 mo m1 wk := by
    rcases hpa with ⟨ay, -, ms⟩ | ⟨an, -, mk⟩ <;> rcases hpb with ⟨yb, -, mm⟩ | ⟨bn, -, mk2⟩
    · obtain ⟨a1, a2, a3, a4, a5, a6, a7, a8, -⟩ := ay
      have cg := (wk_congr ((((xs v23.toNatClampNeg) : Int32).toInt - 1 : Int).toNat) (fun i hi => hnw (((xs v21.toNatClampNeg) : Int32).toInt) a1 a2 i (by omega) (by omega)) (fun i hi => hnw (((xs v22.toNatClampNeg) : Int32).toInt) a3 a4 i (by omega) (by omega)))
      rw [← cg.1, ← cg.2.1, ← cg.2.2.1, ← cg.2.2.2.2] at mm
      exact WRl.set (ms.of hMc2) mm (wA_rng _).1
    · obtain ⟨a1, a2, a3, a4, a5, a6, a7, a8, a9⟩ := ay
      exact absurd ⟨a1, a2, a3, a4, by omega, by omega, a7, a8, (HTn.iff (fun i hi => hnw (((xs v21.toNatClampNeg) : Int32).toInt) a1 a2 i (by omega) (by omega)) (fun i hi => hnw (((xs v22.toNatClampNeg) : Int32).toInt) a3 a4 i (by omega) (by omega))).mp a9⟩ bn
    · obtain ⟨a1, a2, a3, a4, b5, b6, a7, a8, a9⟩ := yb
      have a5 : (((xs v23.toNatClampNeg) : Int32).toInt) ≤ (sI H (td (((xs v21.toNatClampNeg) : Int32).toInt).toNat) (X.1.2 6 2)).toInt := by omega
      have a6 : (((xs v23.toNatClampNeg) : Int32).toInt) - 1 ≤ (sI H (td (((xs v22.toNatClampNeg) : Int32).toInt).toNat) (X.1.2 6 2)).toInt := by omega
      exact absurd ⟨a1, a2, a3, a4, a5, a6, a7, a8, (HTn.iff (fun i hi => hnw (((xs v21.toNatClampNeg) : Int32).toInt) a1 a2 i (by omega) (by omega)) (fun i hi => hnw (((xs v22.toNatClampNeg) : Int32).toInt) a3 a4 i (by omega) (by omega))).mpr a9⟩ an
    · exact hWR0.same ⟨hMc2.1.trans mk.1, hMc2.2.1.trans mk.2.1, hMc2.2.2.1.trans mk.2.2.1, hMc2.2.2.2.trans mk.2.2.2⟩ ⟨mk2.1.trans hMm.1, fun j => (mk2.2 j).trans (hMm.2 j)⟩
  have hC := hC28; have hS := hS28
  refine lv_pop2_2 hx hb dL_law_1343 rfl ?_
  refine lv_goto (tgt := 1667) hx hb dL_law_1344 rfl ?_
  exact hk _ _ hC hS hMI hMR hFR hSH hTR hNR hMO hWK hWR
set_option maxRecDepth 100000 in
set_option maxHeartbeats 4000000 in
theorem law_37 (l : Launch) {p : Program} {e : Env} {s : State} {m : MethodId} {below : List Frame} {meth : Method} {c : Code} {X : xW} {Γ : Nat → Option Nat} {b L : Nat} {xs : Nat → Int32} {x1 m1 ca ka oa ra ta tm ts na mo wk : Nat} {td nd : Nat → Nat} (K : LK p s m meth c X Γ b L xs x1 m1 ca ka oa ra tm ts na mo wk) {H : Heap} {locs : List Loc} {ls : Array Slot} {Q : State → Prop} {i : Int32} {z : Int} (ez : i.toInt = z) (h0z : 0 ≤ z) (hzL : z + 6 ≤ L) (hC : Conf X Γ H) (hS : va_S (AΓ Γ) s.heap H locs) (hMI : MI X H m1 ca) (hMR : mkI X H x1 = mmI X H m1) (hFR : flI X H ra = tpdI X H m1) (hSH : SHP X Γ H x1 ta td nd) (hTR : TRl X td tm ts H) (hNR : NRl X td nd na H) (hMO : sR H x1 (X.1.2 10 13) = some mo) (hWK : sR H m1 (X.1.2 11 29) = some wk) (hWR : WRl X H mo m1 wk) (hl : lv_has ls 4 [(3, .int i), (2, .ref m1), (1, .ref x1), (0, .ref b)]) (hk : ∀ (H1 : Heap) (locs1 : List Loc), Conf X Γ H1 → va_S (AΓ Γ) s.heap H1 locs1 → MI X H1 m1 ca → mkI X H1 x1 = mmI X H1 m1 → flI X H1 ra = tpdI X H1 m1 → SHP X Γ H1 x1 ta td nd → TRl X td tm ts H1 → NRl X td nd na H1 → sR H1 x1 (X.1.2 10 13) = some mo → sR H1 m1 (X.1.2 11 29) = some wk → WRl X H1 mo m1 wk → W p l e room_1 s m #[Value.ref b] below meth c H1 locs1 147 13128 Q (F0 m 1667 ls [])) : W p l e room_1 s m #[Value.ref b] below meth c H locs 147 13128 Q (F0 m 1347 ls []) := by
  have E := K.E; have hx := E.1; have hb := E.2.1; have hLl := K.hL
  refine lv_aload_n hx hb dL_law_1347 rfl (lv_at hl 2 rfl) ?_
  refine lv_aload_n hx hb dL_law_1348 rfl (lv_at hl 3 rfl) ?_
  refine lv_iload_n hx hb dL_law_1349 rfl (lv_at hl 0 rfl) ?_
  refine lv_iconst (v := 1) hx hb dL_law_1350 rfl ?_
  refine lv_iadd hx hb dL_law_1351 (lv_topi (fun v21 e21 => ?_))
  have e21i : v21.toInt = z + 1 := i_add e21 ez (by decide) (by omega) (by omega)
  refine va_sld hx hb K.hX K.hbl K.hbA hS (i_in e21i (by omega) (by omega)) dL_law_1352 ?_
  refine r_goI (r_runV (As := [.int (xs v21.toNatClampNeg)]) (rest := []) E hC hS (m_X11_worked l X Γ H hC x1 K.g1 (xs v21.toNatClampNeg) (a1 := ((xs v21.toNatClampNeg) : Int32).toInt) rfl mo hMO K.gmo) lcw_X11_worked lcl_175 K.g1 ⟨rfl, rfl⟩ rfl hl.1 rfl (Nat.zero_le _) (by decide) (by decide) (by decide) (by decide) dL_law_1353) hS (fun v22 H22 locs22 hp hC22 hS22 => ?_)
  obtain ⟨hp1, hp2a⟩ := hp
  have hMI : MI X H22 m1 ca := hMI.cl hC K.gca K.g2 hp1 rfl
  have hMR : mkI X H22 x1 = mmI X H22 m1 := (mk_kp hp1 K.g1 rfl).trans (hMR.trans (mm_kp hp1 K.g2 rfl).symm)
  have hFR : flI X H22 ra = tpdI X H22 m1 := (fl_kp hp1 K.gra rfl).trans (hFR.trans (tpd_kp hp1 K.g2 rfl).symm)
  have hSd := hSH; have hSH : SHP X Γ H22 x1 ta td nd := hSH.kp K.g1 hp1 rfl
  have hTr0 := hTR; have hNr0 := hNR; have hTm : TMm tm ts H H22 := TMm.kp0 hp1 K.gtm K.gts rfl; have hNm : NSm (nM na H) (nM na H22) := nM_kp0 hp1 K.gna rfl
  have hTc : TSm X td H H22 := TSm.kp TSm.rf hp1 hSH rfl; have hTR := hTR.same hTc hTm
  have hNc : NSm (nC nd H) (nC nd H22) := nC_kp NSm.rf hp1 hSH rfl; have hNR := hNR.same hTc hNc hNm
  have hpa := hp2a; have hCA := hC
  have hMO := (kp_R hp1 K.g1 (ci := 10) (k := 13) rfl (by decide) rfl).trans hMO; have hWK := (kp_R hp1 K.g2 (ci := 11) (k := 29) rfl (by decide) rfl).trans hWK
  have hWR0 := hWR; have hMm : MmK X H H22 m1 wk := MmK.kp0 hp1 K.g2 K.gwk rfl
  have hMc : MoK X H H22 mo := MoK.kp MoK.rf hp1 K.gmo rfl; have hWR := hWR.same hMc hMm
  have hC := hC22; have hS := hS22
  refine lv_aload_n hx hb dL_law_1356 rfl (lv_at hl 1 rfl) ?_
  refine lv_aload_n hx hb dL_law_1357 rfl (lv_at hl 3 rfl) ?_
  refine lv_iload_n hx hb dL_law_1358 rfl (lv_at hl 0 rfl) ?_
  refine lv_iconst (v := 1) hx hb dL_law_1359 rfl ?_
  refine lv_iadd hx hb dL_law_1360 (lv_topi (fun v23 e23 => ?_))
  have e23i : v23.toInt = z + 1 := i_add e23 ez (by decide) (by omega) (by omega)
  have hq23 : v23 = v21 := e23.trans e21.symm
  refine va_sld hx hb K.hX K.hbl K.hbA hS (i_in e23i (by omega) (by omega)) dL_law_1361 ?_
  rw [hq23]
  refine r_goI (r_runV (As := [.int (xs v21.toNatClampNeg)]) (rest := [.int v22]) E hC hS (m_X12_worked l X Γ H22 hC m1 K.g2 (xs v21.toNatClampNeg) (a1 := ((xs v21.toNatClampNeg) : Int32).toInt) rfl ca K.gca K.uc wk hWK K.gwk) lcw_X12_worked lcl_178 K.g2 ⟨rfl, rfl⟩ rfl hl.1 rfl (show _ ≤ _ from by simp [Value.category]) (by decide) (by decide) (by decide) (by decide) dL_law_1362) hS (fun v24 H24 locs24 hp hC24 hS24 => ?_)
  obtain ⟨hp1, hp2b⟩ := hp
  have hMI : MI X H24 m1 ca := hMI.kp hC K.gca K.g2 hp1 rfl rfl rfl
  have hMR : mkI X H24 x1 = mmI X H24 m1 := (mk_kp hp1 K.g1 rfl).trans (hMR.trans (mm_kp hp1 K.g2 rfl).symm)
  have hFR : flI X H24 ra = tpdI X H24 m1 := (fl_kp hp1 K.gra rfl).trans (hFR.trans (tpd_kp hp1 K.g2 rfl).symm)
  have hSd := hSH; have hSH : SHP X Γ H24 x1 ta td nd := hSH.kpM K.g1 hp1 rfl
  have hTc2 : TSm X td H22 H24 := TSm.kp1 hp1 hSH rfl; have hNc2 : NSm (nC nd H22) (nC nd H24) := nC_kp1 hp1 hSH rfl
  have hTrm := hTR; have hTm2 : TMm tm ts H22 H24 := TMm.kp TMm.rf hp1 K.gtm K.gts rfl; have hTR := hTR.same hTc2 hTm2
  have hpb := hp2b
  have hNm2 : NSm (nM na H22) (nM na H24) := nM_kp NSm.rf hp1 K.gna rfl; have hNrm := hNR; have hNR := hNR.same hTc2 hNc2 hNm2
  have hMO := (kp_R hp1 K.g1 (ci := 10) (k := 13) rfl (by decide) rfl).trans hMO; have hWK := (kp_R hp1 K.g2 (ci := 11) (k := 29) rfl (by decide) rfl).trans hWK
  have hMc2 : MoK X H22 H24 mo := MoK.kp1 hp1 K.gmo rfl
  have hWRm := hWR; have hWR := hWR.same hMc2 (MmK.kp MmK.rf hp1 K.g2 K.gwk rfl)
  have hC := hC24; have hS := hS24
  refine q_icmp_eq hx hb (a := v22.toInt) (b := v24.toInt) rfl rfl (tgt := 1667) dL_law_1365 rfl (fun c1 => ?_) (fun c1 => ?_)
  · exact hk _ _ hC hS hMI hMR hFR hSH hTR hNR hMO hWK hWR
  · exfalso
    have r1 := hWR0.1; have r2 := hWR0.2; have m0 := congrArg Int32.toInt hMm.1; have k0 := congrArg Int32.toInt (hMm.2 0); have k1 := congrArg Int32.toInt (hMm.2 1); have k2 := congrArg Int32.toInt (hMm.2 2)
    rcases hpa with ⟨a1, ea⟩ | ⟨a1, a2, a3, e0, e1, e2⟩ <;> rcases hpb with ⟨b1, eb⟩ | ⟨b1, b2, b3, eb⟩ <;> first | omega | skip
    have r3 := r2 a3
    rcases (show (((xs v21.toNatClampNeg) : Int32).toInt) = 0 ∨ (((xs v21.toNatClampNeg) : Int32).toInt) = 1 ∨ (((xs v21.toNatClampNeg) : Int32).toInt) = 2 by omega) with q | q | q
    · rw [q] at eb; have eb : _ = (sI H22 wk 0).toInt := eb; have h1 := e0 q; omega
    · rw [q] at eb; have eb : _ = (sI H22 wk 1).toInt := eb; have h1 := e1 q; omega
    · rw [q] at eb; have eb : _ = (sI H22 wk 2).toInt := eb; have h1 := e2 q; omega
set_option maxRecDepth 100000 in
set_option maxHeartbeats 4000000 in
theorem law_38 (l : Launch) {p : Program} {e : Env} {s : State} {m : MethodId} {below : List Frame} {meth : Method} {c : Code} {X : xW} {Γ : Nat → Option Nat} {b L : Nat} {xs : Nat → Int32} {x1 m1 ca ka oa ra ta tm ts na mo wk : Nat} {td nd : Nat → Nat} (K : LK p s m meth c X Γ b L xs x1 m1 ca ka oa ra tm ts na mo wk) {H : Heap} {locs : List Loc} {ls : Array Slot} {Q : State → Prop} {i : Int32} {z : Int} (ez : i.toInt = z) (h0z : 0 ≤ z) (hzL : z + 6 ≤ L) (hC : Conf X Γ H) (hS : va_S (AΓ Γ) s.heap H locs) (hMI : MI X H m1 ca) (hMR : mkI X H x1 = mmI X H m1) (hFR : flI X H ra = tpdI X H m1) (hSH : SHP X Γ H x1 ta td nd) (hTR : TRl X td tm ts H) (hNR : NRl X td nd na H) (hMO : sR H x1 (X.1.2 10 13) = some mo) (hWK : sR H m1 (X.1.2 11 29) = some wk) (hWR : WRl X H mo m1 wk) (hl : lv_has ls 4 [(3, .int i), (2, .ref m1), (1, .ref x1), (0, .ref b)]) (hk : ∀ (H1 : Heap) (locs1 : List Loc), Conf X Γ H1 → va_S (AΓ Γ) s.heap H1 locs1 → MI X H1 m1 ca → mkI X H1 x1 = mmI X H1 m1 → flI X H1 ra = tpdI X H1 m1 → SHP X Γ H1 x1 ta td nd → TRl X td tm ts H1 → NRl X td nd na H1 → sR H1 x1 (X.1.2 10 13) = some mo → sR H1 m1 (X.1.2 11 29) = some wk → WRl X H1 mo m1 wk → W p l e room_1 s m #[Value.ref b] below meth c H1 locs1 147 13128 Q (F0 m 1667 ls [])) : W p l e room_1 s m #[Value.ref b] below meth c H locs 147 13128 Q (F0 m 1370 ls []) := by
  have E := K.E; have hx := E.1; have hb := E.2.1; have hLl := K.hL
  refine lv_aload_n hx hb dL_law_1370 rfl (lv_at hl 2 rfl) ?_
  refine lv_aload_n hx hb dL_law_1371 rfl (lv_at hl 3 rfl) ?_
  refine lv_iload_n hx hb dL_law_1372 rfl (lv_at hl 0 rfl) ?_
  refine lv_iconst (v := 1) hx hb dL_law_1373 rfl ?_
  refine lv_iadd hx hb dL_law_1374 (lv_topi (fun v21 e21 => ?_))
  have e21i : v21.toInt = z + 1 := i_add e21 ez (by decide) (by omega) (by omega)
  refine va_sld hx hb K.hX K.hbl K.hbA hS (i_in e21i (by omega) (by omega)) dL_law_1375 ?_
  refine lv_aload_n hx hb dL_law_1376 rfl (lv_at hl 3 rfl) ?_
  refine lv_iload_n hx hb dL_law_1377 rfl (lv_at hl 0 rfl) ?_
  refine lv_iconst (v := 2) hx hb dL_law_1378 rfl ?_
  refine lv_iadd hx hb dL_law_1379 (lv_topi (fun v22 e22 => ?_))
  have e22i : v22.toInt = z + 2 := i_add e22 ez (by decide) (by omega) (by omega)
  refine va_sld hx hb K.hX K.hbl K.hbA hS (i_in e22i (by omega) (by omega)) dL_law_1380 ?_
  refine lv_aload_n hx hb dL_law_1381 rfl (lv_at hl 3 rfl) ?_
  refine lv_iload_n hx hb dL_law_1382 rfl (lv_at hl 0 rfl) ?_
  refine lv_iconst (v := 3) hx hb dL_law_1383 rfl ?_
  refine lv_iadd hx hb dL_law_1384 (lv_topi (fun v23 e23 => ?_))
  have e23i : v23.toInt = z + 3 := i_add e23 ez (by decide) (by omega) (by omega)
  refine va_sld hx hb K.hX K.hbl K.hbA hS (i_in e23i (by omega) (by omega)) dL_law_1385 ?_
  refine lv_aload_n hx hb dL_law_1386 rfl (lv_at hl 3 rfl) ?_
  refine lv_iload_n hx hb dL_law_1387 rfl (lv_at hl 0 rfl) ?_
  refine lv_iconst (v := 4) hx hb dL_law_1388 rfl ?_
  refine lv_iadd hx hb dL_law_1389 (lv_topi (fun v24 e24 => ?_))
  have e24i : v24.toInt = z + 4 := i_add e24 ez (by decide) (by omega) (by omega)
  refine va_sld hx hb K.hX K.hbl K.hbA hS (i_in e24i (by omega) (by omega)) dL_law_1390 ?_
  refine r_goI (r_runV (As := [.int (xs v21.toNatClampNeg), .int (xs v22.toNatClampNeg), .int (xs v23.toNatClampNeg), .int (xs v24.toNatClampNeg)]) (rest := []) E hC hS (m_X11_wins l X Γ H hC x1 K.g1 (xs v21.toNatClampNeg) (a1 := ((xs v21.toNatClampNeg) : Int32).toInt) rfl (xs v22.toNatClampNeg) (a2 := ((xs v22.toNatClampNeg) : Int32).toInt) rfl (xs v23.toNatClampNeg) (a3 := ((xs v23.toNatClampNeg) : Int32).toInt) rfl (xs v24.toNatClampNeg) (a4 := ((xs v24.toNatClampNeg) : Int32).toInt) rfl) lcw_X11_wins lcl_179 K.g1 ⟨rfl, rfl⟩ rfl hl.1 rfl (Nat.zero_le _) (by decide) (by decide) (by decide) (by decide) dL_law_1391) hS (fun v25 H25 locs25 hp hC25 hS25 => ?_)
  obtain ⟨hp1, hp2a⟩ := hp
  have hMI : MI X H25 m1 ca := hMI.cl hC K.gca K.g2 hp1 rfl
  have hMR : mkI X H25 x1 = mmI X H25 m1 := (mk_kp hp1 K.g1 rfl).trans (hMR.trans (mm_kp hp1 K.g2 rfl).symm)
  have hFR : flI X H25 ra = tpdI X H25 m1 := (fl_kp hp1 K.gra rfl).trans (hFR.trans (tpd_kp hp1 K.g2 rfl).symm)
  have hSd := hSH; have hSH : SHP X Γ H25 x1 ta td nd := hSH.kp K.g1 hp1 rfl
  have hTr0 := hTR; have hNr0 := hNR; have hTm : TMm tm ts H H25 := TMm.kp0 hp1 K.gtm K.gts rfl; have hNm : NSm (nM na H) (nM na H25) := nM_kp0 hp1 K.gna rfl
  have hTc : TSm X td H H25 := TSm.kp TSm.rf hp1 hSH rfl; have hTR := hTR.same hTc hTm
  have hNc : NSm (nC nd H) (nC nd H25) := nC_kp NSm.rf hp1 hSH rfl; have hNR := hNR.same hTc hNc hNm
  have hpa := hp2a; have hCA := hC
  have hMO := (kp_R hp1 K.g1 (ci := 10) (k := 13) rfl (by decide) rfl).trans hMO; have hWK := (kp_R hp1 K.g2 (ci := 11) (k := 29) rfl (by decide) rfl).trans hWK
  have hWR0 := hWR; have hMm : MmK X H H25 m1 wk := MmK.kp0 hp1 K.g2 K.gwk rfl
  have hMc : MoK X H H25 mo := MoK.kp MoK.rf hp1 K.gmo rfl; have hWR := hWR.same hMc hMm
  have hC := hC25; have hS := hS25
  refine lv_pop hx hb dL_law_1394 rfl ?_
  refine lv_aload_n hx hb dL_law_1395 rfl (lv_at hl 1 rfl) ?_
  refine lv_aload_n hx hb dL_law_1396 rfl (lv_at hl 3 rfl) ?_
  refine lv_iload_n hx hb dL_law_1397 rfl (lv_at hl 0 rfl) ?_
  refine lv_iconst (v := 1) hx hb dL_law_1398 rfl ?_
  refine lv_iadd hx hb dL_law_1399 (lv_topi (fun v26 e26 => ?_))
  have e26i : v26.toInt = z + 1 := i_add e26 ez (by decide) (by omega) (by omega)
  have hq26 : v26 = v21 := e26.trans e21.symm
  refine va_sld hx hb K.hX K.hbl K.hbA hS (i_in e26i (by omega) (by omega)) dL_law_1400 ?_
  rw [hq26]
  refine lv_aload_n hx hb dL_law_1401 rfl (lv_at hl 3 rfl) ?_
  refine lv_iload_n hx hb dL_law_1402 rfl (lv_at hl 0 rfl) ?_
  refine lv_iconst (v := 2) hx hb dL_law_1403 rfl ?_
  refine lv_iadd hx hb dL_law_1404 (lv_topi (fun v27 e27 => ?_))
  have e27i : v27.toInt = z + 2 := i_add e27 ez (by decide) (by omega) (by omega)
  have hq27 : v27 = v22 := e27.trans e22.symm
  refine va_sld hx hb K.hX K.hbl K.hbA hS (i_in e27i (by omega) (by omega)) dL_law_1405 ?_
  rw [hq27]
  refine lv_aload_n hx hb dL_law_1406 rfl (lv_at hl 3 rfl) ?_
  refine lv_iload_n hx hb dL_law_1407 rfl (lv_at hl 0 rfl) ?_
  refine lv_iconst (v := 3) hx hb dL_law_1408 rfl ?_
  refine lv_iadd hx hb dL_law_1409 (lv_topi (fun v28 e28 => ?_))
  have e28i : v28.toInt = z + 3 := i_add e28 ez (by decide) (by omega) (by omega)
  have hq28 : v28 = v23 := e28.trans e23.symm
  refine va_sld hx hb K.hX K.hbl K.hbA hS (i_in e28i (by omega) (by omega)) dL_law_1410 ?_
  rw [hq28]
  refine lv_aload_n hx hb dL_law_1411 rfl (lv_at hl 3 rfl) ?_
  refine lv_iload_n hx hb dL_law_1412 rfl (lv_at hl 0 rfl) ?_
  refine lv_iconst (v := 4) hx hb dL_law_1413 rfl ?_
  refine lv_iadd hx hb dL_law_1414 (lv_topi (fun v29 e29 => ?_))
  have e29i : v29.toInt = z + 4 := i_add e29 ez (by decide) (by omega) (by omega)
  have hq29 : v29 = v24 := e29.trans e24.symm
  refine va_sld hx hb K.hX K.hbl K.hbA hS (i_in e29i (by omega) (by omega)) dL_law_1415 ?_
  rw [hq29]
  refine r_goI (r_runV (As := [.int (xs v21.toNatClampNeg), .int (xs v22.toNatClampNeg), .int (xs v23.toNatClampNeg), .int (xs v24.toNatClampNeg)]) (rest := []) E hC hS (m_X12_wins l X Γ H25 hC m1 K.g2 (xs v21.toNatClampNeg) (a1 := ((xs v21.toNatClampNeg) : Int32).toInt) rfl (xs v22.toNatClampNeg) (a2 := ((xs v22.toNatClampNeg) : Int32).toInt) rfl (xs v23.toNatClampNeg) (a3 := ((xs v23.toNatClampNeg) : Int32).toInt) rfl (xs v24.toNatClampNeg) (a4 := ((xs v24.toNatClampNeg) : Int32).toInt) rfl ca K.gca K.uc) lcw_X12_wins lcl_183 K.g2 ⟨rfl, rfl⟩ rfl hl.1 rfl (Nat.zero_le _) (by decide) (by decide) (by decide) (by decide) dL_law_1416) hS (fun v30 H30 locs30 hp hC30 hS30 => ?_)
  obtain ⟨hp1, hp2b⟩ := hp
  have hMI : MI X H30 m1 ca := hMI.kp hC K.gca K.g2 hp1 rfl rfl rfl
  have hMR : mkI X H30 x1 = mmI X H30 m1 := (mk_kp hp1 K.g1 rfl).trans (hMR.trans (mm_kp hp1 K.g2 rfl).symm)
  have hFR : flI X H30 ra = tpdI X H30 m1 := (fl_kp hp1 K.gra rfl).trans (hFR.trans (tpd_kp hp1 K.g2 rfl).symm)
  have hSd := hSH; have hSH : SHP X Γ H30 x1 ta td nd := hSH.kpM K.g1 hp1 rfl
  have hTc2 : TSm X td H25 H30 := TSm.kp1 hp1 hSH rfl; have hNc2 : NSm (nC nd H25) (nC nd H30) := nC_kp1 hp1 hSH rfl
  have hTrm := hTR; have hTm2 : TMm tm ts H25 H30 := TMm.kp TMm.rf hp1 K.gtm K.gts rfl; have hTR := hTR.same hTc2 hTm2
  have hpb := hp2b
  have hNm2 : NSm (nM na H25) (nM na H30) := nM_kp NSm.rf hp1 K.gna rfl; have hNrm := hNR; have hNR := hNR.same hTc2 hNc2 hNm2
  have hMO := (kp_R hp1 K.g1 (ci := 10) (k := 13) rfl (by decide) rfl).trans hMO; have hWK := (kp_R hp1 K.g2 (ci := 11) (k := 29) rfl (by decide) rfl).trans hWK
  have hMc2 : MoK X H25 H30 mo := MoK.kp1 hp1 K.gmo rfl
  have hWRm := hWR; have hWR := hWR.same hMc2 (MmK.kp MmK.rf hp1 K.g2 K.gwk rfl)
  have hC := hC30; have hS := hS30
  refine lv_pop hx hb dL_law_1419 rfl ?_
  refine lv_goto (tgt := 1667) hx hb dL_law_1420 rfl ?_
  exact hk _ _ hC hS hMI hMR hFR hSH hTR hNR hMO hWK hWR
set_option maxRecDepth 100000 in
set_option maxHeartbeats 4000000 in
theorem law_39 (l : Launch) {p : Program} {e : Env} {s : State} {m : MethodId} {below : List Frame} {meth : Method} {c : Code} {X : xW} {Γ : Nat → Option Nat} {b L : Nat} {xs : Nat → Int32} {x1 m1 ca ka oa ra ta tm ts na mo wk : Nat} {td nd : Nat → Nat} (K : LK p s m meth c X Γ b L xs x1 m1 ca ka oa ra tm ts na mo wk) {H : Heap} {locs : List Loc} {ls : Array Slot} {Q : State → Prop} {i : Int32} {z : Int} (ez : i.toInt = z) (h0z : 0 ≤ z) (hzL : z + 6 ≤ L) (hC : Conf X Γ H) (hS : va_S (AΓ Γ) s.heap H locs) (hMI : MI X H m1 ca) (hMR : mkI X H x1 = mmI X H m1) (hFR : flI X H ra = tpdI X H m1) (hSH : SHP X Γ H x1 ta td nd) (hTR : TRl X td tm ts H) (hNR : NRl X td nd na H) (hMO : sR H x1 (X.1.2 10 13) = some mo) (hWK : sR H m1 (X.1.2 11 29) = some wk) (hWR : WRl X H mo m1 wk) (hl : lv_has ls 4 [(3, .int i), (2, .ref m1), (1, .ref x1), (0, .ref b)]) (hk : ∀ (H1 : Heap) (locs1 : List Loc), Conf X Γ H1 → va_S (AΓ Γ) s.heap H1 locs1 → MI X H1 m1 ca → mkI X H1 x1 = mmI X H1 m1 → flI X H1 ra = tpdI X H1 m1 → SHP X Γ H1 x1 ta td nd → TRl X td tm ts H1 → NRl X td nd na H1 → sR H1 x1 (X.1.2 10 13) = some mo → sR H1 m1 (X.1.2 11 29) = some wk → WRl X H1 mo m1 wk → W p l e room_1 s m #[Value.ref b] below meth c H1 locs1 147 13128 Q (F0 m 1667 ls [])) : W p l e room_1 s m #[Value.ref b] below meth c H locs 147 13128 Q (F0 m 1423 ls []) := by
  have E := K.E; have hx := E.1; have hb := E.2.1; have hLl := K.hL
  refine lv_aload_n hx hb dL_law_1423 rfl (lv_at hl 2 rfl) ?_
  refine lv_aload_n hx hb dL_law_1424 rfl (lv_at hl 3 rfl) ?_
  refine lv_iload_n hx hb dL_law_1425 rfl (lv_at hl 0 rfl) ?_
  refine lv_iconst (v := 1) hx hb dL_law_1426 rfl ?_
  refine lv_iadd hx hb dL_law_1427 (lv_topi (fun v21 e21 => ?_))
  have e21i : v21.toInt = z + 1 := i_add e21 ez (by decide) (by omega) (by omega)
  refine va_sld hx hb K.hX K.hbl K.hbA hS (i_in e21i (by omega) (by omega)) dL_law_1428 ?_
  refine lv_aload_n hx hb dL_law_1429 rfl (lv_at hl 3 rfl) ?_
  refine lv_iload_n hx hb dL_law_1430 rfl (lv_at hl 0 rfl) ?_
  refine lv_iconst (v := 2) hx hb dL_law_1431 rfl ?_
  refine lv_iadd hx hb dL_law_1432 (lv_topi (fun v22 e22 => ?_))
  have e22i : v22.toInt = z + 2 := i_add e22 ez (by decide) (by omega) (by omega)
  refine va_sld hx hb K.hX K.hbl K.hbA hS (i_in e22i (by omega) (by omega)) dL_law_1433 ?_
  refine lv_aload_n hx hb dL_law_1434 rfl (lv_at hl 3 rfl) ?_
  refine lv_iload_n hx hb dL_law_1435 rfl (lv_at hl 0 rfl) ?_
  refine lv_iconst (v := 3) hx hb dL_law_1436 rfl ?_
  refine lv_iadd hx hb dL_law_1437 (lv_topi (fun v23 e23 => ?_))
  have e23i : v23.toInt = z + 3 := i_add e23 ez (by decide) (by omega) (by omega)
  refine va_sld hx hb K.hX K.hbl K.hbA hS (i_in e23i (by omega) (by omega)) dL_law_1438 ?_
  refine lv_aload_n hx hb dL_law_1439 rfl (lv_at hl 3 rfl) ?_
  refine lv_iload_n hx hb dL_law_1440 rfl (lv_at hl 0 rfl) ?_
  refine lv_iconst (v := 4) hx hb dL_law_1441 rfl ?_
  refine lv_iadd hx hb dL_law_1442 (lv_topi (fun v24 e24 => ?_))
  have e24i : v24.toInt = z + 4 := i_add e24 ez (by decide) (by omega) (by omega)
  refine va_sld hx hb K.hX K.hbl K.hbA hS (i_in e24i (by omega) (by omega)) dL_law_1443 ?_
  refine r_goI (r_runV (As := [.int (xs v21.toNatClampNeg), .int (xs v22.toNatClampNeg), .int (xs v23.toNatClampNeg), .int (xs v24.toNatClampNeg)]) (rest := []) E hC hS (m_X11_turns l X Γ H hC x1 K.g1 (xs v21.toNatClampNeg) (a1 := ((xs v21.toNatClampNeg) : Int32).toInt) rfl (xs v22.toNatClampNeg) (a2 := ((xs v22.toNatClampNeg) : Int32).toInt) rfl (xs v23.toNatClampNeg) (a3 := ((xs v23.toNatClampNeg) : Int32).toInt) rfl (xs v24.toNatClampNeg) (a4 := ((xs v24.toNatClampNeg) : Int32).toInt) rfl) lcw_X11_turns lcl_184 K.g1 ⟨rfl, rfl⟩ rfl hl.1 rfl (Nat.zero_le _) (by decide) (by decide) (by decide) (by decide) dL_law_1444) hS (fun v25 H25 locs25 hp hC25 hS25 => ?_)
  obtain ⟨hp1, hp2a⟩ := hp
  have hMI : MI X H25 m1 ca := hMI.cl hC K.gca K.g2 hp1 rfl
  have hMR : mkI X H25 x1 = mmI X H25 m1 := (mk_kp hp1 K.g1 rfl).trans (hMR.trans (mm_kp hp1 K.g2 rfl).symm)
  have hFR : flI X H25 ra = tpdI X H25 m1 := (fl_kp hp1 K.gra rfl).trans (hFR.trans (tpd_kp hp1 K.g2 rfl).symm)
  have hSd := hSH; have hSH : SHP X Γ H25 x1 ta td nd := hSH.kp K.g1 hp1 rfl
  have hTr0 := hTR; have hNr0 := hNR; have hTm : TMm tm ts H H25 := TMm.kp0 hp1 K.gtm K.gts rfl; have hNm : NSm (nM na H) (nM na H25) := nM_kp0 hp1 K.gna rfl
  have hTc : TSm X td H H25 := TSm.kp TSm.rf hp1 hSH rfl; have hTR := hTR.same hTc hTm
  have hNc : NSm (nC nd H) (nC nd H25) := nC_kp NSm.rf hp1 hSH rfl; have hNR := hNR.same hTc hNc hNm
  have hpa := hp2a; have hCA := hC
  have hMO := (kp_R hp1 K.g1 (ci := 10) (k := 13) rfl (by decide) rfl).trans hMO; have hWK := (kp_R hp1 K.g2 (ci := 11) (k := 29) rfl (by decide) rfl).trans hWK
  have hWR0 := hWR; have hMm : MmK X H H25 m1 wk := MmK.kp0 hp1 K.g2 K.gwk rfl
  have hMc : MoK X H H25 mo := MoK.kp MoK.rf hp1 K.gmo rfl; have hWR := hWR.same hMc hMm
  have hC := hC25; have hS := hS25
  refine lv_pop hx hb dL_law_1447 rfl ?_
  refine lv_aload_n hx hb dL_law_1448 rfl (lv_at hl 1 rfl) ?_
  refine lv_aload_n hx hb dL_law_1449 rfl (lv_at hl 3 rfl) ?_
  refine lv_iload_n hx hb dL_law_1450 rfl (lv_at hl 0 rfl) ?_
  refine lv_iconst (v := 1) hx hb dL_law_1451 rfl ?_
  refine lv_iadd hx hb dL_law_1452 (lv_topi (fun v26 e26 => ?_))
  have e26i : v26.toInt = z + 1 := i_add e26 ez (by decide) (by omega) (by omega)
  have hq26 : v26 = v21 := e26.trans e21.symm
  refine va_sld hx hb K.hX K.hbl K.hbA hS (i_in e26i (by omega) (by omega)) dL_law_1453 ?_
  rw [hq26]
  refine lv_aload_n hx hb dL_law_1454 rfl (lv_at hl 3 rfl) ?_
  refine lv_iload_n hx hb dL_law_1455 rfl (lv_at hl 0 rfl) ?_
  refine lv_iconst (v := 2) hx hb dL_law_1456 rfl ?_
  refine lv_iadd hx hb dL_law_1457 (lv_topi (fun v27 e27 => ?_))
  have e27i : v27.toInt = z + 2 := i_add e27 ez (by decide) (by omega) (by omega)
  have hq27 : v27 = v22 := e27.trans e22.symm
  refine va_sld hx hb K.hX K.hbl K.hbA hS (i_in e27i (by omega) (by omega)) dL_law_1458 ?_
  rw [hq27]
  refine lv_aload_n hx hb dL_law_1459 rfl (lv_at hl 3 rfl) ?_
  refine lv_iload_n hx hb dL_law_1460 rfl (lv_at hl 0 rfl) ?_
  refine lv_iconst (v := 3) hx hb dL_law_1461 rfl ?_
  refine lv_iadd hx hb dL_law_1462 (lv_topi (fun v28 e28 => ?_))
  have e28i : v28.toInt = z + 3 := i_add e28 ez (by decide) (by omega) (by omega)
  have hq28 : v28 = v23 := e28.trans e23.symm
  refine va_sld hx hb K.hX K.hbl K.hbA hS (i_in e28i (by omega) (by omega)) dL_law_1463 ?_
  rw [hq28]
  refine lv_aload_n hx hb dL_law_1464 rfl (lv_at hl 3 rfl) ?_
  refine lv_iload_n hx hb dL_law_1465 rfl (lv_at hl 0 rfl) ?_
  refine lv_iconst (v := 4) hx hb dL_law_1466 rfl ?_
  refine lv_iadd hx hb dL_law_1467 (lv_topi (fun v29 e29 => ?_))
  have e29i : v29.toInt = z + 4 := i_add e29 ez (by decide) (by omega) (by omega)
  have hq29 : v29 = v24 := e29.trans e24.symm
  refine va_sld hx hb K.hX K.hbl K.hbA hS (i_in e29i (by omega) (by omega)) dL_law_1468 ?_
  rw [hq29]
  refine r_goI (r_runV (As := [.int (xs v21.toNatClampNeg), .int (xs v22.toNatClampNeg), .int (xs v23.toNatClampNeg), .int (xs v24.toNatClampNeg)]) (rest := []) E hC hS (m_X12_turns l X Γ H25 hC m1 K.g2 (xs v21.toNatClampNeg) (a1 := ((xs v21.toNatClampNeg) : Int32).toInt) rfl (xs v22.toNatClampNeg) (a2 := ((xs v22.toNatClampNeg) : Int32).toInt) rfl (xs v23.toNatClampNeg) (a3 := ((xs v23.toNatClampNeg) : Int32).toInt) rfl (xs v24.toNatClampNeg) (a4 := ((xs v24.toNatClampNeg) : Int32).toInt) rfl ca K.gca K.uc) lcw_X12_turns lcl_187 K.g2 ⟨rfl, rfl⟩ rfl hl.1 rfl (Nat.zero_le _) (by decide) (by decide) (by decide) (by decide) dL_law_1469) hS (fun v30 H30 locs30 hp hC30 hS30 => ?_)
  obtain ⟨hp1, hp2b⟩ := hp
  have hMI : MI X H30 m1 ca := hMI.kp hC K.gca K.g2 hp1 rfl rfl rfl
  have hMR : mkI X H30 x1 = mmI X H30 m1 := (mk_kp hp1 K.g1 rfl).trans (hMR.trans (mm_kp hp1 K.g2 rfl).symm)
  have hFR : flI X H30 ra = tpdI X H30 m1 := (fl_kp hp1 K.gra rfl).trans (hFR.trans (tpd_kp hp1 K.g2 rfl).symm)
  have hSd := hSH; have hSH : SHP X Γ H30 x1 ta td nd := hSH.kpM K.g1 hp1 rfl
  have hTc2 : TSm X td H25 H30 := TSm.kp1 hp1 hSH rfl; have hNc2 : NSm (nC nd H25) (nC nd H30) := nC_kp1 hp1 hSH rfl
  have hTrm := hTR; have hTm2 : TMm tm ts H25 H30 := TMm.kp TMm.rf hp1 K.gtm K.gts rfl; have hTR := hTR.same hTc2 hTm2
  have hpb := hp2b
  have hNm2 : NSm (nM na H25) (nM na H30) := nM_kp NSm.rf hp1 K.gna rfl; have hNrm := hNR; have hNR := hNR.same hTc2 hNc2 hNm2
  have hMO := (kp_R hp1 K.g1 (ci := 10) (k := 13) rfl (by decide) rfl).trans hMO; have hWK := (kp_R hp1 K.g2 (ci := 11) (k := 29) rfl (by decide) rfl).trans hWK
  have hMc2 : MoK X H25 H30 mo := MoK.kp1 hp1 K.gmo rfl
  have hWRm := hWR; have hWR := hWR.same hMc2 (MmK.kp MmK.rf hp1 K.g2 K.gwk rfl)
  have hC := hC30; have hS := hS30
  refine lv_pop hx hb dL_law_1472 rfl ?_
  refine lv_goto (tgt := 1667) hx hb dL_law_1473 rfl ?_
  exact hk _ _ hC hS hMI hMR hFR hSH hTR hNR hMO hWK hWR
set_option maxRecDepth 100000 in
set_option maxHeartbeats 4000000 in
theorem law_40 (l : Launch) {p : Program} {e : Env} {s : State} {m : MethodId} {below : List Frame} {meth : Method} {c : Code} {X : xW} {Γ : Nat → Option Nat} {b L : Nat} {xs : Nat → Int32} {x1 m1 ca ka oa ra ta tm ts na mo wk : Nat} {td nd : Nat → Nat} (K : LK p s m meth c X Γ b L xs x1 m1 ca ka oa ra tm ts na mo wk) {H : Heap} {locs : List Loc} {ls : Array Slot} {Q : State → Prop} {i : Int32} {z : Int} (ez : i.toInt = z) (h0z : 0 ≤ z) (hzL : z + 6 ≤ L) (hC : Conf X Γ H) (hS : va_S (AΓ Γ) s.heap H locs) (hMI : MI X H m1 ca) (hMR : mkI X H x1 = mmI X H m1) (hFR : flI X H ra = tpdI X H m1) (hSH : SHP X Γ H x1 ta td nd) (hTR : TRl X td tm ts H) (hNR : NRl X td nd na H) (hMO : sR H x1 (X.1.2 10 13) = some mo) (hWK : sR H m1 (X.1.2 11 29) = some wk) (hWR : WRl X H mo m1 wk) (hl : lv_has ls 4 [(3, .int i), (2, .ref m1), (1, .ref x1), (0, .ref b)]) (hk : ∀ (H1 : Heap) (locs1 : List Loc), Conf X Γ H1 → va_S (AΓ Γ) s.heap H1 locs1 → MI X H1 m1 ca → mkI X H1 x1 = mmI X H1 m1 → flI X H1 ra = tpdI X H1 m1 → SHP X Γ H1 x1 ta td nd → TRl X td tm ts H1 → NRl X td nd na H1 → sR H1 x1 (X.1.2 10 13) = some mo → sR H1 m1 (X.1.2 11 29) = some wk → WRl X H1 mo m1 wk → W p l e room_1 s m #[Value.ref b] below meth c H1 locs1 147 13128 Q (F0 m 1667 ls [])) : W p l e room_1 s m #[Value.ref b] below meth c H locs 147 13128 Q (F0 m 1476 ls []) := by
  have E := K.E; have hx := E.1; have hb := E.2.1; have hLl := K.hL
  refine lv_aload_n hx hb dL_law_1476 rfl (lv_at hl 2 rfl) ?_
  refine lv_aload_n hx hb dL_law_1477 rfl (lv_at hl 3 rfl) ?_
  refine lv_iload_n hx hb dL_law_1478 rfl (lv_at hl 0 rfl) ?_
  refine lv_iconst (v := 1) hx hb dL_law_1479 rfl ?_
  refine lv_iadd hx hb dL_law_1480 (lv_topi (fun v21 e21 => ?_))
  have e21i : v21.toInt = z + 1 := i_add e21 ez (by decide) (by omega) (by omega)
  refine va_sld hx hb K.hX K.hbl K.hbA hS (i_in e21i (by omega) (by omega)) dL_law_1481 ?_
  refine lv_aload_n hx hb dL_law_1482 rfl (lv_at hl 3 rfl) ?_
  refine lv_iload_n hx hb dL_law_1483 rfl (lv_at hl 0 rfl) ?_
  refine lv_iconst (v := 2) hx hb dL_law_1484 rfl ?_
  refine lv_iadd hx hb dL_law_1485 (lv_topi (fun v22 e22 => ?_))
  have e22i : v22.toInt = z + 2 := i_add e22 ez (by decide) (by omega) (by omega)
  refine va_sld hx hb K.hX K.hbl K.hbA hS (i_in e22i (by omega) (by omega)) dL_law_1486 ?_
  refine lv_aload_n hx hb dL_law_1487 rfl (lv_at hl 3 rfl) ?_
  refine lv_iload_n hx hb dL_law_1488 rfl (lv_at hl 0 rfl) ?_
  refine lv_iconst (v := 3) hx hb dL_law_1489 rfl ?_
  refine lv_iadd hx hb dL_law_1490 (lv_topi (fun v23 e23 => ?_))
  have e23i : v23.toInt = z + 3 := i_add e23 ez (by decide) (by omega) (by omega)
  refine va_sld hx hb K.hX K.hbl K.hbA hS (i_in e23i (by omega) (by omega)) dL_law_1491 ?_
  refine r_goI (r_runV (As := [.int (xs v21.toNatClampNeg), .int (xs v22.toNatClampNeg), .int (xs v23.toNatClampNeg)]) (rest := []) E hC hS (m_X11_stands l X Γ H hC x1 K.g1 (xs v21.toNatClampNeg) (a1 := ((xs v21.toNatClampNeg) : Int32).toInt) rfl (xs v22.toNatClampNeg) (a2 := ((xs v22.toNatClampNeg) : Int32).toInt) rfl (xs v23.toNatClampNeg) (a3 := ((xs v23.toNatClampNeg) : Int32).toInt) rfl ta td nd hSH) lcw_X11_stands lcl_188 K.g1 ⟨rfl, rfl⟩ rfl hl.1 rfl (Nat.zero_le _) (by decide) (by decide) (by decide) (by decide) dL_law_1492) hS (fun v24 H24 locs24 hp hC24 hS24 => ?_)
  obtain ⟨hp1, hp2a⟩ := hp
  have hMI : MI X H24 m1 ca := hMI.cl hC K.gca K.g2 hp1 rfl
  have hMR : mkI X H24 x1 = mmI X H24 m1 := (mk_kp hp1 K.g1 rfl).trans (hMR.trans (mm_kp hp1 K.g2 rfl).symm)
  have hFR : flI X H24 ra = tpdI X H24 m1 := (fl_kp hp1 K.gra rfl).trans (hFR.trans (tpd_kp hp1 K.g2 rfl).symm)
  have hSd := hSH; have hSH : SHP X Γ H24 x1 ta td nd := hSH.kp K.g1 hp1 rfl
  have hTr0 := hTR; have hNr0 := hNR; have hTm : TMm tm ts H H24 := TMm.kp0 hp1 K.gtm K.gts rfl; have hNm : NSm (nM na H) (nM na H24) := nM_kp0 hp1 K.gna rfl
  have hTc : TSm X td H H24 := TSm.kp TSm.rf hp1 hSH rfl; have hTR := hTR.same hTc hTm
  have hNc : NSm (nC nd H) (nC nd H24) := nC_kp NSm.rf hp1 hSH rfl; have hNR := hNR.same hTc hNc hNm
  have hpa := hp2a; have hCA := hC
  have hMO := (kp_R hp1 K.g1 (ci := 10) (k := 13) rfl (by decide) rfl).trans hMO; have hWK := (kp_R hp1 K.g2 (ci := 11) (k := 29) rfl (by decide) rfl).trans hWK
  have hWR0 := hWR; have hMm : MmK X H H24 m1 wk := MmK.kp0 hp1 K.g2 K.gwk rfl
  have hMc : MoK X H H24 mo := MoK.kp MoK.rf hp1 K.gmo rfl; have hWR := hWR.same hMc hMm
  have hC := hC24; have hS := hS24
  refine lv_pop hx hb dL_law_1495 rfl ?_
  refine lv_aload_n hx hb dL_law_1496 rfl (lv_at hl 1 rfl) ?_
  refine lv_aload_n hx hb dL_law_1497 rfl (lv_at hl 3 rfl) ?_
  refine lv_iload_n hx hb dL_law_1498 rfl (lv_at hl 0 rfl) ?_
  refine lv_iconst (v := 1) hx hb dL_law_1499 rfl ?_
  refine lv_iadd hx hb dL_law_1500 (lv_topi (fun v25 e25 => ?_))
  have e25i : v25.toInt = z + 1 := i_add e25 ez (by decide) (by omega) (by omega)
  have hq25 : v25 = v21 := e25.trans e21.symm
  refine va_sld hx hb K.hX K.hbl K.hbA hS (i_in e25i (by omega) (by omega)) dL_law_1501 ?_
  rw [hq25]
  refine lv_aload_n hx hb dL_law_1502 rfl (lv_at hl 3 rfl) ?_
  refine lv_iload_n hx hb dL_law_1503 rfl (lv_at hl 0 rfl) ?_
  refine lv_iconst (v := 2) hx hb dL_law_1504 rfl ?_
  refine lv_iadd hx hb dL_law_1505 (lv_topi (fun v26 e26 => ?_))
  have e26i : v26.toInt = z + 2 := i_add e26 ez (by decide) (by omega) (by omega)
  have hq26 : v26 = v22 := e26.trans e22.symm
  refine va_sld hx hb K.hX K.hbl K.hbA hS (i_in e26i (by omega) (by omega)) dL_law_1506 ?_
  rw [hq26]
  refine lv_aload_n hx hb dL_law_1507 rfl (lv_at hl 3 rfl) ?_
  refine lv_iload_n hx hb dL_law_1508 rfl (lv_at hl 0 rfl) ?_
  refine lv_iconst (v := 3) hx hb dL_law_1509 rfl ?_
  refine lv_iadd hx hb dL_law_1510 (lv_topi (fun v27 e27 => ?_))
  have e27i : v27.toInt = z + 3 := i_add e27 ez (by decide) (by omega) (by omega)
  have hq27 : v27 = v23 := e27.trans e23.symm
  refine va_sld hx hb K.hX K.hbl K.hbA hS (i_in e27i (by omega) (by omega)) dL_law_1511 ?_
  rw [hq27]
  refine r_goI (r_runV (As := [.int (xs v21.toNatClampNeg), .int (xs v22.toNatClampNeg), .int (xs v23.toNatClampNeg)]) (rest := []) E hC hS (m_X12_stands l X Γ H24 hC m1 K.g2 (xs v21.toNatClampNeg) (a1 := ((xs v21.toNatClampNeg) : Int32).toInt) rfl (xs v22.toNatClampNeg) (a2 := ((xs v22.toNatClampNeg) : Int32).toInt) rfl (xs v23.toNatClampNeg) (a3 := ((xs v23.toNatClampNeg) : Int32).toInt) rfl ca K.gca K.uc tm ts K.gtm K.utm K.gts K.uts na K.gna K.una) lcw_X12_stands lcl_191 K.g2 ⟨rfl, rfl⟩ rfl hl.1 rfl (Nat.zero_le _) (by decide) (by decide) (by decide) (by decide) dL_law_1512) hS (fun v28 H28 locs28 hp hC28 hS28 => ?_)
  obtain ⟨hp1, hp2b⟩ := hp
  have hMI : MI X H28 m1 ca := hMI.kp hC K.gca K.g2 hp1 rfl rfl rfl
  have hMR : mkI X H28 x1 = mmI X H28 m1 := (mk_kp hp1 K.g1 rfl).trans (hMR.trans (mm_kp hp1 K.g2 rfl).symm)
  have hFR : flI X H28 ra = tpdI X H28 m1 := (fl_kp hp1 K.gra rfl).trans (hFR.trans (tpd_kp hp1 K.g2 rfl).symm)
  have hSd := hSH; have hSH : SHP X Γ H28 x1 ta td nd := hSH.kpM K.g1 hp1 rfl
  have hTc2 : TSm X td H24 H28 := TSm.kp1 hp1 hSH rfl; have hNc2 : NSm (nC nd H24) (nC nd H28) := nC_kp1 hp1 hSH rfl
  have hTrm := hTR; have hTm2 : TMm tm ts H24 H28 := TMm.kp TMm.rf hp1 K.gtm K.gts rfl; have hTR := hTR.same hTc2 hTm2
  have hpb := hp2b
  have hNm2 : NSm (nM na H24) (nM na H28) := nM_kp NSm.rf hp1 K.gna rfl; have hNrm := hNR; have hNR := hNR.same hTc2 hNc2 hNm2
  have hMO := (kp_R hp1 K.g1 (ci := 10) (k := 13) rfl (by decide) rfl).trans hMO; have hWK := (kp_R hp1 K.g2 (ci := 11) (k := 29) rfl (by decide) rfl).trans hWK
  have hMc2 : MoK X H24 H28 mo := MoK.kp1 hp1 K.gmo rfl
  have hWRm := hWR; have hWR := hWR.same hMc2 (MmK.kp MmK.rf hp1 K.g2 K.gwk rfl)
  have hC := hC28; have hS := hS28
  refine lv_pop hx hb dL_law_1515 rfl ?_
  refine lv_goto (tgt := 1667) hx hb dL_law_1516 rfl ?_
  exact hk _ _ hC hS hMI hMR hFR hSH hTR hNR hMO hWK hWR
set_option maxRecDepth 100000 in
set_option maxHeartbeats 4000000 in
theorem law_41 (l : Launch) {p : Program} {e : Env} {s : State} {m : MethodId} {below : List Frame} {meth : Method} {c : Code} {X : xW} {Γ : Nat → Option Nat} {b L : Nat} {xs : Nat → Int32} {x1 m1 ca ka oa ra ta tm ts na mo wk : Nat} {td nd : Nat → Nat} (K : LK p s m meth c X Γ b L xs x1 m1 ca ka oa ra tm ts na mo wk) {H : Heap} {locs : List Loc} {ls : Array Slot} {Q : State → Prop} {i : Int32} {z : Int} (ez : i.toInt = z) (h0z : 0 ≤ z) (hzL : z + 6 ≤ L) (hC : Conf X Γ H) (hS : va_S (AΓ Γ) s.heap H locs) (hMI : MI X H m1 ca) (hMR : mkI X H x1 = mmI X H m1) (hFR : flI X H ra = tpdI X H m1) (hSH : SHP X Γ H x1 ta td nd) (hTR : TRl X td tm ts H) (hNR : NRl X td nd na H) (hMO : sR H x1 (X.1.2 10 13) = some mo) (hWK : sR H m1 (X.1.2 11 29) = some wk) (hWR : WRl X H mo m1 wk) (hl : lv_has ls 4 [(3, .int i), (2, .ref m1), (1, .ref x1), (0, .ref b)]) (hk : ∀ (H1 : Heap) (locs1 : List Loc), Conf X Γ H1 → va_S (AΓ Γ) s.heap H1 locs1 → MI X H1 m1 ca → mkI X H1 x1 = mmI X H1 m1 → flI X H1 ra = tpdI X H1 m1 → SHP X Γ H1 x1 ta td nd → TRl X td tm ts H1 → NRl X td nd na H1 → sR H1 x1 (X.1.2 10 13) = some mo → sR H1 m1 (X.1.2 11 29) = some wk → WRl X H1 mo m1 wk → W p l e room_1 s m #[Value.ref b] below meth c H1 locs1 147 13128 Q (F0 m 1667 ls [])) : W p l e room_1 s m #[Value.ref b] below meth c H locs 147 13128 Q (F0 m 1519 ls []) := by
  have E := K.E; have hx := E.1; have hb := E.2.1; have hLl := K.hL
  refine lv_aload_n hx hb dL_law_1519 rfl (lv_at hl 2 rfl) ?_
  refine lv_aload_n hx hb dL_law_1520 rfl (lv_at hl 3 rfl) ?_
  refine lv_iload_n hx hb dL_law_1521 rfl (lv_at hl 0 rfl) ?_
  refine lv_iconst (v := 1) hx hb dL_law_1522 rfl ?_
  refine lv_iadd hx hb dL_law_1523 (lv_topi (fun v21 e21 => ?_))
  have e21i : v21.toInt = z + 1 := i_add e21 ez (by decide) (by omega) (by omega)
  refine va_sld hx hb K.hX K.hbl K.hbA hS (i_in e21i (by omega) (by omega)) dL_law_1524 ?_
  refine lv_aload_n hx hb dL_law_1525 rfl (lv_at hl 3 rfl) ?_
  refine lv_iload_n hx hb dL_law_1526 rfl (lv_at hl 0 rfl) ?_
  refine lv_iconst (v := 2) hx hb dL_law_1527 rfl ?_
  refine lv_iadd hx hb dL_law_1528 (lv_topi (fun v22 e22 => ?_))
  have e22i : v22.toInt = z + 2 := i_add e22 ez (by decide) (by omega) (by omega)
  refine va_sld hx hb K.hX K.hbl K.hbA hS (i_in e22i (by omega) (by omega)) dL_law_1529 ?_
  refine lv_aload_n hx hb dL_law_1530 rfl (lv_at hl 3 rfl) ?_
  refine lv_iload_n hx hb dL_law_1531 rfl (lv_at hl 0 rfl) ?_
  refine lv_iconst (v := 3) hx hb dL_law_1532 rfl ?_
  refine lv_iadd hx hb dL_law_1533 (lv_topi (fun v23 e23 => ?_))
  have e23i : v23.toInt = z + 3 := i_add e23 ez (by decide) (by omega) (by omega)
  refine va_sld hx hb K.hX K.hbl K.hbA hS (i_in e23i (by omega) (by omega)) dL_law_1534 ?_
  refine r_goI (r_runV (As := [.int (xs v21.toNatClampNeg), .int (xs v22.toNatClampNeg), .int (xs v23.toNatClampNeg)]) (rest := []) E hC hS (m_X11_mean l X Γ H hC x1 K.g1 (xs v21.toNatClampNeg) (a1 := ((xs v21.toNatClampNeg) : Int32).toInt) rfl (xs v22.toNatClampNeg) (a2 := ((xs v22.toNatClampNeg) : Int32).toInt) rfl (xs v23.toNatClampNeg) (a3 := ((xs v23.toNatClampNeg) : Int32).toInt) rfl ta td nd hSH) lcw_X11_mean lcl_192 K.g1 ⟨rfl, rfl⟩ rfl hl.1 rfl (Nat.zero_le _) (by decide) (by decide) (by decide) (by decide) dL_law_1535) hS (fun v24 H24 locs24 hp hC24 hS24 => ?_)
  obtain ⟨hp1, hp2a⟩ := hp
  have hMI : MI X H24 m1 ca := hMI.cl hC K.gca K.g2 hp1 rfl
  have hMR : mkI X H24 x1 = mmI X H24 m1 := (mk_kp hp1 K.g1 rfl).trans (hMR.trans (mm_kp hp1 K.g2 rfl).symm)
  have hFR : flI X H24 ra = tpdI X H24 m1 := (fl_kp hp1 K.gra rfl).trans (hFR.trans (tpd_kp hp1 K.g2 rfl).symm)
  have hSd := hSH; have hSH : SHP X Γ H24 x1 ta td nd := hSH.kp K.g1 hp1 rfl
  have hTr0 := hTR; have hNr0 := hNR; have hTm : TMm tm ts H H24 := TMm.kp0 hp1 K.gtm K.gts rfl; have hNm : NSm (nM na H) (nM na H24) := nM_kp0 hp1 K.gna rfl
  have hTc : TSm X td H H24 := TSm.kp TSm.rf hp1 hSH rfl; have hTR := hTR.same hTc hTm
  have hNc : NSm (nC nd H) (nC nd H24) := nC_kp NSm.rf hp1 hSH rfl; have hNR := hNR.same hTc hNc hNm
  have hpa := hp2a; have hCA := hC
  have hMO := (kp_R hp1 K.g1 (ci := 10) (k := 13) rfl (by decide) rfl).trans hMO; have hWK := (kp_R hp1 K.g2 (ci := 11) (k := 29) rfl (by decide) rfl).trans hWK
  have hWR0 := hWR; have hMm : MmK X H H24 m1 wk := MmK.kp0 hp1 K.g2 K.gwk rfl
  have hMc : MoK X H H24 mo := MoK.kp MoK.rf hp1 K.gmo rfl; have hWR := hWR.same hMc hMm
  have hC := hC24; have hS := hS24
  refine lv_pop hx hb dL_law_1538 rfl ?_
  refine lv_aload_n hx hb dL_law_1539 rfl (lv_at hl 1 rfl) ?_
  refine lv_aload_n hx hb dL_law_1540 rfl (lv_at hl 3 rfl) ?_
  refine lv_iload_n hx hb dL_law_1541 rfl (lv_at hl 0 rfl) ?_
  refine lv_iconst (v := 1) hx hb dL_law_1542 rfl ?_
  refine lv_iadd hx hb dL_law_1543 (lv_topi (fun v25 e25 => ?_))
  have e25i : v25.toInt = z + 1 := i_add e25 ez (by decide) (by omega) (by omega)
  have hq25 : v25 = v21 := e25.trans e21.symm
  refine va_sld hx hb K.hX K.hbl K.hbA hS (i_in e25i (by omega) (by omega)) dL_law_1544 ?_
  rw [hq25]
  refine lv_aload_n hx hb dL_law_1545 rfl (lv_at hl 3 rfl) ?_
  refine lv_iload_n hx hb dL_law_1546 rfl (lv_at hl 0 rfl) ?_
  refine lv_iconst (v := 2) hx hb dL_law_1547 rfl ?_
  refine lv_iadd hx hb dL_law_1548 (lv_topi (fun v26 e26 => ?_))
  have e26i : v26.toInt = z + 2 := i_add e26 ez (by decide) (by omega) (by omega)
  have hq26 : v26 = v22 := e26.trans e22.symm
  refine va_sld hx hb K.hX K.hbl K.hbA hS (i_in e26i (by omega) (by omega)) dL_law_1549 ?_
  rw [hq26]
  refine lv_aload_n hx hb dL_law_1550 rfl (lv_at hl 3 rfl) ?_
  refine lv_iload_n hx hb dL_law_1551 rfl (lv_at hl 0 rfl) ?_
  refine lv_iconst (v := 3) hx hb dL_law_1552 rfl ?_
  refine lv_iadd hx hb dL_law_1553 (lv_topi (fun v27 e27 => ?_))
  have e27i : v27.toInt = z + 3 := i_add e27 ez (by decide) (by omega) (by omega)
  have hq27 : v27 = v23 := e27.trans e23.symm
  refine va_sld hx hb K.hX K.hbl K.hbA hS (i_in e27i (by omega) (by omega)) dL_law_1554 ?_
  rw [hq27]
  refine r_goI (r_runV (As := [.int (xs v21.toNatClampNeg), .int (xs v22.toNatClampNeg), .int (xs v23.toNatClampNeg)]) (rest := []) E hC hS (m_X12_mean l X Γ H24 hC m1 K.g2 (xs v21.toNatClampNeg) (a1 := ((xs v21.toNatClampNeg) : Int32).toInt) rfl (xs v22.toNatClampNeg) (a2 := ((xs v22.toNatClampNeg) : Int32).toInt) rfl (xs v23.toNatClampNeg) (a3 := ((xs v23.toNatClampNeg) : Int32).toInt) rfl ca K.gca K.uc tm ts K.gtm K.utm K.gts K.uts na K.gna K.una) lcw_X12_mean lcl_195 K.g2 ⟨rfl, rfl⟩ rfl hl.1 rfl (Nat.zero_le _) (by decide) (by decide) (by decide) (by decide) dL_law_1555) hS (fun v28 H28 locs28 hp hC28 hS28 => ?_)
  obtain ⟨hp1, hp2b⟩ := hp
  have hMI : MI X H28 m1 ca := hMI.kp hC K.gca K.g2 hp1 rfl rfl rfl
  have hMR : mkI X H28 x1 = mmI X H28 m1 := (mk_kp hp1 K.g1 rfl).trans (hMR.trans (mm_kp hp1 K.g2 rfl).symm)
  have hFR : flI X H28 ra = tpdI X H28 m1 := (fl_kp hp1 K.gra rfl).trans (hFR.trans (tpd_kp hp1 K.g2 rfl).symm)
  have hSd := hSH; have hSH : SHP X Γ H28 x1 ta td nd := hSH.kpM K.g1 hp1 rfl
  have hTc2 : TSm X td H24 H28 := TSm.kp1 hp1 hSH rfl; have hNc2 : NSm (nC nd H24) (nC nd H28) := nC_kp1 hp1 hSH rfl
  have hTrm := hTR; have hTm2 : TMm tm ts H24 H28 := TMm.kp TMm.rf hp1 K.gtm K.gts rfl; have hTR := hTR.same hTc2 hTm2
  have hpb := hp2b
  have hNm2 : NSm (nM na H24) (nM na H28) := nM_kp NSm.rf hp1 K.gna rfl; have hNrm := hNR; have hNR := hNR.same hTc2 hNc2 hNm2
  have hMO := (kp_R hp1 K.g1 (ci := 10) (k := 13) rfl (by decide) rfl).trans hMO; have hWK := (kp_R hp1 K.g2 (ci := 11) (k := 29) rfl (by decide) rfl).trans hWK
  have hMc2 : MoK X H24 H28 mo := MoK.kp1 hp1 K.gmo rfl
  have hWRm := hWR; have hWR := hWR.same hMc2 (MmK.kp MmK.rf hp1 K.g2 K.gwk rfl)
  have hC := hC28; have hS := hS28
  refine lv_pop hx hb dL_law_1558 rfl ?_
  refine lv_goto (tgt := 1667) hx hb dL_law_1559 rfl ?_
  exact hk _ _ hC hS hMI hMR hFR hSH hTR hNR hMO hWK hWR
set_option maxRecDepth 100000 in
set_option maxHeartbeats 4000000 in
theorem law_42 (l : Launch) {p : Program} {e : Env} {s : State} {m : MethodId} {below : List Frame} {meth : Method} {c : Code} {X : xW} {Γ : Nat → Option Nat} {b L : Nat} {xs : Nat → Int32} {x1 m1 ca ka oa ra ta tm ts na mo wk : Nat} {td nd : Nat → Nat} (K : LK p s m meth c X Γ b L xs x1 m1 ca ka oa ra tm ts na mo wk) {H : Heap} {locs : List Loc} {ls : Array Slot} {Q : State → Prop} {i : Int32} {z : Int} (ez : i.toInt = z) (h0z : 0 ≤ z) (hzL : z + 6 ≤ L) (hC : Conf X Γ H) (hS : va_S (AΓ Γ) s.heap H locs) (hMI : MI X H m1 ca) (hMR : mkI X H x1 = mmI X H m1) (hFR : flI X H ra = tpdI X H m1) (hSH : SHP X Γ H x1 ta td nd) (hTR : TRl X td tm ts H) (hNR : NRl X td nd na H) (hMO : sR H x1 (X.1.2 10 13) = some mo) (hWK : sR H m1 (X.1.2 11 29) = some wk) (hWR : WRl X H mo m1 wk) (hl : lv_has ls 4 [(3, .int i), (2, .ref m1), (1, .ref x1), (0, .ref b)]) (hk : ∀ (H1 : Heap) (locs1 : List Loc), Conf X Γ H1 → va_S (AΓ Γ) s.heap H1 locs1 → MI X H1 m1 ca → mkI X H1 x1 = mmI X H1 m1 → flI X H1 ra = tpdI X H1 m1 → SHP X Γ H1 x1 ta td nd → TRl X td tm ts H1 → NRl X td nd na H1 → sR H1 x1 (X.1.2 10 13) = some mo → sR H1 m1 (X.1.2 11 29) = some wk → WRl X H1 mo m1 wk → W p l e room_1 s m #[Value.ref b] below meth c H1 locs1 147 13128 Q (F0 m 1667 ls [])) : W p l e room_1 s m #[Value.ref b] below meth c H locs 147 13128 Q (F0 m 1562 ls []) := by
  have E := K.E; have hx := E.1; have hb := E.2.1; have hLl := K.hL
  refine lv_aload_n hx hb dL_law_1562 rfl (lv_at hl 2 rfl) ?_
  refine lv_aload_n hx hb dL_law_1563 rfl (lv_at hl 3 rfl) ?_
  refine lv_iload_n hx hb dL_law_1564 rfl (lv_at hl 0 rfl) ?_
  refine lv_iconst (v := 1) hx hb dL_law_1565 rfl ?_
  refine lv_iadd hx hb dL_law_1566 (lv_topi (fun v21 e21 => ?_))
  have e21i : v21.toInt = z + 1 := i_add e21 ez (by decide) (by omega) (by omega)
  refine va_sld hx hb K.hX K.hbl K.hbA hS (i_in e21i (by omega) (by omega)) dL_law_1567 ?_
  refine r_goI (r_runV (As := [.int (xs v21.toNatClampNeg)]) (rest := []) E hC hS (m_X11_run l X Γ H hC x1 K.g1 (xs v21.toNatClampNeg) (a1 := ((xs v21.toNatClampNeg) : Int32).toInt) rfl) lcw_X11_run lcl_196 K.g1 ⟨rfl, rfl⟩ rfl hl.1 rfl (Nat.zero_le _) (by decide) (by decide) (by decide) (by decide) dL_law_1568) hS (fun v22 H22 locs22 hp hC22 hS22 => ?_)
  obtain ⟨hp1, hp2a⟩ := hp
  have hMI : MI X H22 m1 ca := hMI.cl hC K.gca K.g2 hp1 rfl
  have hMR : mkI X H22 x1 = mmI X H22 m1 := (mk_kp hp1 K.g1 rfl).trans (hMR.trans (mm_kp hp1 K.g2 rfl).symm)
  have hFR : flI X H22 ra = tpdI X H22 m1 := (fl_kp hp1 K.gra rfl).trans (hFR.trans (tpd_kp hp1 K.g2 rfl).symm)
  have hSd := hSH; have hSH : SHP X Γ H22 x1 ta td nd := hSH.kp K.g1 hp1 rfl
  have hTr0 := hTR; have hNr0 := hNR; have hTm : TMm tm ts H H22 := TMm.kp0 hp1 K.gtm K.gts rfl; have hNm : NSm (nM na H) (nM na H22) := nM_kp0 hp1 K.gna rfl
  have hTc : TSm X td H H22 := TSm.kp TSm.rf hp1 hSH rfl; have hTR := hTR.same hTc hTm
  have hNc : NSm (nC nd H) (nC nd H22) := nC_kp NSm.rf hp1 hSH rfl; have hNR := hNR.same hTc hNc hNm
  have hpa := hp2a; have hCA := hC
  have hMO := (kp_R hp1 K.g1 (ci := 10) (k := 13) rfl (by decide) rfl).trans hMO; have hWK := (kp_R hp1 K.g2 (ci := 11) (k := 29) rfl (by decide) rfl).trans hWK
  have hWR0 := hWR; have hMm : MmK X H H22 m1 wk := MmK.kp0 hp1 K.g2 K.gwk rfl
  have hMc : MoK X H H22 mo := MoK.kp MoK.rf hp1 K.gmo rfl; have hWR := hWR.same hMc hMm
  have hC := hC22; have hS := hS22
  refine lv_pop hx hb dL_law_1571 rfl ?_
  refine lv_aload_n hx hb dL_law_1572 rfl (lv_at hl 1 rfl) ?_
  refine lv_aload_n hx hb dL_law_1573 rfl (lv_at hl 3 rfl) ?_
  refine lv_iload_n hx hb dL_law_1574 rfl (lv_at hl 0 rfl) ?_
  refine lv_iconst (v := 1) hx hb dL_law_1575 rfl ?_
  refine lv_iadd hx hb dL_law_1576 (lv_topi (fun v23 e23 => ?_))
  have e23i : v23.toInt = z + 1 := i_add e23 ez (by decide) (by omega) (by omega)
  have hq23 : v23 = v21 := e23.trans e21.symm
  refine va_sld hx hb K.hX K.hbl K.hbA hS (i_in e23i (by omega) (by omega)) dL_law_1577 ?_
  rw [hq23]
  refine r_goI (r_runV (As := [.int (xs v21.toNatClampNeg)]) (rest := []) E hC hS (m_X12_run l X Γ H22 hC m1 K.g2 (xs v21.toNatClampNeg) (a1 := ((xs v21.toNatClampNeg) : Int32).toInt) rfl ca K.gca K.uc oa K.goa K.uo hMI.c0.2.2.1 hMI.c0.2.2.2) lcw_X12_run lcl_199 K.g2 ⟨rfl, rfl⟩ rfl hl.1 rfl (Nat.zero_le _) (by decide) (by decide) (by decide) (by decide) dL_law_1578) hS (fun v24 H24 locs24 hp hC24 hS24 => ?_)
  obtain ⟨hp1, hp2b⟩ := hp
  obtain ⟨hp1, hu⟩ := hp1
  have hMI : MI X H24 m1 ca := hMI.uh hC K.gca K.g2 hp1 hu rfl rfl
  have hMR : mkI X H24 x1 = mmI X H24 m1 := (mk_kp hp1 K.g1 rfl).trans (hMR.trans (mm_kp hp1 K.g2 rfl).symm)
  have hFR : flI X H24 ra = tpdI X H24 m1 := (fl_kp hp1 K.gra rfl).trans (hFR.trans (tpd_kp hp1 K.g2 rfl).symm)
  have hSd := hSH; have hSH : SHP X Γ H24 x1 ta td nd := hSH.kpM K.g1 hp1 rfl
  have hTc2 : TSm X td H22 H24 := TSm.kp1 hp1 hSH rfl; have hNc2 : NSm (nC nd H22) (nC nd H24) := nC_kp1 hp1 hSH rfl
  have hTrm := hTR; have hTm2 : TMm tm ts H22 H24 := TMm.kp TMm.rf hp1 K.gtm K.gts rfl; have hTR := hTR.same hTc2 hTm2
  have hpb := hp2b
  have hNm2 : NSm (nM na H22) (nM na H24) := nM_kp NSm.rf hp1 K.gna rfl; have hNrm := hNR; have hNR := hNR.same hTc2 hNc2 hNm2
  have hMO := (kp_R hp1 K.g1 (ci := 10) (k := 13) rfl (by decide) rfl).trans hMO; have hWK := (kp_R hp1 K.g2 (ci := 11) (k := 29) rfl (by decide) rfl).trans hWK
  have hMc2 : MoK X H22 H24 mo := MoK.kp1 hp1 K.gmo rfl
  have hWRm := hWR; have hWR := hWR.same hMc2 (MmK.kp MmK.rf hp1 K.g2 K.gwk rfl)
  have hC := hC24; have hS := hS24
  refine lv_pop hx hb dL_law_1581 rfl ?_
  refine lv_goto (tgt := 1667) hx hb dL_law_1582 rfl ?_
  exact hk _ _ hC hS hMI hMR hFR hSH hTR hNR hMO hWK hWR
set_option maxRecDepth 100000 in
set_option maxHeartbeats 4000000 in
theorem law_43 (l : Launch) {p : Program} {e : Env} {s : State} {m : MethodId} {below : List Frame} {meth : Method} {c : Code} {X : xW} {Γ : Nat → Option Nat} {b L : Nat} {xs : Nat → Int32} {x1 m1 ca ka oa ra ta tm ts na mo wk : Nat} {td nd : Nat → Nat} (K : LK p s m meth c X Γ b L xs x1 m1 ca ka oa ra tm ts na mo wk) {H : Heap} {locs : List Loc} {ls : Array Slot} {Q : State → Prop} {i : Int32} {z : Int} (ez : i.toInt = z) (h0z : 0 ≤ z) (hzL : z + 6 ≤ L) (hC : Conf X Γ H) (hS : va_S (AΓ Γ) s.heap H locs) (hMI : MI X H m1 ca) (hMR : mkI X H x1 = mmI X H m1) (hFR : flI X H ra = tpdI X H m1) (hSH : SHP X Γ H x1 ta td nd) (hTR : TRl X td tm ts H) (hNR : NRl X td nd na H) (hMO : sR H x1 (X.1.2 10 13) = some mo) (hWK : sR H m1 (X.1.2 11 29) = some wk) (hWR : WRl X H mo m1 wk) (hl : lv_has ls 4 [(3, .int i), (2, .ref m1), (1, .ref x1), (0, .ref b)]) (hk : ∀ (H1 : Heap) (locs1 : List Loc), Conf X Γ H1 → va_S (AΓ Γ) s.heap H1 locs1 → MI X H1 m1 ca → mkI X H1 x1 = mmI X H1 m1 → flI X H1 ra = tpdI X H1 m1 → SHP X Γ H1 x1 ta td nd → TRl X td tm ts H1 → NRl X td nd na H1 → sR H1 x1 (X.1.2 10 13) = some mo → sR H1 m1 (X.1.2 11 29) = some wk → WRl X H1 mo m1 wk → W p l e room_1 s m #[Value.ref b] below meth c H1 locs1 147 13128 Q (F0 m 1667 ls [])) : W p l e room_1 s m #[Value.ref b] below meth c H locs 147 13128 Q (F0 m 1585 ls []) := by
  have E := K.E; have hx := E.1; have hb := E.2.1; have hLl := K.hL
  refine lv_aload_n hx hb dL_law_1585 rfl (lv_at hl 2 rfl) ?_
  refine lv_aload_n hx hb dL_law_1586 rfl (lv_at hl 3 rfl) ?_
  refine lv_iload_n hx hb dL_law_1587 rfl (lv_at hl 0 rfl) ?_
  refine lv_iconst (v := 1) hx hb dL_law_1588 rfl ?_
  refine lv_iadd hx hb dL_law_1589 (lv_topi (fun v21 e21 => ?_))
  have e21i : v21.toInt = z + 1 := i_add e21 ez (by decide) (by omega) (by omega)
  refine va_sld hx hb K.hX K.hbl K.hbA hS (i_in e21i (by omega) (by omega)) dL_law_1590 ?_
  refine r_goI (r_runV (As := [.int (xs v21.toNatClampNeg)]) (rest := []) E hC hS (m_X11_ran l X Γ H hC x1 K.g1 (xs v21.toNatClampNeg) (a1 := ((xs v21.toNatClampNeg) : Int32).toInt) rfl) lcw_X11_ran lcl_200 K.g1 ⟨rfl, rfl⟩ rfl hl.1 rfl (Nat.zero_le _) (by decide) (by decide) (by decide) (by decide) dL_law_1591) hS (fun v22 H22 locs22 hp hC22 hS22 => ?_)
  obtain ⟨hp1, hp2a⟩ := hp
  have hMI : MI X H22 m1 ca := hMI.cl hC K.gca K.g2 hp1 rfl
  have hMR : mkI X H22 x1 = mmI X H22 m1 := (mk_kp hp1 K.g1 rfl).trans (hMR.trans (mm_kp hp1 K.g2 rfl).symm)
  have hFR : flI X H22 ra = tpdI X H22 m1 := (fl_kp hp1 K.gra rfl).trans (hFR.trans (tpd_kp hp1 K.g2 rfl).symm)
  have hSd := hSH; have hSH : SHP X Γ H22 x1 ta td nd := hSH.kp K.g1 hp1 rfl
  have hTr0 := hTR; have hNr0 := hNR; have hTm : TMm tm ts H H22 := TMm.kp0 hp1 K.gtm K.gts rfl; have hNm : NSm (nM na H) (nM na H22) := nM_kp0 hp1 K.gna rfl
  have hTc : TSm X td H H22 := TSm.kp TSm.rf hp1 hSH rfl; have hTR := hTR.same hTc hTm
  have hNc : NSm (nC nd H) (nC nd H22) := nC_kp NSm.rf hp1 hSH rfl; have hNR := hNR.same hTc hNc hNm
  have hpa := hp2a; have hCA := hC
  have hMO := (kp_R hp1 K.g1 (ci := 10) (k := 13) rfl (by decide) rfl).trans hMO; have hWK := (kp_R hp1 K.g2 (ci := 11) (k := 29) rfl (by decide) rfl).trans hWK
  have hWR0 := hWR; have hMm : MmK X H H22 m1 wk := MmK.kp0 hp1 K.g2 K.gwk rfl
  have hMc : MoK X H H22 mo := MoK.kp MoK.rf hp1 K.gmo rfl; have hWR := hWR.same hMc hMm
  have hC := hC22; have hS := hS22
  refine lv_pop hx hb dL_law_1594 rfl ?_
  refine lv_aload_n hx hb dL_law_1595 rfl (lv_at hl 1 rfl) ?_
  refine lv_aload_n hx hb dL_law_1596 rfl (lv_at hl 3 rfl) ?_
  refine lv_iload_n hx hb dL_law_1597 rfl (lv_at hl 0 rfl) ?_
  refine lv_iconst (v := 1) hx hb dL_law_1598 rfl ?_
  refine lv_iadd hx hb dL_law_1599 (lv_topi (fun v23 e23 => ?_))
  have e23i : v23.toInt = z + 1 := i_add e23 ez (by decide) (by omega) (by omega)
  have hq23 : v23 = v21 := e23.trans e21.symm
  refine va_sld hx hb K.hX K.hbl K.hbA hS (i_in e23i (by omega) (by omega)) dL_law_1600 ?_
  rw [hq23]
  refine r_goI (r_runV (As := [.int (xs v21.toNatClampNeg)]) (rest := []) E hC hS (m_X12_ran l X Γ H22 hC m1 K.g2 (xs v21.toNatClampNeg) (a1 := ((xs v21.toNatClampNeg) : Int32).toInt) rfl ca K.gca K.uc) lcw_X12_ran lcl_203 K.g2 ⟨rfl, rfl⟩ rfl hl.1 rfl (Nat.zero_le _) (by decide) (by decide) (by decide) (by decide) dL_law_1601) hS (fun v24 H24 locs24 hp hC24 hS24 => ?_)
  obtain ⟨hp1, hp2b⟩ := hp
  have hMI : MI X H24 m1 ca := hMI.kp hC K.gca K.g2 hp1 rfl rfl rfl
  have hMR : mkI X H24 x1 = mmI X H24 m1 := (mk_kp hp1 K.g1 rfl).trans (hMR.trans (mm_kp hp1 K.g2 rfl).symm)
  have hFR : flI X H24 ra = tpdI X H24 m1 := (fl_kp hp1 K.gra rfl).trans (hFR.trans (tpd_kp hp1 K.g2 rfl).symm)
  have hSd := hSH; have hSH : SHP X Γ H24 x1 ta td nd := hSH.kpM K.g1 hp1 rfl
  have hTc2 : TSm X td H22 H24 := TSm.kp1 hp1 hSH rfl; have hNc2 : NSm (nC nd H22) (nC nd H24) := nC_kp1 hp1 hSH rfl
  have hTrm := hTR; have hTm2 : TMm tm ts H22 H24 := TMm.kp TMm.rf hp1 K.gtm K.gts rfl; have hTR := hTR.same hTc2 hTm2
  have hpb := hp2b
  have hNm2 : NSm (nM na H22) (nM na H24) := nM_kp NSm.rf hp1 K.gna rfl; have hNrm := hNR; have hNR := hNR.same hTc2 hNc2 hNm2
  have hMO := (kp_R hp1 K.g1 (ci := 10) (k := 13) rfl (by decide) rfl).trans hMO; have hWK := (kp_R hp1 K.g2 (ci := 11) (k := 29) rfl (by decide) rfl).trans hWK
  have hMc2 : MoK X H22 H24 mo := MoK.kp1 hp1 K.gmo rfl
  have hWRm := hWR; have hWR := hWR.same hMc2 (MmK.kp MmK.rf hp1 K.g2 K.gwk rfl)
  have hC := hC24; have hS := hS24
  refine lv_pop hx hb dL_law_1604 rfl ?_
  refine lv_goto (tgt := 1667) hx hb dL_law_1605 rfl ?_
  exact hk _ _ hC hS hMI hMR hFR hSH hTR hNR hMO hWK hWR
set_option maxRecDepth 100000 in
set_option maxHeartbeats 4000000 in
theorem law_44 (l : Launch) {p : Program} {e : Env} {s : State} {m : MethodId} {below : List Frame} {meth : Method} {c : Code} {X : xW} {Γ : Nat → Option Nat} {b L : Nat} {xs : Nat → Int32} {x1 m1 ca ka oa ra ta tm ts na mo wk : Nat} {td nd : Nat → Nat} (K : LK p s m meth c X Γ b L xs x1 m1 ca ka oa ra tm ts na mo wk) {H : Heap} {locs : List Loc} {ls : Array Slot} {Q : State → Prop} {i : Int32} {z : Int} (ez : i.toInt = z) (h0z : 0 ≤ z) (hzL : z + 6 ≤ L) (hC : Conf X Γ H) (hS : va_S (AΓ Γ) s.heap H locs) (hMI : MI X H m1 ca) (hMR : mkI X H x1 = mmI X H m1) (hFR : flI X H ra = tpdI X H m1) (hSH : SHP X Γ H x1 ta td nd) (hTR : TRl X td tm ts H) (hNR : NRl X td nd na H) (hMO : sR H x1 (X.1.2 10 13) = some mo) (hWK : sR H m1 (X.1.2 11 29) = some wk) (hWR : WRl X H mo m1 wk) (hl : lv_has ls 4 [(3, .int i), (2, .ref m1), (1, .ref x1), (0, .ref b)]) (hk : ∀ (H1 : Heap) (locs1 : List Loc), Conf X Γ H1 → va_S (AΓ Γ) s.heap H1 locs1 → MI X H1 m1 ca → mkI X H1 x1 = mmI X H1 m1 → flI X H1 ra = tpdI X H1 m1 → SHP X Γ H1 x1 ta td nd → TRl X td tm ts H1 → NRl X td nd na H1 → sR H1 x1 (X.1.2 10 13) = some mo → sR H1 m1 (X.1.2 11 29) = some wk → WRl X H1 mo m1 wk → W p l e room_1 s m #[Value.ref b] below meth c H1 locs1 147 13128 Q (F0 m 1667 ls [])) : W p l e room_1 s m #[Value.ref b] below meth c H locs 147 13128 Q (F0 m 1608 ls []) := by
  have E := K.E; have hx := E.1; have hb := E.2.1; have hLl := K.hL
  refine lv_aload_n hx hb dL_law_1608 rfl (lv_at hl 2 rfl) ?_
  refine lv_aload_n hx hb dL_law_1609 rfl (lv_at hl 3 rfl) ?_
  refine lv_iload_n hx hb dL_law_1610 rfl (lv_at hl 0 rfl) ?_
  refine lv_iconst (v := 1) hx hb dL_law_1611 rfl ?_
  refine lv_iadd hx hb dL_law_1612 (lv_topi (fun v21 e21 => ?_))
  have e21i : v21.toInt = z + 1 := i_add e21 ez (by decide) (by omega) (by omega)
  refine va_sld hx hb K.hX K.hbl K.hbA hS (i_in e21i (by omega) (by omega)) dL_law_1613 ?_
  refine lv_aload_n hx hb dL_law_1614 rfl (lv_at hl 3 rfl) ?_
  refine lv_iload_n hx hb dL_law_1615 rfl (lv_at hl 0 rfl) ?_
  refine lv_iconst (v := 2) hx hb dL_law_1616 rfl ?_
  refine lv_iadd hx hb dL_law_1617 (lv_topi (fun v22 e22 => ?_))
  have e22i : v22.toInt = z + 2 := i_add e22 ez (by decide) (by omega) (by omega)
  refine va_sld hx hb K.hX K.hbl K.hbA hS (i_in e22i (by omega) (by omega)) dL_law_1618 ?_
  refine r_goI (r_runV (As := [.int (xs v21.toNatClampNeg), .int (xs v22.toNatClampNeg)]) (rest := []) E hC hS (m_X11_peaces l X Γ H hC x1 K.g1 (xs v21.toNatClampNeg) (a1 := ((xs v21.toNatClampNeg) : Int32).toInt) rfl (xs v22.toNatClampNeg) (a2 := ((xs v22.toNatClampNeg) : Int32).toInt) rfl) lcw_X11_peaces lcl_204 K.g1 ⟨rfl, rfl⟩ rfl hl.1 rfl (Nat.zero_le _) (by decide) (by decide) (by decide) (by decide) dL_law_1619) hS (fun v23 H23 locs23 hp hC23 hS23 => ?_)
  obtain ⟨hp1, hp2a⟩ := hp
  have hMI : MI X H23 m1 ca := hMI.cl hC K.gca K.g2 hp1 rfl
  have hMR : mkI X H23 x1 = mmI X H23 m1 := (mk_kp hp1 K.g1 rfl).trans (hMR.trans (mm_kp hp1 K.g2 rfl).symm)
  have hFR : flI X H23 ra = tpdI X H23 m1 := (fl_kp hp1 K.gra rfl).trans (hFR.trans (tpd_kp hp1 K.g2 rfl).symm)
  have hSd := hSH; have hSH : SHP X Γ H23 x1 ta td nd := hSH.kp K.g1 hp1 rfl
  have hTr0 := hTR; have hNr0 := hNR; have hTm : TMm tm ts H H23 := TMm.kp0 hp1 K.gtm K.gts rfl; have hNm : NSm (nM na H) (nM na H23) := nM_kp0 hp1 K.gna rfl
  have hTc : TSm X td H H23 := TSm.kp TSm.rf hp1 hSH rfl; have hTR := hTR.same hTc hTm
  have hNc : NSm (nC nd H) (nC nd H23) := nC_kp NSm.rf hp1 hSH rfl; have hNR := hNR.same hTc hNc hNm
  have hpa := hp2a; have hCA := hC
  have hMO := (kp_R hp1 K.g1 (ci := 10) (k := 13) rfl (by decide) rfl).trans hMO; have hWK := (kp_R hp1 K.g2 (ci := 11) (k := 29) rfl (by decide) rfl).trans hWK
  have hWR0 := hWR; have hMm : MmK X H H23 m1 wk := MmK.kp0 hp1 K.g2 K.gwk rfl
  have hMc : MoK X H H23 mo := MoK.kp MoK.rf hp1 K.gmo rfl; have hWR := hWR.same hMc hMm
  have hC := hC23; have hS := hS23
  refine lv_pop hx hb dL_law_1622 rfl ?_
  refine lv_aload_n hx hb dL_law_1623 rfl (lv_at hl 1 rfl) ?_
  refine lv_aload_n hx hb dL_law_1624 rfl (lv_at hl 3 rfl) ?_
  refine lv_iload_n hx hb dL_law_1625 rfl (lv_at hl 0 rfl) ?_
  refine lv_iconst (v := 1) hx hb dL_law_1626 rfl ?_
  refine lv_iadd hx hb dL_law_1627 (lv_topi (fun v24 e24 => ?_))
  have e24i : v24.toInt = z + 1 := i_add e24 ez (by decide) (by omega) (by omega)
  have hq24 : v24 = v21 := e24.trans e21.symm
  refine va_sld hx hb K.hX K.hbl K.hbA hS (i_in e24i (by omega) (by omega)) dL_law_1628 ?_
  rw [hq24]
  refine lv_aload_n hx hb dL_law_1629 rfl (lv_at hl 3 rfl) ?_
  refine lv_iload_n hx hb dL_law_1630 rfl (lv_at hl 0 rfl) ?_
  refine lv_iconst (v := 2) hx hb dL_law_1631 rfl ?_
  refine lv_iadd hx hb dL_law_1632 (lv_topi (fun v25 e25 => ?_))
  have e25i : v25.toInt = z + 2 := i_add e25 ez (by decide) (by omega) (by omega)
  have hq25 : v25 = v22 := e25.trans e22.symm
  refine va_sld hx hb K.hX K.hbl K.hbA hS (i_in e25i (by omega) (by omega)) dL_law_1633 ?_
  rw [hq25]
  refine r_goI (r_runV (As := [.int (xs v21.toNatClampNeg), .int (xs v22.toNatClampNeg)]) (rest := []) E hC hS (m_X12_peaces l X Γ H23 hC m1 K.g2 (xs v21.toNatClampNeg) (a1 := ((xs v21.toNatClampNeg) : Int32).toInt) rfl (xs v22.toNatClampNeg) (a2 := ((xs v22.toNatClampNeg) : Int32).toInt) rfl ca K.gca K.uc oa K.goa K.uo ka K.gka K.uk hMI.c0.2.2.2 hMI.c0.2.2.1) lcw_X12_peaces lcl_207 K.g2 ⟨rfl, rfl⟩ rfl hl.1 rfl (Nat.zero_le _) (by decide) (by decide) (by decide) (by decide) dL_law_1634) hS (fun v26 H26 locs26 hp hC26 hS26 => ?_)
  obtain ⟨hp1, hp2b⟩ := hp
  have hMI : MI X H26 m1 ca := hMI.kd hC K.gca hp2b (mm_kp hp1 K.g2 rfl)
  have hMR : mkI X H26 x1 = mmI X H26 m1 := (mk_kp hp1 K.g1 rfl).trans (hMR.trans (mm_kp hp1 K.g2 rfl).symm)
  have hFR : flI X H26 ra = tpdI X H26 m1 := (fl_kp hp1 K.gra rfl).trans (hFR.trans (tpd_kp hp1 K.g2 rfl).symm)
  have hSd := hSH; have hSH : SHP X Γ H26 x1 ta td nd := hSH.kpM K.g1 hp1 rfl
  have hTc2 : TSm X td H23 H26 := TSm.kp1 hp1 hSH rfl; have hNc2 : NSm (nC nd H23) (nC nd H26) := nC_kp1 hp1 hSH rfl
  have hTrm := hTR; have hTm2 : TMm tm ts H23 H26 := TMm.kp TMm.rf hp1 K.gtm K.gts rfl; have hTR := hTR.same hTc2 hTm2
  have hpb := hp2b
  have hNm2 : NSm (nM na H23) (nM na H26) := nM_kp NSm.rf hp1 K.gna rfl; have hNrm := hNR; have hNR := hNR.same hTc2 hNc2 hNm2
  have hMO := (kp_R hp1 K.g1 (ci := 10) (k := 13) rfl (by decide) rfl).trans hMO; have hWK := (kp_R hp1 K.g2 (ci := 11) (k := 29) rfl (by decide) rfl).trans hWK
  have hMc2 : MoK X H23 H26 mo := MoK.kp1 hp1 K.gmo rfl
  have hWRm := hWR; have hWR := hWR.same hMc2 (MmK.kp MmK.rf hp1 K.g2 K.gwk rfl)
  have hC := hC26; have hS := hS26
  refine lv_pop hx hb dL_law_1637 rfl ?_
  refine lv_goto (tgt := 1667) hx hb dL_law_1638 rfl ?_
  exact hk _ _ hC hS hMI hMR hFR hSH hTR hNR hMO hWK hWR
set_option maxRecDepth 100000 in
set_option maxHeartbeats 4000000 in
theorem law_45 (l : Launch) {p : Program} {e : Env} {s : State} {m : MethodId} {below : List Frame} {meth : Method} {c : Code} {X : xW} {Γ : Nat → Option Nat} {b L : Nat} {xs : Nat → Int32} {x1 m1 ca ka oa ra ta tm ts na mo wk : Nat} {td nd : Nat → Nat} (K : LK p s m meth c X Γ b L xs x1 m1 ca ka oa ra tm ts na mo wk) {H : Heap} {locs : List Loc} {ls : Array Slot} {Q : State → Prop} {i : Int32} {z : Int} (ez : i.toInt = z) (h0z : 0 ≤ z) (hzL : z + 6 ≤ L) (hC : Conf X Γ H) (hS : va_S (AΓ Γ) s.heap H locs) (hMI : MI X H m1 ca) (hMR : mkI X H x1 = mmI X H m1) (hFR : flI X H ra = tpdI X H m1) (hSH : SHP X Γ H x1 ta td nd) (hTR : TRl X td tm ts H) (hNR : NRl X td nd na H) (hMO : sR H x1 (X.1.2 10 13) = some mo) (hWK : sR H m1 (X.1.2 11 29) = some wk) (hWR : WRl X H mo m1 wk) (hl : lv_has ls 4 [(3, .int i), (2, .ref m1), (1, .ref x1), (0, .ref b)]) (hk : ∀ (H1 : Heap) (locs1 : List Loc), Conf X Γ H1 → va_S (AΓ Γ) s.heap H1 locs1 → MI X H1 m1 ca → mkI X H1 x1 = mmI X H1 m1 → flI X H1 ra = tpdI X H1 m1 → SHP X Γ H1 x1 ta td nd → TRl X td tm ts H1 → NRl X td nd na H1 → sR H1 x1 (X.1.2 10 13) = some mo → sR H1 m1 (X.1.2 11 29) = some wk → WRl X H1 mo m1 wk → W p l e room_1 s m #[Value.ref b] below meth c H1 locs1 147 13128 Q (F0 m 1667 ls [])) : W p l e room_1 s m #[Value.ref b] below meth c H locs 147 13128 Q (F0 m 1641 ls []) := by
  have E := K.E; have hx := E.1; have hb := E.2.1; have hLl := K.hL
  refine lv_aload_n hx hb dL_law_1641 rfl (lv_at hl 2 rfl) ?_
  refine r_goI (r_runV (As := []) (rest := []) E hC hS (m_X11_mark l X Γ H hC x1 K.g1) lcw_X11_mark lcl_208 K.g1 ⟨rfl, rfl⟩ rfl hl.1 rfl (Nat.zero_le _) (by decide) (by decide) (by decide) (by decide) dL_law_1642) hS (fun v21 H21 locs21 hp hC21 hS21 => ?_)
  obtain ⟨hp1, hp2a⟩ := hp
  have hMI : MI X H21 m1 ca := hMI.cl hC K.gca K.g2 hp1 rfl
  have hR0 := hMR; have hA1 := mm_kp hp1 K.g2 rfl
  have hFR : flI X H21 ra = tpdI X H21 m1 := (fl_kp hp1 K.gra rfl).trans (hFR.trans (tpd_kp hp1 K.g2 rfl).symm)
  have hSd := hSH; have hSH : SHP X Γ H21 x1 ta td nd := hSH.kp K.g1 hp1 rfl
  have hTr0 := hTR; have hNr0 := hNR; have hTm : TMm tm ts H H21 := TMm.kp0 hp1 K.gtm K.gts rfl; have hNm : NSm (nM na H) (nM na H21) := nM_kp0 hp1 K.gna rfl
  have hTc : TSm X td H H21 := TSm.kp TSm.rf hp1 hSH rfl; have hTR := hTR.same hTc hTm
  have hNc : NSm (nC nd H) (nC nd H21) := nC_kp NSm.rf hp1 hSH rfl; have hNR := hNR.same hTc hNc hNm
  have hpa := hp2a; have hCA := hC
  have hMO := (kp_R hp1 K.g1 (ci := 10) (k := 13) rfl (by decide) rfl).trans hMO; have hWK := (kp_R hp1 K.g2 (ci := 11) (k := 29) rfl (by decide) rfl).trans hWK
  have hWR0 := hWR; have hMm : MmK X H H21 m1 wk := MmK.kp0 hp1 K.g2 K.gwk rfl
  have hMc : MoK X H H21 mo := MoK.kp MoK.rf hp1 K.gmo rfl; have hWR := hWR.same hMc hMm
  have hC := hC21; have hS := hS21
  refine lv_pop hx hb dL_law_1645 rfl ?_
  refine lv_aload_n hx hb dL_law_1646 rfl (lv_at hl 1 rfl) ?_
  refine r_goI (r_runV (As := []) (rest := []) E hC hS (m_X12_mark l X Γ H21 hC m1 K.g2 ca K.gca K.uc) lcw_X12_mark lcl_211 K.g2 ⟨rfl, rfl⟩ rfl hl.1 rfl (Nat.zero_le _) (by decide) (by decide) (by decide) (by decide) dL_law_1647) hS (fun v22 H22 locs22 hp hC22 hS22 => ?_)
  obtain ⟨hp1, hp2b⟩ := hp
  have hMI : MI X H22 m1 ca := hMI.mark hC hC22 K.gca K.g2 hp2b.1
  have hA2 := mk_kp hp1 K.g1 rfl; have hp2c := hp2b.2
  have hMR : mkI X H22 x1 = mmI X H22 m1 := by simp only [mkI, mmI] at hR0 hA1 hA2 ⊢; omega
  have hFR : flI X H22 ra = tpdI X H22 m1 := (fl_kp hp1 K.gra rfl).trans (hFR.trans (tpd_kp hp1 K.g2 rfl).symm)
  have hSd := hSH; have hSH : SHP X Γ H22 x1 ta td nd := hSH.kpM K.g1 hp1 rfl
  have hTc2 : TSm X td H21 H22 := TSm.kp1 hp1 hSH rfl; have hNc2 : NSm (nC nd H21) (nC nd H22) := nC_kp1 hp1 hSH rfl
  have hTrm := hTR; have hTm2 : TMm tm ts H21 H22 := TMm.kp TMm.rf hp1 K.gtm K.gts rfl; have hTR := hTR.same hTc2 hTm2
  have hpb := hp2b
  have hNm2 : NSm (nM na H21) (nM na H22) := nM_kp NSm.rf hp1 K.gna rfl; have hNrm := hNR; have hNR := hNR.same hTc2 hNc2 hNm2
  have hMO := (kp_R hp1 K.g1 (ci := 10) (k := 13) rfl (by decide) rfl).trans hMO; have hWK := (kp_R hp1 K.g2 (ci := 11) (k := 29) rfl (by decide) rfl).trans hWK
  have hMc2 : MoK X H21 H22 mo := MoK.kp1 hp1 K.gmo rfl
  have hWRm := hWR; have hWR := hWR.same hMc2 (MmK.kp MmK.rf hp1 K.g2 K.gwk rfl)
  have hC := hC22; have hS := hS22
  refine lv_pop hx hb dL_law_1650 rfl ?_
  refine lv_goto (tgt := 1667) hx hb dL_law_1651 rfl ?_
  exact hk _ _ hC hS hMI hMR hFR hSH hTR hNR hMO hWK hWR
set_option maxRecDepth 100000 in
set_option maxHeartbeats 4000000 in
theorem law_46 (l : Launch) {p : Program} {e : Env} {s : State} {m : MethodId} {below : List Frame} {meth : Method} {c : Code} {X : xW} {Γ : Nat → Option Nat} {b L : Nat} {xs : Nat → Int32} {x1 m1 ca ka oa ra ta tm ts na mo wk : Nat} {td nd : Nat → Nat} (K : LK p s m meth c X Γ b L xs x1 m1 ca ka oa ra tm ts na mo wk) {H : Heap} {locs : List Loc} {ls : Array Slot} {Q : State → Prop} {i : Int32} {z : Int} (ez : i.toInt = z) (h0z : 0 ≤ z) (hzL : z + 6 ≤ L) (hC : Conf X Γ H) (hS : va_S (AΓ Γ) s.heap H locs) (hMI : MI X H m1 ca) (hMR : mkI X H x1 = mmI X H m1) (hFR : flI X H ra = tpdI X H m1) (hSH : SHP X Γ H x1 ta td nd) (hTR : TRl X td tm ts H) (hNR : NRl X td nd na H) (hMO : sR H x1 (X.1.2 10 13) = some mo) (hWK : sR H m1 (X.1.2 11 29) = some wk) (hWR : WRl X H mo m1 wk) (hl : lv_has ls 4 [(3, .int i), (2, .ref m1), (1, .ref x1), (0, .ref b)]) (hk : ∀ (H1 : Heap) (locs1 : List Loc), Conf X Γ H1 → va_S (AΓ Γ) s.heap H1 locs1 → MI X H1 m1 ca → mkI X H1 x1 = mmI X H1 m1 → flI X H1 ra = tpdI X H1 m1 → SHP X Γ H1 x1 ta td nd → TRl X td tm ts H1 → NRl X td nd na H1 → sR H1 x1 (X.1.2 10 13) = some mo → sR H1 m1 (X.1.2 11 29) = some wk → WRl X H1 mo m1 wk → W p l e room_1 s m #[Value.ref b] below meth c H1 locs1 147 13128 Q (F0 m 1667 ls [])) : W p l e room_1 s m #[Value.ref b] below meth c H locs 147 13128 Q (F0 m 1654 ls []) := by
  have E := K.E; have hx := E.1; have hb := E.2.1; have hLl := K.hL
  refine lv_aload_n hx hb dL_law_1654 rfl (lv_at hl 2 rfl) ?_
  refine r_goI (r_runV (As := []) (rest := []) E hC hS (m_X11_back l X Γ H hC x1 K.g1) lcw_X11_back lcl_212 K.g1 ⟨rfl, rfl⟩ rfl hl.1 rfl (Nat.zero_le _) (by decide) (by decide) (by decide) (by decide) dL_law_1655) hS (fun v21 H21 locs21 hp hC21 hS21 => ?_)
  obtain ⟨hp1, hp2a⟩ := hp
  have hMI : MI X H21 m1 ca := hMI.cl hC K.gca K.g2 hp1 rfl
  have hR0 := hMR; have hA1 := mm_kp hp1 K.g2 rfl
  have hFR : flI X H21 ra = tpdI X H21 m1 := (fl_kp hp1 K.gra rfl).trans (hFR.trans (tpd_kp hp1 K.g2 rfl).symm)
  have hSd := hSH; have hSH : SHP X Γ H21 x1 ta td nd := hSH.kp K.g1 hp1 rfl
  have hTr0 := hTR; have hNr0 := hNR; have hTm : TMm tm ts H H21 := TMm.kp0 hp1 K.gtm K.gts rfl; have hNm : NSm (nM na H) (nM na H21) := nM_kp0 hp1 K.gna rfl
  have hTc : TSm X td H H21 := TSm.kp TSm.rf hp1 hSH rfl; have hTR := hTR.same hTc hTm
  have hNc : NSm (nC nd H) (nC nd H21) := nC_kp NSm.rf hp1 hSH rfl; have hNR := hNR.same hTc hNc hNm
  have hpa := hp2a; have hCA := hC
  have hMO := (kp_R hp1 K.g1 (ci := 10) (k := 13) rfl (by decide) rfl).trans hMO; have hWK := (kp_R hp1 K.g2 (ci := 11) (k := 29) rfl (by decide) rfl).trans hWK
  have hWR0 := hWR; have hMm : MmK X H H21 m1 wk := MmK.kp0 hp1 K.g2 K.gwk rfl
  have hMc : MoK X H H21 mo := MoK.kp MoK.rf hp1 K.gmo rfl; have hWR := hWR.same hMc hMm
  have hC := hC21; have hS := hS21
  refine lv_pop hx hb dL_law_1658 rfl ?_
  refine lv_aload_n hx hb dL_law_1659 rfl (lv_at hl 1 rfl) ?_
  refine r_goI (r_runV (As := []) (rest := []) E hC hS (m_X12_back l X Γ H21 hC m1 K.g2 ca K.gca K.uc) lcw_X12_back lcl_215 K.g2 ⟨rfl, rfl⟩ rfl hl.1 rfl (Nat.zero_le _) (by decide) (by decide) (by decide) (by decide) dL_law_1660) hS (fun v22 H22 locs22 hp hC22 hS22 => ?_)
  obtain ⟨hp1, hp2b⟩ := hp
  have hMI : MI X H22 m1 ca := hMI.back hC hC22 K.gca K.g2 hp2b.1
  have hA2 := mk_kp hp1 K.g1 rfl; have hp2c := hp2b.2
  have hMR : mkI X H22 x1 = mmI X H22 m1 := by simp only [mkI, mmI] at hR0 hA1 hA2 ⊢; omega
  have hFR : flI X H22 ra = tpdI X H22 m1 := (fl_kp hp1 K.gra rfl).trans (hFR.trans (tpd_kp hp1 K.g2 rfl).symm)
  have hSd := hSH; have hSH : SHP X Γ H22 x1 ta td nd := hSH.kpM K.g1 hp1 rfl
  have hTc2 : TSm X td H21 H22 := TSm.kp1 hp1 hSH rfl; have hNc2 : NSm (nC nd H21) (nC nd H22) := nC_kp1 hp1 hSH rfl
  have hTrm := hTR; have hTm2 : TMm tm ts H21 H22 := TMm.kp TMm.rf hp1 K.gtm K.gts rfl; have hTR := hTR.same hTc2 hTm2
  have hpb := hp2b
  have hNm2 : NSm (nM na H21) (nM na H22) := nM_kp NSm.rf hp1 K.gna rfl; have hNrm := hNR; have hNR := hNR.same hTc2 hNc2 hNm2
  have hMO := (kp_R hp1 K.g1 (ci := 10) (k := 13) rfl (by decide) rfl).trans hMO; have hWK := (kp_R hp1 K.g2 (ci := 11) (k := 29) rfl (by decide) rfl).trans hWK
  have hMc2 : MoK X H21 H22 mo := MoK.kp1 hp1 K.gmo rfl
  have hWRm := hWR; have hWR := hWR.same hMc2 (MmK.kp MmK.rf hp1 K.g2 K.gwk rfl)
  have hC := hC22; have hS := hS22
  refine lv_pop hx hb dL_law_1663 rfl ?_
  refine lv_goto (tgt := 1667) hx hb dL_law_1664 rfl ?_
  exact hk _ _ hC hS hMI hMR hFR hSH hTR hNR hMO hWK hWR
