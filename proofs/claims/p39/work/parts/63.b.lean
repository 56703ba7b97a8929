set_option maxRecDepth 100000 in
set_option maxHeartbeats 4000000 in
theorem law_16 (l : Launch) {p : Program} {e : Env} {s : State} {m : MethodId} {below : List Frame} {meth : Method} {c : Code} {X : xW} {Γ : Nat → Option Nat} {b L : Nat} {xs : Nat → Int32} {x1 m1 ca ka oa ra ta tm ts na mo wk : Nat} {td nd : Nat → Nat} (K : LK p s m meth c X Γ b L xs x1 m1 ca ka oa ra tm ts na mo wk) {H : Heap} {locs : List Loc} {ls : Array Slot} {Q : State → Prop} {i : Int32} {z : Int} (ez : i.toInt = z) (h0z : 0 ≤ z) (hzL : z + 6 ≤ L) (hC : Conf X Γ H) (hS : va_S (AΓ Γ) s.heap H locs) (hMI : MI X H m1 ca) (hMR : mkI X H x1 = mmI X H m1) (hFR : flI X H ra = tpdI X H m1) (hSH : SHP X Γ H x1 ta td nd) (hTR : TRl X td tm ts H) (hNR : NRl X td nd na H) (hMO : sR H x1 (X.1.2 10 13) = some mo) (hWK : sR H m1 (X.1.2 11 29) = some wk) (hWR : WRl X H mo m1 wk) (hl : lv_has ls 4 [(3, .int i), (2, .ref m1), (1, .ref x1), (0, .ref b)]) (hk : ∀ (H1 : Heap) (locs1 : List Loc), Conf X Γ H1 → va_S (AΓ Γ) s.heap H1 locs1 → MI X H1 m1 ca → mkI X H1 x1 = mmI X H1 m1 → flI X H1 ra = tpdI X H1 m1 → SHP X Γ H1 x1 ta td nd → TRl X td tm ts H1 → NRl X td nd na H1 → sR H1 x1 (X.1.2 10 13) = some mo → sR H1 m1 (X.1.2 11 29) = some wk → WRl X H1 mo m1 wk → W p l e room_1 s m #[Value.ref b] below meth c H1 locs1 147 13128 Q (F0 m 1667 ls [])) : W p l e room_1 s m #[Value.ref b] below meth c H locs 147 13128 Q (F0 m 764 ls []) := by
  have E := K.E; have hx := E.1; have hb := E.2.1; have hLl := K.hL
  refine lv_aload_n hx hb dL_law_764 rfl (lv_at hl 2 rfl) ?_
  refine lv_aload_n hx hb dL_law_765 rfl (lv_at hl 3 rfl) ?_
  refine lv_iload_n hx hb dL_law_766 rfl (lv_at hl 0 rfl) ?_
  refine lv_iconst (v := 1) hx hb dL_law_767 rfl ?_
  refine lv_iadd hx hb dL_law_768 (lv_topi (fun v21 e21 => ?_))
  have e21i : v21.toInt = z + 1 := i_add e21 ez (by decide) (by omega) (by omega)
  refine va_sld hx hb K.hX K.hbl K.hbA hS (i_in e21i (by omega) (by omega)) dL_law_769 ?_
  refine r_goI (r_runV (As := [.int (xs v21.toNatClampNeg)]) (rest := []) E hC hS (m_X11_fall l X Γ H hC x1 K.g1 (xs v21.toNatClampNeg) (a1 := ((xs v21.toNatClampNeg) : Int32).toInt) rfl) lcw_X11_fall lcl_89 K.g1 ⟨rfl, rfl⟩ rfl hl.1 rfl (Nat.zero_le _) (by decide) (by decide) (by decide) (by decide) dL_law_770) hS (fun v22 H22 locs22 hp hC22 hS22 => ?_)
  obtain ⟨hp1, hp2a⟩ := hp
  have hMI : MI X H22 m1 ca := hMI.cl hC K.gca K.g2 hp1 rfl
  have hMR : mkI X H22 x1 = mmI X H22 m1 := (mk_kp hp1 K.g1 rfl).trans (hMR.trans (mm_kp hp1 K.g2 rfl).symm)
  have hFR : flI X H22 ra = tpdI X H22 m1 := (fl_kp hp1 K.gra rfl).trans (hFR.trans (tpd_kp hp1 K.g2 rfl).symm)
  have hSd := hSH; have hSH : SHP X Γ H22 x1 ta td nd := hSH.kp K.g1 hp1 rfl
  have hTr0 := hTR; have hNr0 := hNR; have hTm : TMm tm ts H H22 := TMm.kp0 hp1 K.gtm K.gts rfl; have hNm : NSm (nM na H) (nM na H22) := nM_kp0 hp1 K.gna rfl
  have hTc : TSm X td H H22 := TSm.kp TSm.rf hp1 hSH rfl; have hTR := hTR.same hTc hTm
  have hNc : NSm (nC nd H) (nC nd H22) := nC_kp NSm.rf hp1 hSH rfl; have hNR := hNR.same hTc hNc hNm
  have hpa := hp2a; have hCA := hC
  have hMO := (kp_R hp1 K.g1 (ci := 10) (k := 13) rfl (by decide) rfl).trans hMO; have hWK := (kp_R hp1 K.g2 (ci := 11) (k := 29) rfl (by decide) rfl).trans hWK
  have hWR0 := hWR; have hMm : MmK X H H22 m1 wk := MmK.kp0 hp1 K.g2 K.gwk rfl
  have hMc : MoK X H H22 mo := MoK.kp MoK.rf hp1 K.gmo rfl; have hWR := hWR.same hMc hMm
  have hC := hC22; have hS := hS22
  refine lv_pop hx hb dL_law_773 rfl ?_
  refine lv_aload_n hx hb dL_law_774 rfl (lv_at hl 1 rfl) ?_
  refine lv_aload_n hx hb dL_law_775 rfl (lv_at hl 3 rfl) ?_
  refine lv_iload_n hx hb dL_law_776 rfl (lv_at hl 0 rfl) ?_
  refine lv_iconst (v := 1) hx hb dL_law_777 rfl ?_
  refine lv_iadd hx hb dL_law_778 (lv_topi (fun v23 e23 => ?_))
  have e23i : v23.toInt = z + 1 := i_add e23 ez (by decide) (by omega) (by omega)
  have hq23 : v23 = v21 := e23.trans e21.symm
  refine va_sld hx hb K.hX K.hbl K.hbA hS (i_in e23i (by omega) (by omega)) dL_law_779 ?_
  rw [hq23]
  refine r_goI (r_runV (As := [.int (xs v21.toNatClampNeg)]) (rest := []) E hC hS (m_X12_fall l X Γ H22 hC m1 K.g2 (xs v21.toNatClampNeg) (a1 := ((xs v21.toNatClampNeg) : Int32).toInt) rfl ca K.gca K.uc) lcw_X12_fall lcl_92 K.g2 ⟨rfl, rfl⟩ rfl hl.1 rfl (Nat.zero_le _) (by decide) (by decide) (by decide) (by decide) dL_law_780) hS (fun v24 H24 locs24 hp hC24 hS24 => ?_)
  obtain ⟨hp1, hp2b⟩ := hp
  have hMI : MI X H24 m1 ca := hMI.kp hC K.gca K.g2 hp1 rfl rfl rfl
  have hMR : mkI X H24 x1 = mmI X H24 m1 := (mk_kp hp1 K.g1 rfl).trans (hMR.trans (mm_kp hp1 K.g2 rfl).symm)
  have hFR : flI X H24 ra = tpdI X H24 m1 := (fl_kp hp1 K.gra rfl).trans (hFR.trans (tpd_kp hp1 K.g2 rfl).symm)
  have hSd := hSH; have hSH : SHP X Γ H24 x1 ta td nd := hSH.kpM K.g1 hp1 rfl
  have hTc2 : TSm X td H22 H24 := TSm.kp1 hp1 hSH rfl; have hNc2 : NSm (nC nd H22) (nC nd H24) := nC_kp1 hp1 hSH rfl
  have hTrm := hTR; have hTm2 : TMm tm ts H22 H24 := TMm.kp TMm.rf hp1 K.gtm K.gts rfl; have hTR := hTR.same hTc2 hTm2
  have hpb := hp2b
  have hNm2 : NSm (nM na H22) (nM na H24) := nM_kp NSm.rf hp1 K.gna rfl; have hNrm := hNR; have hNR := hNR.same hTc2 hNc2 hNm2
  have hMO := (kp_R hp1 K.g1 (ci := 10) (k := 13) rfl (by decide) rfl).trans hMO; have hWK := (kp_R hp1 K.g2 (ci := 11) (k := 29) rfl (by decide) rfl).trans hWK
  have hMc2 : MoK X H22 H24 mo := MoK.kp1 hp1 K.gmo rfl
  have hWRm := hWR; have hWR := hWR.same hMc2 (MmK.kp MmK.rf hp1 K.g2 K.gwk rfl)
  have hC := hC24; have hS := hS24
  refine lv_pop hx hb dL_law_783 rfl ?_
  refine lv_goto (tgt := 1667) hx hb dL_law_784 rfl ?_
  exact hk _ _ hC hS hMI hMR hFR hSH hTR hNR hMO hWK hWR
set_option maxRecDepth 100000 in
set_option maxHeartbeats 4000000 in
theorem law_17 (l : Launch) {p : Program} {e : Env} {s : State} {m : MethodId} {below : List Frame} {meth : Method} {c : Code} {X : xW} {Γ : Nat → Option Nat} {b L : Nat} {xs : Nat → Int32} {x1 m1 ca ka oa ra ta tm ts na mo wk : Nat} {td nd : Nat → Nat} (K : LK p s m meth c X Γ b L xs x1 m1 ca ka oa ra tm ts na mo wk) {H : Heap} {locs : List Loc} {ls : Array Slot} {Q : State → Prop} {i : Int32} {z : Int} (ez : i.toInt = z) (h0z : 0 ≤ z) (hzL : z + 6 ≤ L) (hC : Conf X Γ H) (hS : va_S (AΓ Γ) s.heap H locs) (hMI : MI X H m1 ca) (hMR : mkI X H x1 = mmI X H m1) (hFR : flI X H ra = tpdI X H m1) (hSH : SHP X Γ H x1 ta td nd) (hTR : TRl X td tm ts H) (hNR : NRl X td nd na H) (hMO : sR H x1 (X.1.2 10 13) = some mo) (hWK : sR H m1 (X.1.2 11 29) = some wk) (hWR : WRl X H mo m1 wk) (hl : lv_has ls 4 [(3, .int i), (2, .ref m1), (1, .ref x1), (0, .ref b)]) (hk : ∀ (H1 : Heap) (locs1 : List Loc), Conf X Γ H1 → va_S (AΓ Γ) s.heap H1 locs1 → MI X H1 m1 ca → mkI X H1 x1 = mmI X H1 m1 → flI X H1 ra = tpdI X H1 m1 → SHP X Γ H1 x1 ta td nd → TRl X td tm ts H1 → NRl X td nd na H1 → sR H1 x1 (X.1.2 10 13) = some mo → sR H1 m1 (X.1.2 11 29) = some wk → WRl X H1 mo m1 wk → W p l e room_1 s m #[Value.ref b] below meth c H1 locs1 147 13128 Q (F0 m 1667 ls [])) : W p l e room_1 s m #[Value.ref b] below meth c H locs 147 13128 Q (F0 m 787 ls []) := by
  have E := K.E; have hx := E.1; have hb := E.2.1; have hLl := K.hL
  refine lv_aload_n hx hb dL_law_787 rfl (lv_at hl 2 rfl) ?_
  refine lv_aload_n hx hb dL_law_788 rfl (lv_at hl 3 rfl) ?_
  refine lv_iload_n hx hb dL_law_789 rfl (lv_at hl 0 rfl) ?_
  refine lv_iconst (v := 1) hx hb dL_law_790 rfl ?_
  refine lv_iadd hx hb dL_law_791 (lv_topi (fun v21 e21 => ?_))
  have e21i : v21.toInt = z + 1 := i_add e21 ez (by decide) (by omega) (by omega)
  refine va_sld hx hb K.hX K.hbl K.hbA hS (i_in e21i (by omega) (by omega)) dL_law_792 ?_
  refine r_goI (r_runV (As := [.int (xs v21.toNatClampNeg)]) (rest := []) E hC hS (m_X11_thaw l X Γ H hC x1 K.g1 (xs v21.toNatClampNeg) (a1 := ((xs v21.toNatClampNeg) : Int32).toInt) rfl) lcw_X11_thaw lcl_93 K.g1 ⟨rfl, rfl⟩ rfl hl.1 rfl (Nat.zero_le _) (by decide) (by decide) (by decide) (by decide) dL_law_793) hS (fun v22 H22 locs22 hp hC22 hS22 => ?_)
  obtain ⟨hp1, hp2a⟩ := hp
  have hMI : MI X H22 m1 ca := hMI.cl hC K.gca K.g2 hp1 rfl
  have hMR : mkI X H22 x1 = mmI X H22 m1 := (mk_kp hp1 K.g1 rfl).trans (hMR.trans (mm_kp hp1 K.g2 rfl).symm)
  have hFR : flI X H22 ra = tpdI X H22 m1 := (fl_kp hp1 K.gra rfl).trans (hFR.trans (tpd_kp hp1 K.g2 rfl).symm)
  have hSd := hSH; have hSH : SHP X Γ H22 x1 ta td nd := hSH.kp K.g1 hp1 rfl
  have hTr0 := hTR; have hNr0 := hNR; have hTm : TMm tm ts H H22 := TMm.kp0 hp1 K.gtm K.gts rfl; have hNm : NSm (nM na H) (nM na H22) := nM_kp0 hp1 K.gna rfl
  have hTc : TSm X td H H22 := TSm.kp TSm.rf hp1 hSH rfl; have hTR := hTR.same hTc hTm
  have hNc : NSm (nC nd H) (nC nd H22) := nC_kp NSm.rf hp1 hSH rfl; have hNR := hNR.same hTc hNc hNm
  have hpa := hp2a; have hCA := hC
  have hMO := (kp_R hp1 K.g1 (ci := 10) (k := 13) rfl (by decide) rfl).trans hMO; have hWK := (kp_R hp1 K.g2 (ci := 11) (k := 29) rfl (by decide) rfl).trans hWK
  have hWR0 := hWR; have hMm : MmK X H H22 m1 wk := MmK.kp0 hp1 K.g2 K.gwk rfl
  have hMc : MoK X H H22 mo := MoK.kp MoK.rf hp1 K.gmo rfl; have hWR := hWR.same hMc hMm
  have hC := hC22; have hS := hS22
  refine lv_pop hx hb dL_law_796 rfl ?_
  refine lv_aload_n hx hb dL_law_797 rfl (lv_at hl 1 rfl) ?_
  refine lv_aload_n hx hb dL_law_798 rfl (lv_at hl 3 rfl) ?_
  refine lv_iload_n hx hb dL_law_799 rfl (lv_at hl 0 rfl) ?_
  refine lv_iconst (v := 1) hx hb dL_law_800 rfl ?_
  refine lv_iadd hx hb dL_law_801 (lv_topi (fun v23 e23 => ?_))
  have e23i : v23.toInt = z + 1 := i_add e23 ez (by decide) (by omega) (by omega)
  have hq23 : v23 = v21 := e23.trans e21.symm
  refine va_sld hx hb K.hX K.hbl K.hbA hS (i_in e23i (by omega) (by omega)) dL_law_802 ?_
  rw [hq23]
  refine r_goI (r_runV (As := [.int (xs v21.toNatClampNeg)]) (rest := []) E hC hS (m_X12_thaw l X Γ H22 hC m1 K.g2 (xs v21.toNatClampNeg) (a1 := ((xs v21.toNatClampNeg) : Int32).toInt) rfl ca K.gca K.uc) lcw_X12_thaw lcl_96 K.g2 ⟨rfl, rfl⟩ rfl hl.1 rfl (Nat.zero_le _) (by decide) (by decide) (by decide) (by decide) dL_law_803) hS (fun v24 H24 locs24 hp hC24 hS24 => ?_)
  obtain ⟨hp1, hp2b⟩ := hp
  have hMI : MI X H24 m1 ca := hMI.kp hC K.gca K.g2 hp1 rfl rfl rfl
  have hMR : mkI X H24 x1 = mmI X H24 m1 := (mk_kp hp1 K.g1 rfl).trans (hMR.trans (mm_kp hp1 K.g2 rfl).symm)
  have hFR : flI X H24 ra = tpdI X H24 m1 := (fl_kp hp1 K.gra rfl).trans (hFR.trans (tpd_kp hp1 K.g2 rfl).symm)
  have hSd := hSH; have hSH : SHP X Γ H24 x1 ta td nd := hSH.kpM K.g1 hp1 rfl
  have hTc2 : TSm X td H22 H24 := TSm.kp1 hp1 hSH rfl; have hNc2 : NSm (nC nd H22) (nC nd H24) := nC_kp1 hp1 hSH rfl
  have hTrm := hTR; have hTm2 : TMm tm ts H22 H24 := TMm.kp TMm.rf hp1 K.gtm K.gts rfl; have hTR := hTR.same hTc2 hTm2
  have hpb := hp2b
  have hNm2 : NSm (nM na H22) (nM na H24) := nM_kp NSm.rf hp1 K.gna rfl; have hNrm := hNR; have hNR := hNR.same hTc2 hNc2 hNm2
  have hMO := (kp_R hp1 K.g1 (ci := 10) (k := 13) rfl (by decide) rfl).trans hMO; have hWK := (kp_R hp1 K.g2 (ci := 11) (k := 29) rfl (by decide) rfl).trans hWK
  have hMc2 : MoK X H22 H24 mo := MoK.kp1 hp1 K.gmo rfl
  have hWRm := hWR; have hWR := hWR.same hMc2 (MmK.kp MmK.rf hp1 K.g2 K.gwk rfl)
  have hC := hC24; have hS := hS24
  refine lv_pop hx hb dL_law_806 rfl ?_
  refine lv_goto (tgt := 1667) hx hb dL_law_807 rfl ?_
  exact hk _ _ hC hS hMI hMR hFR hSH hTR hNR hMO hWK hWR
set_option maxRecDepth 100000 in
set_option maxHeartbeats 4000000 in
theorem law_18 (l : Launch) {p : Program} {e : Env} {s : State} {m : MethodId} {below : List Frame} {meth : Method} {c : Code} {X : xW} {Γ : Nat → Option Nat} {b L : Nat} {xs : Nat → Int32} {x1 m1 ca ka oa ra ta tm ts na mo wk : Nat} {td nd : Nat → Nat} (K : LK p s m meth c X Γ b L xs x1 m1 ca ka oa ra tm ts na mo wk) {H : Heap} {locs : List Loc} {ls : Array Slot} {Q : State → Prop} {i : Int32} {z : Int} (ez : i.toInt = z) (h0z : 0 ≤ z) (hzL : z + 6 ≤ L) (hC : Conf X Γ H) (hS : va_S (AΓ Γ) s.heap H locs) (hMI : MI X H m1 ca) (hMR : mkI X H x1 = mmI X H m1) (hFR : flI X H ra = tpdI X H m1) (hSH : SHP X Γ H x1 ta td nd) (hTR : TRl X td tm ts H) (hNR : NRl X td nd na H) (hMO : sR H x1 (X.1.2 10 13) = some mo) (hWK : sR H m1 (X.1.2 11 29) = some wk) (hWR : WRl X H mo m1 wk) (hl : lv_has ls 4 [(3, .int i), (2, .ref m1), (1, .ref x1), (0, .ref b)]) (hk : ∀ (H1 : Heap) (locs1 : List Loc), Conf X Γ H1 → va_S (AΓ Γ) s.heap H1 locs1 → MI X H1 m1 ca → mkI X H1 x1 = mmI X H1 m1 → flI X H1 ra = tpdI X H1 m1 → SHP X Γ H1 x1 ta td nd → TRl X td tm ts H1 → NRl X td nd na H1 → sR H1 x1 (X.1.2 10 13) = some mo → sR H1 m1 (X.1.2 11 29) = some wk → WRl X H1 mo m1 wk → W p l e room_1 s m #[Value.ref b] below meth c H1 locs1 147 13128 Q (F0 m 1667 ls [])) : W p l e room_1 s m #[Value.ref b] below meth c H locs 147 13128 Q (F0 m 810 ls []) := by
  have E := K.E; have hx := E.1; have hb := E.2.1; have hLl := K.hL
  refine lv_aload_n hx hb dL_law_810 rfl (lv_at hl 2 rfl) ?_
  refine lv_aload_n hx hb dL_law_811 rfl (lv_at hl 3 rfl) ?_
  refine lv_iload_n hx hb dL_law_812 rfl (lv_at hl 0 rfl) ?_
  refine lv_iconst (v := 1) hx hb dL_law_813 rfl ?_
  refine lv_iadd hx hb dL_law_814 (lv_topi (fun v21 e21 => ?_))
  have e21i : v21.toInt = z + 1 := i_add e21 ez (by decide) (by omega) (by omega)
  refine va_sld hx hb K.hX K.hbl K.hbA hS (i_in e21i (by omega) (by omega)) dL_law_815 ?_
  refine lv_aload_n hx hb dL_law_816 rfl (lv_at hl 3 rfl) ?_
  refine lv_iload_n hx hb dL_law_817 rfl (lv_at hl 0 rfl) ?_
  refine lv_iconst (v := 2) hx hb dL_law_818 rfl ?_
  refine lv_iadd hx hb dL_law_819 (lv_topi (fun v22 e22 => ?_))
  have e22i : v22.toInt = z + 2 := i_add e22 ez (by decide) (by omega) (by omega)
  refine va_sld hx hb K.hX K.hbl K.hbA hS (i_in e22i (by omega) (by omega)) dL_law_820 ?_
  refine lv_aload_n hx hb dL_law_821 rfl (lv_at hl 3 rfl) ?_
  refine lv_iload_n hx hb dL_law_822 rfl (lv_at hl 0 rfl) ?_
  refine lv_iconst (v := 3) hx hb dL_law_823 rfl ?_
  refine lv_iadd hx hb dL_law_824 (lv_topi (fun v23 e23 => ?_))
  have e23i : v23.toInt = z + 3 := i_add e23 ez (by decide) (by omega) (by omega)
  refine va_sld hx hb K.hX K.hbl K.hbA hS (i_in e23i (by omega) (by omega)) dL_law_825 ?_
  refine r_goI (r_runV (As := [.int (xs v21.toNatClampNeg), .int (xs v22.toNatClampNeg), .int (xs v23.toNatClampNeg)]) (rest := []) E hC hS (m_X11_build l X Γ H hC x1 K.g1 (xs v21.toNatClampNeg) (a1 := ((xs v21.toNatClampNeg) : Int32).toInt) rfl (xs v22.toNatClampNeg) (a2 := ((xs v22.toNatClampNeg) : Int32).toInt) rfl (xs v23.toNatClampNeg) (a3 := ((xs v23.toNatClampNeg) : Int32).toInt) rfl) lcw_X11_build lcl_97 K.g1 ⟨rfl, rfl⟩ rfl hl.1 rfl (Nat.zero_le _) (by decide) (by decide) (by decide) (by decide) dL_law_826) hS (fun v24 H24 locs24 hp hC24 hS24 => ?_)
  obtain ⟨hp1, hp2a⟩ := hp
  have hMI : MI X H24 m1 ca := hMI.cl hC K.gca K.g2 hp1 rfl
  have hMR : mkI X H24 x1 = mmI X H24 m1 := (mk_kp hp1 K.g1 rfl).trans (hMR.trans (mm_kp hp1 K.g2 rfl).symm)
  have hFR : flI X H24 ra = tpdI X H24 m1 := (fl_kp hp1 K.gra rfl).trans (hFR.trans (tpd_kp hp1 K.g2 rfl).symm)
  have hSd := hSH; have hSH : SHP X Γ H24 x1 ta td nd := hSH.kp K.g1 hp1 rfl
  have hTr0 := hTR; have hNr0 := hNR; have hTm : TMm tm ts H H24 := TMm.kp0 hp1 K.gtm K.gts rfl; have hNm : NSm (nM na H) (nM na H24) := nM_kp0 hp1 K.gna rfl
  have hTc : TSm X td H H24 := TSm.kp TSm.rf hp1 hSH rfl; have hTR := hTR.same hTc hTm
  have hNc : NSm (nC nd H) (nC nd H24) := nC_kp NSm.rf hp1 hSH rfl; have hNR := hNR.same hTc hNc hNm
  have hpa := hp2a; have hCA := hC
  have hMO := (kp_R hp1 K.g1 (ci := 10) (k := 13) rfl (by decide) rfl).trans hMO; have hWK := (kp_R hp1 K.g2 (ci := 11) (k := 29) rfl (by decide) rfl).trans hWK
  have hWR0 := hWR; have hMm : MmK X H H24 m1 wk := MmK.kp0 hp1 K.g2 K.gwk rfl
  have hMc : MoK X H H24 mo := MoK.kp MoK.rf hp1 K.gmo rfl; have hWR := hWR.same hMc hMm
  have hC := hC24; have hS := hS24
  refine lv_pop hx hb dL_law_829 rfl ?_
  refine lv_aload_n hx hb dL_law_830 rfl (lv_at hl 1 rfl) ?_
  refine lv_aload_n hx hb dL_law_831 rfl (lv_at hl 3 rfl) ?_
  refine lv_iload_n hx hb dL_law_832 rfl (lv_at hl 0 rfl) ?_
  refine lv_iconst (v := 1) hx hb dL_law_833 rfl ?_
  refine lv_iadd hx hb dL_law_834 (lv_topi (fun v25 e25 => ?_))
  have e25i : v25.toInt = z + 1 := i_add e25 ez (by decide) (by omega) (by omega)
  have hq25 : v25 = v21 := e25.trans e21.symm
  refine va_sld hx hb K.hX K.hbl K.hbA hS (i_in e25i (by omega) (by omega)) dL_law_835 ?_
  rw [hq25]
  refine lv_aload_n hx hb dL_law_836 rfl (lv_at hl 3 rfl) ?_
  refine lv_iload_n hx hb dL_law_837 rfl (lv_at hl 0 rfl) ?_
  refine lv_iconst (v := 2) hx hb dL_law_838 rfl ?_
  refine lv_iadd hx hb dL_law_839 (lv_topi (fun v26 e26 => ?_))
  have e26i : v26.toInt = z + 2 := i_add e26 ez (by decide) (by omega) (by omega)
  have hq26 : v26 = v22 := e26.trans e22.symm
  refine va_sld hx hb K.hX K.hbl K.hbA hS (i_in e26i (by omega) (by omega)) dL_law_840 ?_
  rw [hq26]
  refine lv_aload_n hx hb dL_law_841 rfl (lv_at hl 3 rfl) ?_
  refine lv_iload_n hx hb dL_law_842 rfl (lv_at hl 0 rfl) ?_
  refine lv_iconst (v := 3) hx hb dL_law_843 rfl ?_
  refine lv_iadd hx hb dL_law_844 (lv_topi (fun v27 e27 => ?_))
  have e27i : v27.toInt = z + 3 := i_add e27 ez (by decide) (by omega) (by omega)
  have hq27 : v27 = v23 := e27.trans e23.symm
  refine va_sld hx hb K.hX K.hbl K.hbA hS (i_in e27i (by omega) (by omega)) dL_law_845 ?_
  rw [hq27]
  refine r_goI (r_runV (As := [.int (xs v21.toNatClampNeg), .int (xs v22.toNatClampNeg), .int (xs v23.toNatClampNeg)]) (rest := []) E hC hS (m_X12_build l X Γ H24 hC m1 K.g2 (xs v21.toNatClampNeg) (a1 := ((xs v21.toNatClampNeg) : Int32).toInt) rfl (xs v22.toNatClampNeg) (a2 := ((xs v22.toNatClampNeg) : Int32).toInt) rfl (xs v23.toNatClampNeg) (a3 := ((xs v23.toNatClampNeg) : Int32).toInt) rfl ca K.gca K.uc hMI.c0.2.2.1) lcw_X12_build lcl_100 K.g2 ⟨rfl, rfl⟩ rfl hl.1 rfl (Nat.zero_le _) (by decide) (by decide) (by decide) (by decide) dL_law_846) hS (fun v28 H28 locs28 hp hC28 hS28 => ?_)
  obtain ⟨hp1, hp2b⟩ := hp
  obtain ⟨hp1, hu⟩ := hp1
  have hMI : MI X H28 m1 ca := hMI.uh hC K.gca K.g2 hp1 hu rfl rfl
  have hMR : mkI X H28 x1 = mmI X H28 m1 := (mk_kp hp1 K.g1 rfl).trans (hMR.trans (mm_kp hp1 K.g2 rfl).symm)
  have hFR : flI X H28 ra = tpdI X H28 m1 := (fl_kp hp1 K.gra rfl).trans (hFR.trans (tpd_kp hp1 K.g2 rfl).symm)
  have hSd := hSH; have hSH : SHP X Γ H28 x1 ta td nd := hSH.kpM K.g1 hp1 rfl
  have hTc2 : TSm X td H24 H28 := TSm.kp1 hp1 hSH rfl; have hNc2 : NSm (nC nd H24) (nC nd H28) := nC_kp1 hp1 hSH rfl
  have hTrm := hTR; have hTm2 : TMm tm ts H24 H28 := TMm.kp TMm.rf hp1 K.gtm K.gts rfl; have hTR := hTR.same hTc2 hTm2
  have hpb := hp2b
  have hNm2 : NSm (nM na H24) (nM na H28) := nM_kp NSm.rf hp1 K.gna rfl; have hNrm := hNR; have hNR := hNR.same hTc2 hNc2 hNm2
  have hMO := (kp_R hp1 K.g1 (ci := 10) (k := 13) rfl (by decide) rfl).trans hMO; have hWK := (kp_R hp1 K.g2 (ci := 11) (k := 29) rfl (by decide) rfl).trans hWK
  have hMc2 : MoK X H24 H28 mo := MoK.kp1 hp1 K.gmo rfl
  have hWRm := hWR; have hWR := hWR.same hMc2 (MmK.kp MmK.rf hp1 K.g2 K.gwk rfl)
  have hC := hC28; have hS := hS28
  refine lv_pop hx hb dL_law_849 rfl ?_
  refine lv_goto (tgt := 1667) hx hb dL_law_850 rfl ?_
  exact hk _ _ hC hS hMI hMR hFR hSH hTR hNR hMO hWK hWR
set_option maxRecDepth 100000 in
set_option maxHeartbeats 4000000 in
theorem law_19 (l : Launch) {p : Program} {e : Env} {s : State} {m : MethodId} {below : List Frame} {meth : Method} {c : Code} {X : xW} {Γ : Nat → Option Nat} {b L : Nat} {xs : Nat → Int32} {x1 m1 ca ka oa ra ta tm ts na mo wk : Nat} {td nd : Nat → Nat} (K : LK p s m meth c X Γ b L xs x1 m1 ca ka oa ra tm ts na mo wk) {H : Heap} {locs : List Loc} {ls : Array Slot} {Q : State → Prop} {i : Int32} {z : Int} (ez : i.toInt = z) (h0z : 0 ≤ z) (hzL : z + 6 ≤ L) (hC : Conf X Γ H) (hS : va_S (AΓ Γ) s.heap H locs) (hMI : MI X H m1 ca) (hMR : mkI X H x1 = mmI X H m1) (hFR : flI X H ra = tpdI X H m1) (hSH : SHP X Γ H x1 ta td nd) (hTR : TRl X td tm ts H) (hNR : NRl X td nd na H) (hMO : sR H x1 (X.1.2 10 13) = some mo) (hWK : sR H m1 (X.1.2 11 29) = some wk) (hWR : WRl X H mo m1 wk) (hl : lv_has ls 4 [(3, .int i), (2, .ref m1), (1, .ref x1), (0, .ref b)]) (hk : ∀ (H1 : Heap) (locs1 : List Loc), Conf X Γ H1 → va_S (AΓ Γ) s.heap H1 locs1 → MI X H1 m1 ca → mkI X H1 x1 = mmI X H1 m1 → flI X H1 ra = tpdI X H1 m1 → SHP X Γ H1 x1 ta td nd → TRl X td tm ts H1 → NRl X td nd na H1 → sR H1 x1 (X.1.2 10 13) = some mo → sR H1 m1 (X.1.2 11 29) = some wk → WRl X H1 mo m1 wk → W p l e room_1 s m #[Value.ref b] below meth c H1 locs1 147 13128 Q (F0 m 1667 ls [])) : W p l e room_1 s m #[Value.ref b] below meth c H locs 147 13128 Q (F0 m 853 ls []) := by
  have E := K.E; have hx := E.1; have hb := E.2.1; have hLl := K.hL
  refine lv_aload_n hx hb dL_law_853 rfl (lv_at hl 2 rfl) ?_
  refine lv_aload_n hx hb dL_law_854 rfl (lv_at hl 3 rfl) ?_
  refine lv_iload_n hx hb dL_law_855 rfl (lv_at hl 0 rfl) ?_
  refine lv_iconst (v := 1) hx hb dL_law_856 rfl ?_
  refine lv_iadd hx hb dL_law_857 (lv_topi (fun v21 e21 => ?_))
  have e21i : v21.toInt = z + 1 := i_add e21 ez (by decide) (by omega) (by omega)
  refine va_sld hx hb K.hX K.hbl K.hbA hS (i_in e21i (by omega) (by omega)) dL_law_858 ?_
  refine lv_aload_n hx hb dL_law_859 rfl (lv_at hl 3 rfl) ?_
  refine lv_iload_n hx hb dL_law_860 rfl (lv_at hl 0 rfl) ?_
  refine lv_iconst (v := 2) hx hb dL_law_861 rfl ?_
  refine lv_iadd hx hb dL_law_862 (lv_topi (fun v22 e22 => ?_))
  have e22i : v22.toInt = z + 2 := i_add e22 ez (by decide) (by omega) (by omega)
  refine va_sld hx hb K.hX K.hbl K.hbA hS (i_in e22i (by omega) (by omega)) dL_law_863 ?_
  refine r_goI (r_runV (As := [.int (xs v21.toNatClampNeg), .int (xs v22.toNatClampNeg)]) (rest := []) E hC hS (m_X11_ice l X Γ H hC x1 K.g1 (xs v21.toNatClampNeg) (a1 := ((xs v21.toNatClampNeg) : Int32).toInt) rfl (xs v22.toNatClampNeg) (a2 := ((xs v22.toNatClampNeg) : Int32).toInt) rfl) lcw_X11_ice lcl_101 K.g1 ⟨rfl, rfl⟩ rfl hl.1 rfl (Nat.zero_le _) (by decide) (by decide) (by decide) (by decide) dL_law_864) hS (fun v23 H23 locs23 hp hC23 hS23 => ?_)
  obtain ⟨hp1, hp2a⟩ := hp
  have hMI : MI X H23 m1 ca := hMI.cl hC K.gca K.g2 hp1 rfl
  have hMR : mkI X H23 x1 = mmI X H23 m1 := (mk_kp hp1 K.g1 rfl).trans (hMR.trans (mm_kp hp1 K.g2 rfl).symm)
  have hFR : flI X H23 ra = tpdI X H23 m1 := (fl_kp hp1 K.gra rfl).trans (hFR.trans (tpd_kp hp1 K.g2 rfl).symm)
  have hSd := hSH; have hSH : SHP X Γ H23 x1 ta td nd := hSH.kp K.g1 hp1 rfl
  have hTr0 := hTR; have hNr0 := hNR; have hTm : TMm tm ts H H23 := TMm.kp0 hp1 K.gtm K.gts rfl; have hNm : NSm (nM na H) (nM na H23) := nM_kp0 hp1 K.gna rfl
  have hTc : TSm X td H H23 := TSm.kp TSm.rf hp1 hSH rfl; have hTR := hTR.same hTc hTm
  have hNc : NSm (nC nd H) (nC nd H23) := nC_kp NSm.rf hp1 hSH rfl; have hNR := hNR.same hTc hNc hNm
  have hpa := hp2a; have hCA := hC
  have hMO := (kp_R hp1 K.g1 (ci := 10) (k := 13) rfl (by decide) rfl).trans hMO; have hWK := (kp_R hp1 K.g2 (ci := 11) (k := 29) rfl (by decide) rfl).trans hWK
  have hWR0 := hWR; have hMm : MmK X H H23 m1 wk := MmK.kp0 hp1 K.g2 K.gwk rfl
  have hMc : MoK X H H23 mo := MoK.kp MoK.rf hp1 K.gmo rfl; have hWR := hWR.same hMc hMm
  have hC := hC23; have hS := hS23
  refine lv_pop hx hb dL_law_867 rfl ?_
  refine lv_aload_n hx hb dL_law_868 rfl (lv_at hl 1 rfl) ?_
  refine lv_aload_n hx hb dL_law_869 rfl (lv_at hl 3 rfl) ?_
  refine lv_iload_n hx hb dL_law_870 rfl (lv_at hl 0 rfl) ?_
  refine lv_iconst (v := 1) hx hb dL_law_871 rfl ?_
  refine lv_iadd hx hb dL_law_872 (lv_topi (fun v24 e24 => ?_))
  have e24i : v24.toInt = z + 1 := i_add e24 ez (by decide) (by omega) (by omega)
  have hq24 : v24 = v21 := e24.trans e21.symm
  refine va_sld hx hb K.hX K.hbl K.hbA hS (i_in e24i (by omega) (by omega)) dL_law_873 ?_
  rw [hq24]
  refine lv_aload_n hx hb dL_law_874 rfl (lv_at hl 3 rfl) ?_
  refine lv_iload_n hx hb dL_law_875 rfl (lv_at hl 0 rfl) ?_
  refine lv_iconst (v := 2) hx hb dL_law_876 rfl ?_
  refine lv_iadd hx hb dL_law_877 (lv_topi (fun v25 e25 => ?_))
  have e25i : v25.toInt = z + 2 := i_add e25 ez (by decide) (by omega) (by omega)
  have hq25 : v25 = v22 := e25.trans e22.symm
  refine va_sld hx hb K.hX K.hbl K.hbA hS (i_in e25i (by omega) (by omega)) dL_law_878 ?_
  rw [hq25]
  refine r_goI (r_runV (As := [.int (xs v21.toNatClampNeg), .int (xs v22.toNatClampNeg)]) (rest := []) E hC hS (m_X12_ice l X Γ H23 hC m1 K.g2 (xs v21.toNatClampNeg) (a1 := ((xs v21.toNatClampNeg) : Int32).toInt) rfl (xs v22.toNatClampNeg) (a2 := ((xs v22.toNatClampNeg) : Int32).toInt) rfl ca K.gca K.uc hMI.c0.2.2.1) lcw_X12_ice lcl_105 K.g2 ⟨rfl, rfl⟩ rfl hl.1 rfl (Nat.zero_le _) (by decide) (by decide) (by decide) (by decide) dL_law_879) hS (fun v26 H26 locs26 hp hC26 hS26 => ?_)
  obtain ⟨hp1, hp2b⟩ := hp
  obtain ⟨hp1, hu⟩ := hp1
  have hMI : MI X H26 m1 ca := hMI.uh hC K.gca K.g2 hp1 hu rfl rfl
  have hMR : mkI X H26 x1 = mmI X H26 m1 := (mk_kp hp1 K.g1 rfl).trans (hMR.trans (mm_kp hp1 K.g2 rfl).symm)
  have hFR : flI X H26 ra = tpdI X H26 m1 := (fl_kp hp1 K.gra rfl).trans (hFR.trans (tpd_kp hp1 K.g2 rfl).symm)
  have hSd := hSH; have hSH : SHP X Γ H26 x1 ta td nd := hSH.kpM K.g1 hp1 rfl
  have hTc2 : TSm X td H23 H26 := TSm.kp1 hp1 hSH rfl; have hNc2 : NSm (nC nd H23) (nC nd H26) := nC_kp1 hp1 hSH rfl
  have hTrm := hTR; have hTm2 : TMm tm ts H23 H26 := TMm.kp TMm.rf hp1 K.gtm K.gts rfl; have hTR := hTR.same hTc2 hTm2
  have hpb := hp2b
  have hNm2 : NSm (nM na H23) (nM na H26) := nM_kp NSm.rf hp1 K.gna rfl; have hNrm := hNR; have hNR := hNR.same hTc2 hNc2 hNm2
  have hMO := (kp_R hp1 K.g1 (ci := 10) (k := 13) rfl (by decide) rfl).trans hMO; have hWK := (kp_R hp1 K.g2 (ci := 11) (k := 29) rfl (by decide) rfl).trans hWK
  have hMc2 : MoK X H23 H26 mo := MoK.kp1 hp1 K.gmo rfl
  have hWRm := hWR; have hWR := hWR.same hMc2 (MmK.kp MmK.rf hp1 K.g2 K.gwk rfl)
  have hC := hC26; have hS := hS26
  refine lv_pop hx hb dL_law_882 rfl ?_
  refine lv_goto (tgt := 1667) hx hb dL_law_883 rfl ?_
  exact hk _ _ hC hS hMI hMR hFR hSH hTR hNR hMO hWK hWR
set_option maxRecDepth 100000 in
set_option maxHeartbeats 4000000 in
theorem law_20 (l : Launch) {p : Program} {e : Env} {s : State} {m : MethodId} {below : List Frame} {meth : Method} {c : Code} {X : xW} {Γ : Nat → Option Nat} {b L : Nat} {xs : Nat → Int32} {x1 m1 ca ka oa ra ta tm ts na mo wk : Nat} {td nd : Nat → Nat} (K : LK p s m meth c X Γ b L xs x1 m1 ca ka oa ra tm ts na mo wk) {H : Heap} {locs : List Loc} {ls : Array Slot} {Q : State → Prop} {i : Int32} {z : Int} (ez : i.toInt = z) (h0z : 0 ≤ z) (hzL : z + 6 ≤ L) (hC : Conf X Γ H) (hS : va_S (AΓ Γ) s.heap H locs) (hMI : MI X H m1 ca) (hMR : mkI X H x1 = mmI X H m1) (hFR : flI X H ra = tpdI X H m1) (hSH : SHP X Γ H x1 ta td nd) (hTR : TRl X td tm ts H) (hNR : NRl X td nd na H) (hMO : sR H x1 (X.1.2 10 13) = some mo) (hWK : sR H m1 (X.1.2 11 29) = some wk) (hWR : WRl X H mo m1 wk) (hl : lv_has ls 4 [(3, .int i), (2, .ref m1), (1, .ref x1), (0, .ref b)]) (hk : ∀ (H1 : Heap) (locs1 : List Loc), Conf X Γ H1 → va_S (AΓ Γ) s.heap H1 locs1 → MI X H1 m1 ca → mkI X H1 x1 = mmI X H1 m1 → flI X H1 ra = tpdI X H1 m1 → SHP X Γ H1 x1 ta td nd → TRl X td tm ts H1 → NRl X td nd na H1 → sR H1 x1 (X.1.2 10 13) = some mo → sR H1 m1 (X.1.2 11 29) = some wk → WRl X H1 mo m1 wk → W p l e room_1 s m #[Value.ref b] below meth c H1 locs1 147 13128 Q (F0 m 1667 ls [])) : W p l e room_1 s m #[Value.ref b] below meth c H locs 147 13128 Q (F0 m 886 ls []) := by
  have E := K.E; have hx := E.1; have hb := E.2.1; have hLl := K.hL
  refine lv_aload_n hx hb dL_law_886 rfl (lv_at hl 2 rfl) ?_
  refine lv_aload_n hx hb dL_law_887 rfl (lv_at hl 3 rfl) ?_
  refine lv_iload_n hx hb dL_law_888 rfl (lv_at hl 0 rfl) ?_
  refine lv_iconst (v := 1) hx hb dL_law_889 rfl ?_
  refine lv_iadd hx hb dL_law_890 (lv_topi (fun v21 e21 => ?_))
  have e21i : v21.toInt = z + 1 := i_add e21 ez (by decide) (by omega) (by omega)
  refine va_sld hx hb K.hX K.hbl K.hbA hS (i_in e21i (by omega) (by omega)) dL_law_891 ?_
  refine lv_aload_n hx hb dL_law_892 rfl (lv_at hl 3 rfl) ?_
  refine lv_iload_n hx hb dL_law_893 rfl (lv_at hl 0 rfl) ?_
  refine lv_iconst (v := 2) hx hb dL_law_894 rfl ?_
  refine lv_iadd hx hb dL_law_895 (lv_topi (fun v22 e22 => ?_))
  have e22i : v22.toInt = z + 2 := i_add e22 ez (by decide) (by omega) (by omega)
  refine va_sld hx hb K.hX K.hbl K.hbA hS (i_in e22i (by omega) (by omega)) dL_law_896 ?_
  refine lv_aload_n hx hb dL_law_897 rfl (lv_at hl 3 rfl) ?_
  refine lv_iload_n hx hb dL_law_898 rfl (lv_at hl 0 rfl) ?_
  refine lv_iconst (v := 3) hx hb dL_law_899 rfl ?_
  refine lv_iadd hx hb dL_law_900 (lv_topi (fun v23 e23 => ?_))
  have e23i : v23.toInt = z + 3 := i_add e23 ez (by decide) (by omega) (by omega)
  refine va_sld hx hb K.hX K.hbl K.hbA hS (i_in e23i (by omega) (by omega)) dL_law_901 ?_
  refine lv_aload_n hx hb dL_law_902 rfl (lv_at hl 3 rfl) ?_
  refine lv_iload_n hx hb dL_law_903 rfl (lv_at hl 0 rfl) ?_
  refine lv_iconst (v := 4) hx hb dL_law_904 rfl ?_
  refine lv_iadd hx hb dL_law_905 (lv_topi (fun v24 e24 => ?_))
  have e24i : v24.toInt = z + 4 := i_add e24 ez (by decide) (by omega) (by omega)
  refine va_sld hx hb K.hX K.hbl K.hbA hS (i_in e24i (by omega) (by omega)) dL_law_906 ?_
  refine lv_aload_n hx hb dL_law_907 rfl (lv_at hl 3 rfl) ?_
  refine lv_iload_n hx hb dL_law_908 rfl (lv_at hl 0 rfl) ?_
  refine lv_iconst (v := 5) hx hb dL_law_909 rfl ?_
  refine lv_iadd hx hb dL_law_910 (lv_topi (fun v25 e25 => ?_))
  have e25i : v25.toInt = z + 5 := i_add e25 ez (by decide) (by omega) (by omega)
  refine va_sld hx hb K.hX K.hbl K.hbA hS (i_in e25i (by omega) (by omega)) dL_law_911 ?_
  refine r_goI (r_runV (As := [.int (xs v21.toNatClampNeg), .int (xs v22.toNatClampNeg), .int (xs v23.toNatClampNeg), .int (xs v24.toNatClampNeg), .int (xs v25.toNatClampNeg)]) (rest := []) E hC hS (m_X11_steal l X Γ H hC x1 K.g1 (xs v21.toNatClampNeg) (a1 := ((xs v21.toNatClampNeg) : Int32).toInt) rfl (xs v22.toNatClampNeg) (a2 := ((xs v22.toNatClampNeg) : Int32).toInt) rfl (xs v23.toNatClampNeg) (a3 := ((xs v23.toNatClampNeg) : Int32).toInt) rfl (xs v24.toNatClampNeg) (a4 := ((xs v24.toNatClampNeg) : Int32).toInt) rfl (xs v25.toNatClampNeg) (a5 := ((xs v25.toNatClampNeg) : Int32).toInt) rfl) lcw_X11_steal lcl_106 K.g1 ⟨rfl, rfl⟩ rfl hl.1 rfl (Nat.zero_le _) (by decide) (by decide) (by decide) (by decide) dL_law_912) hS (fun v26 H26 locs26 hp hC26 hS26 => ?_)
  obtain ⟨hp1, hp2a⟩ := hp
  have hMI : MI X H26 m1 ca := hMI.cl hC K.gca K.g2 hp1 rfl
  have hMR : mkI X H26 x1 = mmI X H26 m1 := (mk_kp hp1 K.g1 rfl).trans (hMR.trans (mm_kp hp1 K.g2 rfl).symm)
  have hFR : flI X H26 ra = tpdI X H26 m1 := (fl_kp hp1 K.gra rfl).trans (hFR.trans (tpd_kp hp1 K.g2 rfl).symm)
  have hSd := hSH; have hSH : SHP X Γ H26 x1 ta td nd := hSH.kp K.g1 hp1 rfl
  have hTr0 := hTR; have hNr0 := hNR; have hTm : TMm tm ts H H26 := TMm.kp0 hp1 K.gtm K.gts rfl; have hNm : NSm (nM na H) (nM na H26) := nM_kp0 hp1 K.gna rfl
  have hTc : TSm X td H H26 := TSm.kp TSm.rf hp1 hSH rfl; have hTR := hTR.same hTc hTm
  have hNc : NSm (nC nd H) (nC nd H26) := nC_kp NSm.rf hp1 hSH rfl; have hNR := hNR.same hTc hNc hNm
  have hpa := hp2a; have hCA := hC
  have hMO := (kp_R hp1 K.g1 (ci := 10) (k := 13) rfl (by decide) rfl).trans hMO; have hWK := (kp_R hp1 K.g2 (ci := 11) (k := 29) rfl (by decide) rfl).trans hWK
  have hWR0 := hWR; have hMm : MmK X H H26 m1 wk := MmK.kp0 hp1 K.g2 K.gwk rfl
  have hMc : MoK X H H26 mo := MoK.kp MoK.rf hp1 K.gmo rfl; have hWR := hWR.same hMc hMm
  have hC := hC26; have hS := hS26
  refine lv_pop hx hb dL_law_915 rfl ?_
  refine lv_aload_n hx hb dL_law_916 rfl (lv_at hl 1 rfl) ?_
  refine lv_aload_n hx hb dL_law_917 rfl (lv_at hl 3 rfl) ?_
  refine lv_iload_n hx hb dL_law_918 rfl (lv_at hl 0 rfl) ?_
  refine lv_iconst (v := 1) hx hb dL_law_919 rfl ?_
  refine lv_iadd hx hb dL_law_920 (lv_topi (fun v27 e27 => ?_))
  have e27i : v27.toInt = z + 1 := i_add e27 ez (by decide) (by omega) (by omega)
  have hq27 : v27 = v21 := e27.trans e21.symm
  refine va_sld hx hb K.hX K.hbl K.hbA hS (i_in e27i (by omega) (by omega)) dL_law_921 ?_
  rw [hq27]
  refine lv_aload_n hx hb dL_law_922 rfl (lv_at hl 3 rfl) ?_
  refine lv_iload_n hx hb dL_law_923 rfl (lv_at hl 0 rfl) ?_
  refine lv_iconst (v := 2) hx hb dL_law_924 rfl ?_
  refine lv_iadd hx hb dL_law_925 (lv_topi (fun v28 e28 => ?_))
  have e28i : v28.toInt = z + 2 := i_add e28 ez (by decide) (by omega) (by omega)
  have hq28 : v28 = v22 := e28.trans e22.symm
  refine va_sld hx hb K.hX K.hbl K.hbA hS (i_in e28i (by omega) (by omega)) dL_law_926 ?_
  rw [hq28]
  refine lv_aload_n hx hb dL_law_927 rfl (lv_at hl 3 rfl) ?_
  refine lv_iload_n hx hb dL_law_928 rfl (lv_at hl 0 rfl) ?_
  refine lv_iconst (v := 3) hx hb dL_law_929 rfl ?_
  refine lv_iadd hx hb dL_law_930 (lv_topi (fun v29 e29 => ?_))
  have e29i : v29.toInt = z + 3 := i_add e29 ez (by decide) (by omega) (by omega)
  have hq29 : v29 = v23 := e29.trans e23.symm
  refine va_sld hx hb K.hX K.hbl K.hbA hS (i_in e29i (by omega) (by omega)) dL_law_931 ?_
  rw [hq29]
  refine lv_aload_n hx hb dL_law_932 rfl (lv_at hl 3 rfl) ?_
  refine lv_iload_n hx hb dL_law_933 rfl (lv_at hl 0 rfl) ?_
  refine lv_iconst (v := 4) hx hb dL_law_934 rfl ?_
  refine lv_iadd hx hb dL_law_935 (lv_topi (fun v30 e30 => ?_))
  have e30i : v30.toInt = z + 4 := i_add e30 ez (by decide) (by omega) (by omega)
  have hq30 : v30 = v24 := e30.trans e24.symm
  refine va_sld hx hb K.hX K.hbl K.hbA hS (i_in e30i (by omega) (by omega)) dL_law_936 ?_
  rw [hq30]
  refine lv_aload_n hx hb dL_law_937 rfl (lv_at hl 3 rfl) ?_
  refine lv_iload_n hx hb dL_law_938 rfl (lv_at hl 0 rfl) ?_
  refine lv_iconst (v := 5) hx hb dL_law_939 rfl ?_
  refine lv_iadd hx hb dL_law_940 (lv_topi (fun v31 e31 => ?_))
  have e31i : v31.toInt = z + 5 := i_add e31 ez (by decide) (by omega) (by omega)
  have hq31 : v31 = v25 := e31.trans e25.symm
  refine va_sld hx hb K.hX K.hbl K.hbA hS (i_in e31i (by omega) (by omega)) dL_law_941 ?_
  rw [hq31]
  refine r_goI (r_runV (As := [.int (xs v21.toNatClampNeg), .int (xs v22.toNatClampNeg), .int (xs v23.toNatClampNeg), .int (xs v24.toNatClampNeg), .int (xs v25.toNatClampNeg)]) (rest := []) E hC hS (m_X12_steal l X Γ H26 hC m1 K.g2 (xs v21.toNatClampNeg) (a1 := ((xs v21.toNatClampNeg) : Int32).toInt) rfl (xs v22.toNatClampNeg) (a2 := ((xs v22.toNatClampNeg) : Int32).toInt) rfl (xs v23.toNatClampNeg) (a3 := ((xs v23.toNatClampNeg) : Int32).toInt) rfl (xs v24.toNatClampNeg) (a4 := ((xs v24.toNatClampNeg) : Int32).toInt) rfl (xs v25.toNatClampNeg) (a5 := ((xs v25.toNatClampNeg) : Int32).toInt) rfl ca K.gca K.uc hMI.c0.2.2.1) lcw_X12_steal lcl_109 K.g2 ⟨rfl, rfl⟩ rfl hl.1 rfl (Nat.zero_le _) (by decide) (by decide) (by decide) (by decide) dL_law_942) hS (fun v32 H32 locs32 hp hC32 hS32 => ?_)
  obtain ⟨hp1, hp2b⟩ := hp
  obtain ⟨hp1, hu⟩ := hp1
  have hMI : MI X H32 m1 ca := hMI.uh hC K.gca K.g2 hp1 hu rfl rfl
  have hMR : mkI X H32 x1 = mmI X H32 m1 := (mk_kp hp1 K.g1 rfl).trans (hMR.trans (mm_kp hp1 K.g2 rfl).symm)
  have hFR : flI X H32 ra = tpdI X H32 m1 := (fl_kp hp1 K.gra rfl).trans (hFR.trans (tpd_kp hp1 K.g2 rfl).symm)
  have hSd := hSH; have hSH : SHP X Γ H32 x1 ta td nd := hSH.kpM K.g1 hp1 rfl
  have hTc2 : TSm X td H26 H32 := TSm.kp1 hp1 hSH rfl; have hNc2 : NSm (nC nd H26) (nC nd H32) := nC_kp1 hp1 hSH rfl
  have hTrm := hTR; have hTm2 : TMm tm ts H26 H32 := TMm.kp TMm.rf hp1 K.gtm K.gts rfl; have hTR := hTR.same hTc2 hTm2
  have hpb := hp2b
  have hNm2 : NSm (nM na H26) (nM na H32) := nM_kp NSm.rf hp1 K.gna rfl; have hNrm := hNR; have hNR := hNR.same hTc2 hNc2 hNm2
  have hMO := (kp_R hp1 K.g1 (ci := 10) (k := 13) rfl (by decide) rfl).trans hMO; have hWK := (kp_R hp1 K.g2 (ci := 11) (k := 29) rfl (by decide) rfl).trans hWK
  have hMc2 : MoK X H26 H32 mo := MoK.kp1 hp1 K.gmo rfl
  have hWRm := hWR; have hWR := hWR.same hMc2 (MmK.kp MmK.rf hp1 K.g2 K.gwk rfl)
  have hC := hC32; have hS := hS32
  refine lv_pop hx hb dL_law_945 rfl ?_
  refine lv_goto (tgt := 1667) hx hb dL_law_946 rfl ?_
  exact hk _ _ hC hS hMI hMR hFR hSH hTR hNR hMO hWK hWR
set_option maxRecDepth 100000 in
set_option maxHeartbeats 4000000 in
theorem law_21 (l : Launch) {p : Program} {e : Env} {s : State} {m : MethodId} {below : List Frame} {meth : Method} {c : Code} {X : xW} {Γ : Nat → Option Nat} {b L : Nat} {xs : Nat → Int32} {x1 m1 ca ka oa ra ta tm ts na mo wk : Nat} {td nd : Nat → Nat} (K : LK p s m meth c X Γ b L xs x1 m1 ca ka oa ra tm ts na mo wk) {H : Heap} {locs : List Loc} {ls : Array Slot} {Q : State → Prop} {i : Int32} {z : Int} (ez : i.toInt = z) (h0z : 0 ≤ z) (hzL : z + 6 ≤ L) (hC : Conf X Γ H) (hS : va_S (AΓ Γ) s.heap H locs) (hMI : MI X H m1 ca) (hMR : mkI X H x1 = mmI X H m1) (hFR : flI X H ra = tpdI X H m1) (hSH : SHP X Γ H x1 ta td nd) (hTR : TRl X td tm ts H) (hNR : NRl X td nd na H) (hMO : sR H x1 (X.1.2 10 13) = some mo) (hWK : sR H m1 (X.1.2 11 29) = some wk) (hWR : WRl X H mo m1 wk) (hl : lv_has ls 4 [(3, .int i), (2, .ref m1), (1, .ref x1), (0, .ref b)]) (hk : ∀ (H1 : Heap) (locs1 : List Loc), Conf X Γ H1 → va_S (AΓ Γ) s.heap H1 locs1 → MI X H1 m1 ca → mkI X H1 x1 = mmI X H1 m1 → flI X H1 ra = tpdI X H1 m1 → SHP X Γ H1 x1 ta td nd → TRl X td tm ts H1 → NRl X td nd na H1 → sR H1 x1 (X.1.2 10 13) = some mo → sR H1 m1 (X.1.2 11 29) = some wk → WRl X H1 mo m1 wk → W p l e room_1 s m #[Value.ref b] below meth c H1 locs1 147 13128 Q (F0 m 1667 ls [])) : W p l e room_1 s m #[Value.ref b] below meth c H locs 147 13128 Q (F0 m 949 ls []) := by
  have E := K.E; have hx := E.1; have hb := E.2.1; have hLl := K.hL
  refine lv_aload_n hx hb dL_law_949 rfl (lv_at hl 2 rfl) ?_
  refine r_goI (r_runV (As := []) (rest := []) E hC hS (m_X11_night l X Γ H hC x1 K.g1) lcw_X11_night lcl_110 K.g1 ⟨rfl, rfl⟩ rfl hl.1 rfl (Nat.zero_le _) (by decide) (by decide) (by decide) (by decide) dL_law_950) hS (fun v21 H21 locs21 hp hC21 hS21 => ?_)
  obtain ⟨hp1, hp2a⟩ := hp
  have hMI : MI X H21 m1 ca := hMI.cl hC K.gca K.g2 hp1 rfl
  have hMR : mkI X H21 x1 = mmI X H21 m1 := (mk_kp hp1 K.g1 rfl).trans (hMR.trans (mm_kp hp1 K.g2 rfl).symm)
  have hFR : flI X H21 ra = tpdI X H21 m1 := (fl_kp hp1 K.gra rfl).trans (hFR.trans (tpd_kp hp1 K.g2 rfl).symm)
  have hSd := hSH; have hSH : SHP X Γ H21 x1 ta td nd := hSH.kp K.g1 hp1 rfl
  have hTr0 := hTR; have hNr0 := hNR; have hTm : TMm tm ts H H21 := TMm.kp0 hp1 K.gtm K.gts rfl; have hNm : NSm (nM na H) (nM na H21) := nM_kp0 hp1 K.gna rfl
  have hTc : TSm X td H H21 := TSm.kp TSm.rf hp1 hSH rfl; have hTR := hTR.same hTc hTm
  have hNc : NSm (nC nd H) (nC nd H21) := nC_kp NSm.rf hp1 hSH rfl; have hNR := hNR.same hTc hNc hNm
  have hpa := hp2a; have hCA := hC
  have hMO := (kp_R hp1 K.g1 (ci := 10) (k := 13) rfl (by decide) rfl).trans hMO; have hWK := (kp_R hp1 K.g2 (ci := 11) (k := 29) rfl (by decide) rfl).trans hWK
  have hWR0 := hWR; have hMm : MmK X H H21 m1 wk := MmK.kp0 hp1 K.g2 K.gwk rfl
  have hMc : MoK X H H21 mo := MoK.kp MoK.rf hp1 K.gmo rfl; have hWR := hWR.same hMc hMm
  have hC := hC21; have hS := hS21
  refine lv_pop hx hb dL_law_953 rfl ?_
  refine lv_aload_n hx hb dL_law_954 rfl (lv_at hl 1 rfl) ?_
  refine r_goI (r_runV (As := []) (rest := []) E hC hS (m_X12_night l X Γ H21 hC m1 K.g2 ca K.gca K.uc hMI.c0.2.2.1) lcw_X12_night lcl_113 K.g2 ⟨rfl, rfl⟩ rfl hl.1 rfl (Nat.zero_le _) (by decide) (by decide) (by decide) (by decide) dL_law_955) hS (fun v22 H22 locs22 hp hC22 hS22 => ?_)
  obtain ⟨hp1, hp2b⟩ := hp
  obtain ⟨hp1, hu⟩ := hp1
  have hMI : MI X H22 m1 ca := hMI.uh hC K.gca K.g2 hp1 hu rfl rfl
  have hMR : mkI X H22 x1 = mmI X H22 m1 := (mk_kp hp1 K.g1 rfl).trans (hMR.trans (mm_kp hp1 K.g2 rfl).symm)
  have hFR : flI X H22 ra = tpdI X H22 m1 := (fl_kp hp1 K.gra rfl).trans (hFR.trans (tpd_kp hp1 K.g2 rfl).symm)
  have hSd := hSH; have hSH : SHP X Γ H22 x1 ta td nd := hSH.kpM K.g1 hp1 rfl
  have hTc2 : TSm X td H21 H22 := TSm.kp1 hp1 hSH rfl; have hNc2 : NSm (nC nd H21) (nC nd H22) := nC_kp1 hp1 hSH rfl
  have hTrm := hTR; have hTm2 : TMm tm ts H21 H22 := TMm.kp TMm.rf hp1 K.gtm K.gts rfl; have hTR := hTR.same hTc2 hTm2
  have hpb := hp2b
  have hNm2 : NSm (nM na H21) (nM na H22) := nM_kp NSm.rf hp1 K.gna rfl; have hNrm := hNR; have hNR := hNR.same hTc2 hNc2 hNm2
  have hMO := (kp_R hp1 K.g1 (ci := 10) (k := 13) rfl (by decide) rfl).trans hMO; have hWK := (kp_R hp1 K.g2 (ci := 11) (k := 29) rfl (by decide) rfl).trans hWK
  have hMc2 : MoK X H21 H22 mo := MoK.kp1 hp1 K.gmo rfl
  have hWRm := hWR; have hWR := hWR.same hMc2 (MmK.kp MmK.rf hp1 K.g2 K.gwk rfl)
  have hC := hC22; have hS := hS22
  refine lv_pop hx hb dL_law_958 rfl ?_
  refine lv_goto (tgt := 1667) hx hb dL_law_959 rfl ?_
  exact hk _ _ hC hS hMI hMR hFR hSH hTR hNR hMO hWK hWR
set_option maxRecDepth 100000 in
set_option maxHeartbeats 4000000 in
theorem law_22 (l : Launch) {p : Program} {e : Env} {s : State} {m : MethodId} {below : List Frame} {meth : Method} {c : Code} {X : xW} {Γ : Nat → Option Nat} {b L : Nat} {xs : Nat → Int32} {x1 m1 ca ka oa ra ta tm ts na mo wk : Nat} {td nd : Nat → Nat} (K : LK p s m meth c X Γ b L xs x1 m1 ca ka oa ra tm ts na mo wk) {H : Heap} {locs : List Loc} {ls : Array Slot} {Q : State → Prop} {i : Int32} {z : Int} (ez : i.toInt = z) (h0z : 0 ≤ z) (hzL : z + 6 ≤ L) (hC : Conf X Γ H) (hS : va_S (AΓ Γ) s.heap H locs) (hMI : MI X H m1 ca) (hMR : mkI X H x1 = mmI X H m1) (hFR : flI X H ra = tpdI X H m1) (hSH : SHP X Γ H x1 ta td nd) (hTR : TRl X td tm ts H) (hNR : NRl X td nd na H) (hMO : sR H x1 (X.1.2 10 13) = some mo) (hWK : sR H m1 (X.1.2 11 29) = some wk) (hWR : WRl X H mo m1 wk) (hl : lv_has ls 4 [(3, .int i), (2, .ref m1), (1, .ref x1), (0, .ref b)]) (hk : ∀ (H1 : Heap) (locs1 : List Loc), Conf X Γ H1 → va_S (AΓ Γ) s.heap H1 locs1 → MI X H1 m1 ca → mkI X H1 x1 = mmI X H1 m1 → flI X H1 ra = tpdI X H1 m1 → SHP X Γ H1 x1 ta td nd → TRl X td tm ts H1 → NRl X td nd na H1 → sR H1 x1 (X.1.2 10 13) = some mo → sR H1 m1 (X.1.2 11 29) = some wk → WRl X H1 mo m1 wk → W p l e room_1 s m #[Value.ref b] below meth c H1 locs1 147 13128 Q (F0 m 1667 ls [])) : W p l e room_1 s m #[Value.ref b] below meth c H locs 147 13128 Q (F0 m 962 ls []) := by
  have E := K.E; have hx := E.1; have hb := E.2.1; have hLl := K.hL
  refine lv_aload_n hx hb dL_law_962 rfl (lv_at hl 2 rfl) ?_
  refine lv_aload_n hx hb dL_law_963 rfl (lv_at hl 3 rfl) ?_
  refine lv_iload_n hx hb dL_law_964 rfl (lv_at hl 0 rfl) ?_
  refine lv_iconst (v := 1) hx hb dL_law_965 rfl ?_
  refine lv_iadd hx hb dL_law_966 (lv_topi (fun v21 e21 => ?_))
  have e21i : v21.toInt = z + 1 := i_add e21 ez (by decide) (by omega) (by omega)
  refine va_sld hx hb K.hX K.hbl K.hbA hS (i_in e21i (by omega) (by omega)) dL_law_967 ?_
  refine lv_aload_n hx hb dL_law_968 rfl (lv_at hl 3 rfl) ?_
  refine lv_iload_n hx hb dL_law_969 rfl (lv_at hl 0 rfl) ?_
  refine lv_iconst (v := 2) hx hb dL_law_970 rfl ?_
  refine lv_iadd hx hb dL_law_971 (lv_topi (fun v22 e22 => ?_))
  have e22i : v22.toInt = z + 2 := i_add e22 ez (by decide) (by omega) (by omega)
  refine va_sld hx hb K.hX K.hbl K.hbA hS (i_in e22i (by omega) (by omega)) dL_law_972 ?_
  refine r_goI (r_runV (As := [.int (xs v21.toNatClampNeg), .int (xs v22.toNatClampNeg)]) (rest := []) E hC hS (m_X11_room l X Γ H hC x1 K.g1 (xs v21.toNatClampNeg) (a1 := ((xs v21.toNatClampNeg) : Int32).toInt) rfl (xs v22.toNatClampNeg) (a2 := ((xs v22.toNatClampNeg) : Int32).toInt) rfl) lcw_X11_room lcl_114 K.g1 ⟨rfl, rfl⟩ rfl hl.1 rfl (Nat.zero_le _) (by decide) (by decide) (by decide) (by decide) dL_law_973) hS (fun v23 H23 locs23 hp hC23 hS23 => ?_)
  obtain ⟨hp1, hp2a⟩ := hp
  have hMI : MI X H23 m1 ca := hMI.cl hC K.gca K.g2 hp1 rfl
  have hMR : mkI X H23 x1 = mmI X H23 m1 := (mk_kp hp1 K.g1 rfl).trans (hMR.trans (mm_kp hp1 K.g2 rfl).symm)
  have hFR : flI X H23 ra = tpdI X H23 m1 := (fl_kp hp1 K.gra rfl).trans (hFR.trans (tpd_kp hp1 K.g2 rfl).symm)
  have hSd := hSH; have hSH : SHP X Γ H23 x1 ta td nd := hSH.kp K.g1 hp1 rfl
  have hTr0 := hTR; have hNr0 := hNR; have hTm : TMm tm ts H H23 := TMm.kp0 hp1 K.gtm K.gts rfl; have hNm : NSm (nM na H) (nM na H23) := nM_kp0 hp1 K.gna rfl
  have hTc : TSm X td H H23 := TSm.kp TSm.rf hp1 hSH rfl; have hTR := hTR.same hTc hTm
  have hNc : NSm (nC nd H) (nC nd H23) := nC_kp NSm.rf hp1 hSH rfl; have hNR := hNR.same hTc hNc hNm
  have hpa := hp2a; have hCA := hC
  have hMO := (kp_R hp1 K.g1 (ci := 10) (k := 13) rfl (by decide) rfl).trans hMO; have hWK := (kp_R hp1 K.g2 (ci := 11) (k := 29) rfl (by decide) rfl).trans hWK
  have hWR0 := hWR; have hMm : MmK X H H23 m1 wk := MmK.kp0 hp1 K.g2 K.gwk rfl
  have hMc : MoK X H H23 mo := MoK.kp MoK.rf hp1 K.gmo rfl; have hWR := hWR.same hMc hMm
  have hC := hC23; have hS := hS23
  refine lv_pop hx hb dL_law_976 rfl ?_
  refine lv_aload_n hx hb dL_law_977 rfl (lv_at hl 1 rfl) ?_
  refine lv_aload_n hx hb dL_law_978 rfl (lv_at hl 3 rfl) ?_
  refine lv_iload_n hx hb dL_law_979 rfl (lv_at hl 0 rfl) ?_
  refine lv_iconst (v := 1) hx hb dL_law_980 rfl ?_
  refine lv_iadd hx hb dL_law_981 (lv_topi (fun v24 e24 => ?_))
  have e24i : v24.toInt = z + 1 := i_add e24 ez (by decide) (by omega) (by omega)
  have hq24 : v24 = v21 := e24.trans e21.symm
  refine va_sld hx hb K.hX K.hbl K.hbA hS (i_in e24i (by omega) (by omega)) dL_law_982 ?_
  rw [hq24]
  refine lv_aload_n hx hb dL_law_983 rfl (lv_at hl 3 rfl) ?_
  refine lv_iload_n hx hb dL_law_984 rfl (lv_at hl 0 rfl) ?_
  refine lv_iconst (v := 2) hx hb dL_law_985 rfl ?_
  refine lv_iadd hx hb dL_law_986 (lv_topi (fun v25 e25 => ?_))
  have e25i : v25.toInt = z + 2 := i_add e25 ez (by decide) (by omega) (by omega)
  have hq25 : v25 = v22 := e25.trans e22.symm
  refine va_sld hx hb K.hX K.hbl K.hbA hS (i_in e25i (by omega) (by omega)) dL_law_987 ?_
  rw [hq25]
  refine r_goI (r_runV (As := [.int (xs v21.toNatClampNeg), .int (xs v22.toNatClampNeg)]) (rest := []) E hC hS (m_X12_room l X Γ H23 hC m1 K.g2 (xs v21.toNatClampNeg) (a1 := ((xs v21.toNatClampNeg) : Int32).toInt) rfl (xs v22.toNatClampNeg) (a2 := ((xs v22.toNatClampNeg) : Int32).toInt) rfl ca K.gca K.uc) lcw_X12_room lcl_117 K.g2 ⟨rfl, rfl⟩ rfl hl.1 rfl (Nat.zero_le _) (by decide) (by decide) (by decide) (by decide) dL_law_988) hS (fun v26 H26 locs26 hp hC26 hS26 => ?_)
  obtain ⟨hp1, hp2b⟩ := hp
  have hMI : MI X H26 m1 ca := hMI.kp hC K.gca K.g2 hp1 rfl rfl rfl
  have hMR : mkI X H26 x1 = mmI X H26 m1 := (mk_kp hp1 K.g1 rfl).trans (hMR.trans (mm_kp hp1 K.g2 rfl).symm)
  have hFR : flI X H26 ra = tpdI X H26 m1 := (fl_kp hp1 K.gra rfl).trans (hFR.trans (tpd_kp hp1 K.g2 rfl).symm)
  have hSd := hSH; have hSH : SHP X Γ H26 x1 ta td nd := hSH.kpM K.g1 hp1 rfl
  have hTc2 : TSm X td H23 H26 := TSm.kp1 hp1 hSH rfl; have hNc2 : NSm (nC nd H23) (nC nd H26) := nC_kp1 hp1 hSH rfl
  have hTrm := hTR; have hTm2 : TMm tm ts H23 H26 := TMm.kp TMm.rf hp1 K.gtm K.gts rfl; have hTR := hTR.same hTc2 hTm2
  have hpb := hp2b
  have hNm2 : NSm (nM na H23) (nM na H26) := nM_kp NSm.rf hp1 K.gna rfl; have hNrm := hNR; have hNR := hNR.same hTc2 hNc2 hNm2
  have hMO := (kp_R hp1 K.g1 (ci := 10) (k := 13) rfl (by decide) rfl).trans hMO; have hWK := (kp_R hp1 K.g2 (ci := 11) (k := 29) rfl (by decide) rfl).trans hWK
  have hMc2 : MoK X H23 H26 mo := MoK.kp1 hp1 K.gmo rfl
  have hWRm := hWR; have hWR := hWR.same hMc2 (MmK.kp MmK.rf hp1 K.g2 K.gwk rfl)
  have hC := hC26; have hS := hS26
  refine lv_pop hx hb dL_law_991 rfl ?_
  refine lv_goto (tgt := 1667) hx hb dL_law_992 rfl ?_
  exact hk _ _ hC hS hMI hMR hFR hSH hTR hNR hMO hWK hWR
set_option maxRecDepth 100000 in
set_option maxHeartbeats 4000000 in
theorem law_23 (l : Launch) {p : Program} {e : Env} {s : State} {m : MethodId} {below : List Frame} {meth : Method} {c : Code} {X : xW} {Γ : Nat → Option Nat} {b L : Nat} {xs : Nat → Int32} {x1 m1 ca ka oa ra ta tm ts na mo wk : Nat} {td nd : Nat → Nat} (K : LK p s m meth c X Γ b L xs x1 m1 ca ka oa ra tm ts na mo wk) {H : Heap} {locs : List Loc} {ls : Array Slot} {Q : State → Prop} {i : Int32} {z : Int} (ez : i.toInt = z) (h0z : 0 ≤ z) (hzL : z + 6 ≤ L) (hC : Conf X Γ H) (hS : va_S (AΓ Γ) s.heap H locs) (hMI : MI X H m1 ca) (hMR : mkI X H x1 = mmI X H m1) (hFR : flI X H ra = tpdI X H m1) (hSH : SHP X Γ H x1 ta td nd) (hTR : TRl X td tm ts H) (hNR : NRl X td nd na H) (hMO : sR H x1 (X.1.2 10 13) = some mo) (hWK : sR H m1 (X.1.2 11 29) = some wk) (hWR : WRl X H mo m1 wk) (hl : lv_has ls 4 [(3, .int i), (2, .ref m1), (1, .ref x1), (0, .ref b)]) (hk : ∀ (H1 : Heap) (locs1 : List Loc), Conf X Γ H1 → va_S (AΓ Γ) s.heap H1 locs1 → MI X H1 m1 ca → mkI X H1 x1 = mmI X H1 m1 → flI X H1 ra = tpdI X H1 m1 → SHP X Γ H1 x1 ta td nd → TRl X td tm ts H1 → NRl X td nd na H1 → sR H1 x1 (X.1.2 10 13) = some mo → sR H1 m1 (X.1.2 11 29) = some wk → WRl X H1 mo m1 wk → W p l e room_1 s m #[Value.ref b] below meth c H1 locs1 147 13128 Q (F0 m 1667 ls [])) : W p l e room_1 s m #[Value.ref b] below meth c H locs 147 13128 Q (F0 m 995 ls []) := by
  have E := K.E; have hx := E.1; have hb := E.2.1; have hLl := K.hL
  refine lv_aload_n hx hb dL_law_995 rfl (lv_at hl 2 rfl) ?_
  refine lv_aload_n hx hb dL_law_996 rfl (lv_at hl 3 rfl) ?_
  refine lv_iload_n hx hb dL_law_997 rfl (lv_at hl 0 rfl) ?_
  refine lv_iconst (v := 1) hx hb dL_law_998 rfl ?_
  refine lv_iadd hx hb dL_law_999 (lv_topi (fun v21 e21 => ?_))
  have e21i : v21.toInt = z + 1 := i_add e21 ez (by decide) (by omega) (by omega)
  refine va_sld hx hb K.hX K.hbl K.hbA hS (i_in e21i (by omega) (by omega)) dL_law_1000 ?_
  refine r_goI (r_runV (As := [.int (xs v21.toNatClampNeg)]) (rest := []) E hC hS (m_X11_most l X Γ H hC x1 K.g1 (xs v21.toNatClampNeg) (a1 := ((xs v21.toNatClampNeg) : Int32).toInt) rfl) lcw_X11_most lcl_118 K.g1 ⟨rfl, rfl⟩ rfl hl.1 rfl (Nat.zero_le _) (by decide) (by decide) (by decide) (by decide) dL_law_1001) hS (fun v22 H22 locs22 hp hC22 hS22 => ?_)
  obtain ⟨hp1, hp2a⟩ := hp
  have hMI : MI X H22 m1 ca := hMI.cl hC K.gca K.g2 hp1 rfl
  have hMR : mkI X H22 x1 = mmI X H22 m1 := (mk_kp hp1 K.g1 rfl).trans (hMR.trans (mm_kp hp1 K.g2 rfl).symm)
  have hFR : flI X H22 ra = tpdI X H22 m1 := (fl_kp hp1 K.gra rfl).trans (hFR.trans (tpd_kp hp1 K.g2 rfl).symm)
  have hSd := hSH; have hSH : SHP X Γ H22 x1 ta td nd := hSH.kp K.g1 hp1 rfl
  have hTr0 := hTR; have hNr0 := hNR; have hTm : TMm tm ts H H22 := TMm.kp0 hp1 K.gtm K.gts rfl; have hNm : NSm (nM na H) (nM na H22) := nM_kp0 hp1 K.gna rfl
  have hTc : TSm X td H H22 := TSm.kp TSm.rf hp1 hSH rfl; have hTR := hTR.same hTc hTm
  have hNc : NSm (nC nd H) (nC nd H22) := nC_kp NSm.rf hp1 hSH rfl; have hNR := hNR.same hTc hNc hNm
  have hpa := hp2a; have hCA := hC
  have hMO := (kp_R hp1 K.g1 (ci := 10) (k := 13) rfl (by decide) rfl).trans hMO; have hWK := (kp_R hp1 K.g2 (ci := 11) (k := 29) rfl (by decide) rfl).trans hWK
  have hWR0 := hWR; have hMm : MmK X H H22 m1 wk := MmK.kp0 hp1 K.g2 K.gwk rfl
  have hMc : MoK X H H22 mo := MoK.kp MoK.rf hp1 K.gmo rfl; have hWR := hWR.same hMc hMm
  have hC := hC22; have hS := hS22
  refine lv_pop hx hb dL_law_1004 rfl ?_
  refine lv_aload_n hx hb dL_law_1005 rfl (lv_at hl 1 rfl) ?_
  refine lv_aload_n hx hb dL_law_1006 rfl (lv_at hl 3 rfl) ?_
  refine lv_iload_n hx hb dL_law_1007 rfl (lv_at hl 0 rfl) ?_
  refine lv_iconst (v := 1) hx hb dL_law_1008 rfl ?_
  refine lv_iadd hx hb dL_law_1009 (lv_topi (fun v23 e23 => ?_))
  have e23i : v23.toInt = z + 1 := i_add e23 ez (by decide) (by omega) (by omega)
  have hq23 : v23 = v21 := e23.trans e21.symm
  refine va_sld hx hb K.hX K.hbl K.hbA hS (i_in e23i (by omega) (by omega)) dL_law_1010 ?_
  rw [hq23]
  refine r_goI (r_runV (As := [.int (xs v21.toNatClampNeg)]) (rest := []) E hC hS (m_X12_most l X Γ H22 hC m1 K.g2 (xs v21.toNatClampNeg) (a1 := ((xs v21.toNatClampNeg) : Int32).toInt) rfl ca K.gca K.uc) lcw_X12_most lcl_121 K.g2 ⟨rfl, rfl⟩ rfl hl.1 rfl (Nat.zero_le _) (by decide) (by decide) (by decide) (by decide) dL_law_1011) hS (fun v24 H24 locs24 hp hC24 hS24 => ?_)
  obtain ⟨hp1, hp2b⟩ := hp
  have hMI : MI X H24 m1 ca := hMI.kp hC K.gca K.g2 hp1 rfl rfl rfl
  have hMR : mkI X H24 x1 = mmI X H24 m1 := (mk_kp hp1 K.g1 rfl).trans (hMR.trans (mm_kp hp1 K.g2 rfl).symm)
  have hFR : flI X H24 ra = tpdI X H24 m1 := (fl_kp hp1 K.gra rfl).trans (hFR.trans (tpd_kp hp1 K.g2 rfl).symm)
  have hSd := hSH; have hSH : SHP X Γ H24 x1 ta td nd := hSH.kpM K.g1 hp1 rfl
  have hTc2 : TSm X td H22 H24 := TSm.kp1 hp1 hSH rfl; have hNc2 : NSm (nC nd H22) (nC nd H24) := nC_kp1 hp1 hSH rfl
  have hTrm := hTR; have hTm2 : TMm tm ts H22 H24 := TMm.kp TMm.rf hp1 K.gtm K.gts rfl; have hTR := hTR.same hTc2 hTm2
  have hpb := hp2b
  have hNm2 : NSm (nM na H22) (nM na H24) := nM_kp NSm.rf hp1 K.gna rfl; have hNrm := hNR; have hNR := hNR.same hTc2 hNc2 hNm2
  have hMO := (kp_R hp1 K.g1 (ci := 10) (k := 13) rfl (by decide) rfl).trans hMO; have hWK := (kp_R hp1 K.g2 (ci := 11) (k := 29) rfl (by decide) rfl).trans hWK
  have hMc2 : MoK X H22 H24 mo := MoK.kp1 hp1 K.gmo rfl
  have hWRm := hWR; have hWR := hWR.same hMc2 (MmK.kp MmK.rf hp1 K.g2 K.gwk rfl)
  have hC := hC24; have hS := hS24
  refine lv_pop hx hb dL_law_1014 rfl ?_
  refine lv_goto (tgt := 1667) hx hb dL_law_1015 rfl ?_
  exact hk _ _ hC hS hMI hMR hFR hSH hTR hNR hMO hWK hWR
set_option maxRecDepth 100000 in
set_option maxHeartbeats 4000000 in
theorem law_24 (l : Launch) {p : Program} {e : Env} {s : State} {m : MethodId} {below : List Frame} {meth : Method} {c : Code} {X : xW} {Γ : Nat → Option Nat} {b L : Nat} {xs : Nat → Int32} {x1 m1 ca ka oa ra ta tm ts na mo wk : Nat} {td nd : Nat → Nat} (K : LK p s m meth c X Γ b L xs x1 m1 ca ka oa ra tm ts na mo wk) {H : Heap} {locs : List Loc} {ls : Array Slot} {Q : State → Prop} {i : Int32} {z : Int} (ez : i.toInt = z) (h0z : 0 ≤ z) (hzL : z + 6 ≤ L) (hC : Conf X Γ H) (hS : va_S (AΓ Γ) s.heap H locs) (hMI : MI X H m1 ca) (hMR : mkI X H x1 = mmI X H m1) (hFR : flI X H ra = tpdI X H m1) (hSH : SHP X Γ H x1 ta td nd) (hTR : TRl X td tm ts H) (hNR : NRl X td nd na H) (hMO : sR H x1 (X.1.2 10 13) = some mo) (hWK : sR H m1 (X.1.2 11 29) = some wk) (hWR : WRl X H mo m1 wk) (hl : lv_has ls 4 [(3, .int i), (2, .ref m1), (1, .ref x1), (0, .ref b)]) (hk : ∀ (H1 : Heap) (locs1 : List Loc), Conf X Γ H1 → va_S (AΓ Γ) s.heap H1 locs1 → MI X H1 m1 ca → mkI X H1 x1 = mmI X H1 m1 → flI X H1 ra = tpdI X H1 m1 → SHP X Γ H1 x1 ta td nd → TRl X td tm ts H1 → NRl X td nd na H1 → sR H1 x1 (X.1.2 10 13) = some mo → sR H1 m1 (X.1.2 11 29) = some wk → WRl X H1 mo m1 wk → W p l e room_1 s m #[Value.ref b] below meth c H1 locs1 147 13128 Q (F0 m 1667 ls [])) : W p l e room_1 s m #[Value.ref b] below meth c H locs 147 13128 Q (F0 m 1018 ls []) := by
  have E := K.E; have hx := E.1; have hb := E.2.1; have hLl := K.hL
  refine lv_aload_n hx hb dL_law_1018 rfl (lv_at hl 2 rfl) ?_
  refine lv_aload_n hx hb dL_law_1019 rfl (lv_at hl 3 rfl) ?_
  refine lv_iload_n hx hb dL_law_1020 rfl (lv_at hl 0 rfl) ?_
  refine lv_iconst (v := 1) hx hb dL_law_1021 rfl ?_
  refine lv_iadd hx hb dL_law_1022 (lv_topi (fun v21 e21 => ?_))
  have e21i : v21.toInt = z + 1 := i_add e21 ez (by decide) (by omega) (by omega)
  refine va_sld hx hb K.hX K.hbl K.hbA hS (i_in e21i (by omega) (by omega)) dL_law_1023 ?_
  refine r_goI (r_runV (As := [.int (xs v21.toNatClampNeg)]) (rest := []) E hC hS (m_X11_lowest l X Γ H hC x1 K.g1 (xs v21.toNatClampNeg) (a1 := ((xs v21.toNatClampNeg) : Int32).toInt) rfl) lcw_X11_lowest lcl_122 K.g1 ⟨rfl, rfl⟩ rfl hl.1 rfl (Nat.zero_le _) (by decide) (by decide) (by decide) (by decide) dL_law_1024) hS (fun v22 H22 locs22 hp hC22 hS22 => ?_)
  obtain ⟨hp1, hp2a⟩ := hp
  have hMI : MI X H22 m1 ca := hMI.cl hC K.gca K.g2 hp1 rfl
  have hMR : mkI X H22 x1 = mmI X H22 m1 := (mk_kp hp1 K.g1 rfl).trans (hMR.trans (mm_kp hp1 K.g2 rfl).symm)
  have hFR : flI X H22 ra = tpdI X H22 m1 := (fl_kp hp1 K.gra rfl).trans (hFR.trans (tpd_kp hp1 K.g2 rfl).symm)
  have hSd := hSH; have hSH : SHP X Γ H22 x1 ta td nd := hSH.kp K.g1 hp1 rfl
  have hTr0 := hTR; have hNr0 := hNR; have hTm : TMm tm ts H H22 := TMm.kp0 hp1 K.gtm K.gts rfl; have hNm : NSm (nM na H) (nM na H22) := nM_kp0 hp1 K.gna rfl
  have hTc : TSm X td H H22 := TSm.kp TSm.rf hp1 hSH rfl; have hTR := hTR.same hTc hTm
  have hNc : NSm (nC nd H) (nC nd H22) := nC_kp NSm.rf hp1 hSH rfl; have hNR := hNR.same hTc hNc hNm
  have hpa := hp2a; have hCA := hC
  have hMO := (kp_R hp1 K.g1 (ci := 10) (k := 13) rfl (by decide) rfl).trans hMO; have hWK := (kp_R hp1 K.g2 (ci := 11) (k := 29) rfl (by decide) rfl).trans hWK
  have hWR0 := hWR; have hMm : MmK X H H22 m1 wk := MmK.kp0 hp1 K.g2 K.gwk rfl
  have hMc : MoK X H H22 mo := MoK.kp MoK.rf hp1 K.gmo rfl; have hWR := hWR.same hMc hMm
  have hC := hC22; have hS := hS22
  refine lv_pop hx hb dL_law_1027 rfl ?_
  refine lv_aload_n hx hb dL_law_1028 rfl (lv_at hl 1 rfl) ?_
  refine lv_aload_n hx hb dL_law_1029 rfl (lv_at hl 3 rfl) ?_
  refine lv_iload_n hx hb dL_law_1030 rfl (lv_at hl 0 rfl) ?_
  refine lv_iconst (v := 1) hx hb dL_law_1031 rfl ?_
  refine lv_iadd hx hb dL_law_1032 (lv_topi (fun v23 e23 => ?_))
  have e23i : v23.toInt = z + 1 := i_add e23 ez (by decide) (by omega) (by omega)
  have hq23 : v23 = v21 := e23.trans e21.symm
  refine va_sld hx hb K.hX K.hbl K.hbA hS (i_in e23i (by omega) (by omega)) dL_law_1033 ?_
  rw [hq23]
  refine r_goI (r_runV (As := [.int (xs v21.toNatClampNeg)]) (rest := []) E hC hS (m_X12_lowest l X Γ H22 hC m1 K.g2 (xs v21.toNatClampNeg) (a1 := ((xs v21.toNatClampNeg) : Int32).toInt) rfl ca K.gca K.uc) lcw_X12_lowest lcl_125 K.g2 ⟨rfl, rfl⟩ rfl hl.1 rfl (Nat.zero_le _) (by decide) (by decide) (by decide) (by decide) dL_law_1034) hS (fun v24 H24 locs24 hp hC24 hS24 => ?_)
  obtain ⟨hp1, hp2b⟩ := hp
  have hMI : MI X H24 m1 ca := hMI.kp hC K.gca K.g2 hp1 rfl rfl rfl
  have hMR : mkI X H24 x1 = mmI X H24 m1 := (mk_kp hp1 K.g1 rfl).trans (hMR.trans (mm_kp hp1 K.g2 rfl).symm)
  have hFR : flI X H24 ra = tpdI X H24 m1 := (fl_kp hp1 K.gra rfl).trans (hFR.trans (tpd_kp hp1 K.g2 rfl).symm)
  have hSd := hSH; have hSH : SHP X Γ H24 x1 ta td nd := hSH.kpM K.g1 hp1 rfl
  have hTc2 : TSm X td H22 H24 := TSm.kp1 hp1 hSH rfl; have hNc2 : NSm (nC nd H22) (nC nd H24) := nC_kp1 hp1 hSH rfl
  have hTrm := hTR; have hTm2 : TMm tm ts H22 H24 := TMm.kp TMm.rf hp1 K.gtm K.gts rfl; have hTR := hTR.same hTc2 hTm2
  have hpb := hp2b
  have hNm2 : NSm (nM na H22) (nM na H24) := nM_kp NSm.rf hp1 K.gna rfl; have hNrm := hNR; have hNR := hNR.same hTc2 hNc2 hNm2
  have hMO := (kp_R hp1 K.g1 (ci := 10) (k := 13) rfl (by decide) rfl).trans hMO; have hWK := (kp_R hp1 K.g2 (ci := 11) (k := 29) rfl (by decide) rfl).trans hWK
  have hMc2 : MoK X H22 H24 mo := MoK.kp1 hp1 K.gmo rfl
  have hWRm := hWR; have hWR := hWR.same hMc2 (MmK.kp MmK.rf hp1 K.g2 K.gwk rfl)
  have hC := hC24; have hS := hS24
  refine lv_pop hx hb dL_law_1037 rfl ?_
  refine lv_goto (tgt := 1667) hx hb dL_law_1038 rfl ?_
  exact hk _ _ hC hS hMI hMR hFR hSH hTR hNR hMO hWK hWR
set_option maxRecDepth 100000 in
set_option maxHeartbeats 4000000 in
theorem law_25 (l : Launch) {p : Program} {e : Env} {s : State} {m : MethodId} {below : List Frame} {meth : Method} {c : Code} {X : xW} {Γ : Nat → Option Nat} {b L : Nat} {xs : Nat → Int32} {x1 m1 ca ka oa ra ta tm ts na mo wk : Nat} {td nd : Nat → Nat} (K : LK p s m meth c X Γ b L xs x1 m1 ca ka oa ra tm ts na mo wk) {H : Heap} {locs : List Loc} {ls : Array Slot} {Q : State → Prop} {i : Int32} {z : Int} (ez : i.toInt = z) (h0z : 0 ≤ z) (hzL : z + 6 ≤ L) (hC : Conf X Γ H) (hS : va_S (AΓ Γ) s.heap H locs) (hMI : MI X H m1 ca) (hMR : mkI X H x1 = mmI X H m1) (hFR : flI X H ra = tpdI X H m1) (hSH : SHP X Γ H x1 ta td nd) (hTR : TRl X td tm ts H) (hNR : NRl X td nd na H) (hMO : sR H x1 (X.1.2 10 13) = some mo) (hWK : sR H m1 (X.1.2 11 29) = some wk) (hWR : WRl X H mo m1 wk) (hl : lv_has ls 4 [(3, .int i), (2, .ref m1), (1, .ref x1), (0, .ref b)]) (hk : ∀ (H1 : Heap) (locs1 : List Loc), Conf X Γ H1 → va_S (AΓ Γ) s.heap H1 locs1 → MI X H1 m1 ca → mkI X H1 x1 = mmI X H1 m1 → flI X H1 ra = tpdI X H1 m1 → SHP X Γ H1 x1 ta td nd → TRl X td tm ts H1 → NRl X td nd na H1 → sR H1 x1 (X.1.2 10 13) = some mo → sR H1 m1 (X.1.2 11 29) = some wk → WRl X H1 mo m1 wk → W p l e room_1 s m #[Value.ref b] below meth c H1 locs1 147 13128 Q (F0 m 1667 ls [])) : W p l e room_1 s m #[Value.ref b] below meth c H locs 147 13128 Q (F0 m 1041 ls []) := by
  have E := K.E; have hx := E.1; have hb := E.2.1; have hLl := K.hL
  refine lv_aload_n hx hb dL_law_1041 rfl (lv_at hl 2 rfl) ?_
  refine lv_aload_n hx hb dL_law_1042 rfl (lv_at hl 3 rfl) ?_
  refine lv_iload_n hx hb dL_law_1043 rfl (lv_at hl 0 rfl) ?_
  refine lv_iconst (v := 1) hx hb dL_law_1044 rfl ?_
  refine lv_iadd hx hb dL_law_1045 (lv_topi (fun v21 e21 => ?_))
  have e21i : v21.toInt = z + 1 := i_add e21 ez (by decide) (by omega) (by omega)
  refine va_sld hx hb K.hX K.hbl K.hbA hS (i_in e21i (by omega) (by omega)) dL_law_1046 ?_
  refine r_goI (r_runV (As := [.int (xs v21.toNatClampNeg)]) (rest := []) E hC hS (m_X11_highest l X Γ H hC x1 K.g1 (xs v21.toNatClampNeg) (a1 := ((xs v21.toNatClampNeg) : Int32).toInt) rfl) lcw_X11_highest lcl_126 K.g1 ⟨rfl, rfl⟩ rfl hl.1 rfl (Nat.zero_le _) (by decide) (by decide) (by decide) (by decide) dL_law_1047) hS (fun v22 H22 locs22 hp hC22 hS22 => ?_)
  obtain ⟨hp1, hp2a⟩ := hp
  have hMI : MI X H22 m1 ca := hMI.cl hC K.gca K.g2 hp1 rfl
  have hMR : mkI X H22 x1 = mmI X H22 m1 := (mk_kp hp1 K.g1 rfl).trans (hMR.trans (mm_kp hp1 K.g2 rfl).symm)
  have hFR : flI X H22 ra = tpdI X H22 m1 := (fl_kp hp1 K.gra rfl).trans (hFR.trans (tpd_kp hp1 K.g2 rfl).symm)
  have hSd := hSH; have hSH : SHP X Γ H22 x1 ta td nd := hSH.kp K.g1 hp1 rfl
  have hTr0 := hTR; have hNr0 := hNR; have hTm : TMm tm ts H H22 := TMm.kp0 hp1 K.gtm K.gts rfl; have hNm : NSm (nM na H) (nM na H22) := nM_kp0 hp1 K.gna rfl
  have hTc : TSm X td H H22 := TSm.kp TSm.rf hp1 hSH rfl; have hTR := hTR.same hTc hTm
  have hNc : NSm (nC nd H) (nC nd H22) := nC_kp NSm.rf hp1 hSH rfl; have hNR := hNR.same hTc hNc hNm
  have hpa := hp2a; have hCA := hC
  have hMO := (kp_R hp1 K.g1 (ci := 10) (k := 13) rfl (by decide) rfl).trans hMO; have hWK := (kp_R hp1 K.g2 (ci := 11) (k := 29) rfl (by decide) rfl).trans hWK
  have hWR0 := hWR; have hMm : MmK X H H22 m1 wk := MmK.kp0 hp1 K.g2 K.gwk rfl
  have hMc : MoK X H H22 mo := MoK.kp MoK.rf hp1 K.gmo rfl; have hWR := hWR.same hMc hMm
  have hC := hC22; have hS := hS22
  refine lv_pop hx hb dL_law_1050 rfl ?_
  refine lv_aload_n hx hb dL_law_1051 rfl (lv_at hl 1 rfl) ?_
  refine lv_aload_n hx hb dL_law_1052 rfl (lv_at hl 3 rfl) ?_
  refine lv_iload_n hx hb dL_law_1053 rfl (lv_at hl 0 rfl) ?_
  refine lv_iconst (v := 1) hx hb dL_law_1054 rfl ?_
  refine lv_iadd hx hb dL_law_1055 (lv_topi (fun v23 e23 => ?_))
  have e23i : v23.toInt = z + 1 := i_add e23 ez (by decide) (by omega) (by omega)
  have hq23 : v23 = v21 := e23.trans e21.symm
  refine va_sld hx hb K.hX K.hbl K.hbA hS (i_in e23i (by omega) (by omega)) dL_law_1056 ?_
  rw [hq23]
  refine r_goI (r_runV (As := [.int (xs v21.toNatClampNeg)]) (rest := []) E hC hS (m_X12_highest l X Γ H22 hC m1 K.g2 (xs v21.toNatClampNeg) (a1 := ((xs v21.toNatClampNeg) : Int32).toInt) rfl ca K.gca K.uc) lcw_X12_highest lcl_129 K.g2 ⟨rfl, rfl⟩ rfl hl.1 rfl (Nat.zero_le _) (by decide) (by decide) (by decide) (by decide) dL_law_1057) hS (fun v24 H24 locs24 hp hC24 hS24 => ?_)
  obtain ⟨hp1, hp2b⟩ := hp
  have hMI : MI X H24 m1 ca := hMI.kp hC K.gca K.g2 hp1 rfl rfl rfl
  have hMR : mkI X H24 x1 = mmI X H24 m1 := (mk_kp hp1 K.g1 rfl).trans (hMR.trans (mm_kp hp1 K.g2 rfl).symm)
  have hFR : flI X H24 ra = tpdI X H24 m1 := (fl_kp hp1 K.gra rfl).trans (hFR.trans (tpd_kp hp1 K.g2 rfl).symm)
  have hSd := hSH; have hSH : SHP X Γ H24 x1 ta td nd := hSH.kpM K.g1 hp1 rfl
  have hTc2 : TSm X td H22 H24 := TSm.kp1 hp1 hSH rfl; have hNc2 : NSm (nC nd H22) (nC nd H24) := nC_kp1 hp1 hSH rfl
  have hTrm := hTR; have hTm2 : TMm tm ts H22 H24 := TMm.kp TMm.rf hp1 K.gtm K.gts rfl; have hTR := hTR.same hTc2 hTm2
  have hpb := hp2b
  have hNm2 : NSm (nM na H22) (nM na H24) := nM_kp NSm.rf hp1 K.gna rfl; have hNrm := hNR; have hNR := hNR.same hTc2 hNc2 hNm2
  have hMO := (kp_R hp1 K.g1 (ci := 10) (k := 13) rfl (by decide) rfl).trans hMO; have hWK := (kp_R hp1 K.g2 (ci := 11) (k := 29) rfl (by decide) rfl).trans hWK
  have hMc2 : MoK X H22 H24 mo := MoK.kp1 hp1 K.gmo rfl
  have hWRm := hWR; have hWR := hWR.same hMc2 (MmK.kp MmK.rf hp1 K.g2 K.gwk rfl)
  have hC := hC24; have hS := hS24
  refine lv_pop hx hb dL_law_1060 rfl ?_
  refine lv_goto (tgt := 1667) hx hb dL_law_1061 rfl ?_
  exact hk _ _ hC hS hMI hMR hFR hSH hTR hNR hMO hWK hWR
set_option maxRecDepth 100000 in
set_option maxHeartbeats 4000000 in
theorem law_26 (l : Launch) {p : Program} {e : Env} {s : State} {m : MethodId} {below : List Frame} {meth : Method} {c : Code} {X : xW} {Γ : Nat → Option Nat} {b L : Nat} {xs : Nat → Int32} {x1 m1 ca ka oa ra ta tm ts na mo wk : Nat} {td nd : Nat → Nat} (K : LK p s m meth c X Γ b L xs x1 m1 ca ka oa ra tm ts na mo wk) {H : Heap} {locs : List Loc} {ls : Array Slot} {Q : State → Prop} {i : Int32} {z : Int} (ez : i.toInt = z) (h0z : 0 ≤ z) (hzL : z + 6 ≤ L) (hC : Conf X Γ H) (hS : va_S (AΓ Γ) s.heap H locs) (hMI : MI X H m1 ca) (hMR : mkI X H x1 = mmI X H m1) (hFR : flI X H ra = tpdI X H m1) (hSH : SHP X Γ H x1 ta td nd) (hTR : TRl X td tm ts H) (hNR : NRl X td nd na H) (hMO : sR H x1 (X.1.2 10 13) = some mo) (hWK : sR H m1 (X.1.2 11 29) = some wk) (hWR : WRl X H mo m1 wk) (hl : lv_has ls 4 [(3, .int i), (2, .ref m1), (1, .ref x1), (0, .ref b)]) (hk : ∀ (H1 : Heap) (locs1 : List Loc), Conf X Γ H1 → va_S (AΓ Γ) s.heap H1 locs1 → MI X H1 m1 ca → mkI X H1 x1 = mmI X H1 m1 → flI X H1 ra = tpdI X H1 m1 → SHP X Γ H1 x1 ta td nd → TRl X td tm ts H1 → NRl X td nd na H1 → sR H1 x1 (X.1.2 10 13) = some mo → sR H1 m1 (X.1.2 11 29) = some wk → WRl X H1 mo m1 wk → W p l e room_1 s m #[Value.ref b] below meth c H1 locs1 147 13128 Q (F0 m 1667 ls [])) : W p l e room_1 s m #[Value.ref b] below meth c H locs 147 13128 Q (F0 m 1064 ls []) := by
  have E := K.E; have hx := E.1; have hb := E.2.1; have hLl := K.hL
  refine lv_aload_n hx hb dL_law_1064 rfl (lv_at hl 2 rfl) ?_
  refine r_goI (r_runV (As := []) (rest := []) E hC hS (m_X11_steepest l X Γ H hC x1 K.g1) lcw_X11_steepest lcl_130 K.g1 ⟨rfl, rfl⟩ rfl hl.1 rfl (Nat.zero_le _) (by decide) (by decide) (by decide) (by decide) dL_law_1065) hS (fun v21 H21 locs21 hp hC21 hS21 => ?_)
  obtain ⟨hp1, hp2a⟩ := hp
  have hMI : MI X H21 m1 ca := hMI.cl hC K.gca K.g2 hp1 rfl
  have hMR : mkI X H21 x1 = mmI X H21 m1 := (mk_kp hp1 K.g1 rfl).trans (hMR.trans (mm_kp hp1 K.g2 rfl).symm)
  have hFR : flI X H21 ra = tpdI X H21 m1 := (fl_kp hp1 K.gra rfl).trans (hFR.trans (tpd_kp hp1 K.g2 rfl).symm)
  have hSd := hSH; have hSH : SHP X Γ H21 x1 ta td nd := hSH.kp K.g1 hp1 rfl
  have hTr0 := hTR; have hNr0 := hNR; have hTm : TMm tm ts H H21 := TMm.kp0 hp1 K.gtm K.gts rfl; have hNm : NSm (nM na H) (nM na H21) := nM_kp0 hp1 K.gna rfl
  have hTc : TSm X td H H21 := TSm.kp TSm.rf hp1 hSH rfl; have hTR := hTR.same hTc hTm
  have hNc : NSm (nC nd H) (nC nd H21) := nC_kp NSm.rf hp1 hSH rfl; have hNR := hNR.same hTc hNc hNm
  have hpa := hp2a; have hCA := hC
  have hMO := (kp_R hp1 K.g1 (ci := 10) (k := 13) rfl (by decide) rfl).trans hMO; have hWK := (kp_R hp1 K.g2 (ci := 11) (k := 29) rfl (by decide) rfl).trans hWK
  have hWR0 := hWR; have hMm : MmK X H H21 m1 wk := MmK.kp0 hp1 K.g2 K.gwk rfl
  have hMc : MoK X H H21 mo := MoK.kp MoK.rf hp1 K.gmo rfl; have hWR := hWR.same hMc hMm
  have hC := hC21; have hS := hS21
  refine lv_pop hx hb dL_law_1068 rfl ?_
  refine lv_aload_n hx hb dL_law_1069 rfl (lv_at hl 1 rfl) ?_
  refine r_goI (r_runV (As := []) (rest := []) E hC hS (m_X12_steepest l X Γ H21 hC m1 K.g2 ca K.gca K.uc) lcw_X12_steepest lcl_133 K.g2 ⟨rfl, rfl⟩ rfl hl.1 rfl (Nat.zero_le _) (by decide) (by decide) (by decide) (by decide) dL_law_1070) hS (fun v22 H22 locs22 hp hC22 hS22 => ?_)
  obtain ⟨hp1, hp2b⟩ := hp
  have hMI : MI X H22 m1 ca := hMI.kp hC K.gca K.g2 hp1 rfl rfl rfl
  have hMR : mkI X H22 x1 = mmI X H22 m1 := (mk_kp hp1 K.g1 rfl).trans (hMR.trans (mm_kp hp1 K.g2 rfl).symm)
  have hFR : flI X H22 ra = tpdI X H22 m1 := (fl_kp hp1 K.gra rfl).trans (hFR.trans (tpd_kp hp1 K.g2 rfl).symm)
  have hSd := hSH; have hSH : SHP X Γ H22 x1 ta td nd := hSH.kpM K.g1 hp1 rfl
  have hTc2 : TSm X td H21 H22 := TSm.kp1 hp1 hSH rfl; have hNc2 : NSm (nC nd H21) (nC nd H22) := nC_kp1 hp1 hSH rfl
  have hTrm := hTR; have hTm2 : TMm tm ts H21 H22 := TMm.kp TMm.rf hp1 K.gtm K.gts rfl; have hTR := hTR.same hTc2 hTm2
  have hpb := hp2b
  have hNm2 : NSm (nM na H21) (nM na H22) := nM_kp NSm.rf hp1 K.gna rfl; have hNrm := hNR; have hNR := hNR.same hTc2 hNc2 hNm2
  have hMO := (kp_R hp1 K.g1 (ci := 10) (k := 13) rfl (by decide) rfl).trans hMO; have hWK := (kp_R hp1 K.g2 (ci := 11) (k := 29) rfl (by decide) rfl).trans hWK
  have hMc2 : MoK X H21 H22 mo := MoK.kp1 hp1 K.gmo rfl
  have hWRm := hWR; have hWR := hWR.same hMc2 (MmK.kp MmK.rf hp1 K.g2 K.gwk rfl)
  have hC := hC22; have hS := hS22
  refine lv_pop hx hb dL_law_1073 rfl ?_
  refine lv_goto (tgt := 1667) hx hb dL_law_1074 rfl ?_
  exact hk _ _ hC hS hMI hMR hFR hSH hTR hNR hMO hWK hWR
set_option maxRecDepth 100000 in
set_option maxHeartbeats 4000000 in
theorem law_27 (l : Launch) {p : Program} {e : Env} {s : State} {m : MethodId} {below : List Frame} {meth : Method} {c : Code} {X : xW} {Γ : Nat → Option Nat} {b L : Nat} {xs : Nat → Int32} {x1 m1 ca ka oa ra ta tm ts na mo wk : Nat} {td nd : Nat → Nat} (K : LK p s m meth c X Γ b L xs x1 m1 ca ka oa ra tm ts na mo wk) {H : Heap} {locs : List Loc} {ls : Array Slot} {Q : State → Prop} {i : Int32} {z : Int} (ez : i.toInt = z) (h0z : 0 ≤ z) (hzL : z + 6 ≤ L) (hC : Conf X Γ H) (hS : va_S (AΓ Γ) s.heap H locs) (hMI : MI X H m1 ca) (hMR : mkI X H x1 = mmI X H m1) (hFR : flI X H ra = tpdI X H m1) (hSH : SHP X Γ H x1 ta td nd) (hTR : TRl X td tm ts H) (hNR : NRl X td nd na H) (hMO : sR H x1 (X.1.2 10 13) = some mo) (hWK : sR H m1 (X.1.2 11 29) = some wk) (hWR : WRl X H mo m1 wk) (hl : lv_has ls 4 [(3, .int i), (2, .ref m1), (1, .ref x1), (0, .ref b)]) (hk : ∀ (H1 : Heap) (locs1 : List Loc), Conf X Γ H1 → va_S (AΓ Γ) s.heap H1 locs1 → MI X H1 m1 ca → mkI X H1 x1 = mmI X H1 m1 → flI X H1 ra = tpdI X H1 m1 → SHP X Γ H1 x1 ta td nd → TRl X td tm ts H1 → NRl X td nd na H1 → sR H1 x1 (X.1.2 10 13) = some mo → sR H1 m1 (X.1.2 11 29) = some wk → WRl X H1 mo m1 wk → W p l e room_1 s m #[Value.ref b] below meth c H1 locs1 147 13128 Q (F0 m 1667 ls [])) : W p l e room_1 s m #[Value.ref b] below meth c H locs 147 13128 Q (F0 m 1077 ls []) := by
  have E := K.E; have hx := E.1; have hb := E.2.1; have hLl := K.hL
  refine lv_aload_n hx hb dL_law_1077 rfl (lv_at hl 2 rfl) ?_
  refine lv_aload_n hx hb dL_law_1078 rfl (lv_at hl 3 rfl) ?_
  refine lv_iload_n hx hb dL_law_1079 rfl (lv_at hl 0 rfl) ?_
  refine lv_iconst (v := 1) hx hb dL_law_1080 rfl ?_
  refine lv_iadd hx hb dL_law_1081 (lv_topi (fun v21 e21 => ?_))
  have e21i : v21.toInt = z + 1 := i_add e21 ez (by decide) (by omega) (by omega)
  refine va_sld hx hb K.hX K.hbl K.hbA hS (i_in e21i (by omega) (by omega)) dL_law_1082 ?_
  refine r_goI (r_runV (As := [.int (xs v21.toNatClampNeg)]) (rest := []) E hC hS (m_X11_level l X Γ H hC x1 K.g1 (xs v21.toNatClampNeg) (a1 := ((xs v21.toNatClampNeg) : Int32).toInt) rfl) lcw_X11_level lcl_134 K.g1 ⟨rfl, rfl⟩ rfl hl.1 rfl (Nat.zero_le _) (by decide) (by decide) (by decide) (by decide) dL_law_1083) hS (fun v22 H22 locs22 hp hC22 hS22 => ?_)
  obtain ⟨hp1, hp2a⟩ := hp
  have hMI : MI X H22 m1 ca := hMI.cl hC K.gca K.g2 hp1 rfl
  have hMR : mkI X H22 x1 = mmI X H22 m1 := (mk_kp hp1 K.g1 rfl).trans (hMR.trans (mm_kp hp1 K.g2 rfl).symm)
  have hFR : flI X H22 ra = tpdI X H22 m1 := (fl_kp hp1 K.gra rfl).trans (hFR.trans (tpd_kp hp1 K.g2 rfl).symm)
  have hSd := hSH; have hSH : SHP X Γ H22 x1 ta td nd := hSH.kp K.g1 hp1 rfl
  have hTr0 := hTR; have hNr0 := hNR; have hTm : TMm tm ts H H22 := TMm.kp0 hp1 K.gtm K.gts rfl; have hNm : NSm (nM na H) (nM na H22) := nM_kp0 hp1 K.gna rfl
  have hTc : TSm X td H H22 := TSm.kp TSm.rf hp1 hSH rfl; have hTR := hTR.same hTc hTm
  have hNc : NSm (nC nd H) (nC nd H22) := nC_kp NSm.rf hp1 hSH rfl; have hNR := hNR.same hTc hNc hNm
  have hpa := hp2a; have hCA := hC
  have hMO := (kp_R hp1 K.g1 (ci := 10) (k := 13) rfl (by decide) rfl).trans hMO; have hWK := (kp_R hp1 K.g2 (ci := 11) (k := 29) rfl (by decide) rfl).trans hWK
  have hWR0 := hWR; have hMm : MmK X H H22 m1 wk := MmK.kp0 hp1 K.g2 K.gwk rfl
  have hMc : MoK X H H22 mo := MoK.kp MoK.rf hp1 K.gmo rfl; have hWR := hWR.same hMc hMm
  have hC := hC22; have hS := hS22
  refine lv_pop hx hb dL_law_1086 rfl ?_
  refine lv_aload_n hx hb dL_law_1087 rfl (lv_at hl 1 rfl) ?_
  refine lv_aload_n hx hb dL_law_1088 rfl (lv_at hl 3 rfl) ?_
  refine lv_iload_n hx hb dL_law_1089 rfl (lv_at hl 0 rfl) ?_
  refine lv_iconst (v := 1) hx hb dL_law_1090 rfl ?_
  refine lv_iadd hx hb dL_law_1091 (lv_topi (fun v23 e23 => ?_))
  have e23i : v23.toInt = z + 1 := i_add e23 ez (by decide) (by omega) (by omega)
  have hq23 : v23 = v21 := e23.trans e21.symm
  refine va_sld hx hb K.hX K.hbl K.hbA hS (i_in e23i (by omega) (by omega)) dL_law_1092 ?_
  rw [hq23]
  refine r_goI (r_runV (As := [.int (xs v21.toNatClampNeg)]) (rest := []) E hC hS (m_X12_level l X Γ H22 hC m1 K.g2 (xs v21.toNatClampNeg) (a1 := ((xs v21.toNatClampNeg) : Int32).toInt) rfl ca K.gca K.uc hMI.c0.1 hMI.c0.2.1) lcw_X12_level lcl_137 K.g2 ⟨rfl, rfl⟩ rfl hl.1 rfl (Nat.zero_le _) (by decide) (by decide) (by decide) (by decide) dL_law_1093) hS (fun v24 H24 locs24 hp hC24 hS24 => ?_)
  obtain ⟨hp1, hp2b⟩ := hp
  have hMI : MI X H24 m1 ca := hMI.kp hC K.gca K.g2 hp1 rfl rfl rfl
  have hMR : mkI X H24 x1 = mmI X H24 m1 := (mk_kp hp1 K.g1 rfl).trans (hMR.trans (mm_kp hp1 K.g2 rfl).symm)
  have hFR : flI X H24 ra = tpdI X H24 m1 := (fl_kp hp1 K.gra rfl).trans (hFR.trans (tpd_kp hp1 K.g2 rfl).symm)
  have hSd := hSH; have hSH : SHP X Γ H24 x1 ta td nd := hSH.kpM K.g1 hp1 rfl
  have hTc2 : TSm X td H22 H24 := TSm.kp1 hp1 hSH rfl; have hNc2 : NSm (nC nd H22) (nC nd H24) := nC_kp1 hp1 hSH rfl
  have hTrm := hTR; have hTm2 : TMm tm ts H22 H24 := TMm.kp TMm.rf hp1 K.gtm K.gts rfl; have hTR := hTR.same hTc2 hTm2
  have hpb := hp2b
  have hNm2 : NSm (nM na H22) (nM na H24) := nM_kp NSm.rf hp1 K.gna rfl; have hNrm := hNR; have hNR := hNR.same hTc2 hNc2 hNm2
  have hMO := (kp_R hp1 K.g1 (ci := 10) (k := 13) rfl (by decide) rfl).trans hMO; have hWK := (kp_R hp1 K.g2 (ci := 11) (k := 29) rfl (by decide) rfl).trans hWK
  have hMc2 : MoK X H22 H24 mo := MoK.kp1 hp1 K.gmo rfl
  have hWRm := hWR; have hWR := hWR.same hMc2 (MmK.kp MmK.rf hp1 K.g2 K.gwk rfl)
  have hC := hC24; have hS := hS24
  refine lv_pop hx hb dL_law_1096 rfl ?_
  refine lv_goto (tgt := 1667) hx hb dL_law_1097 rfl ?_
  exact hk _ _ hC hS hMI hMR hFR hSH hTR hNR hMO hWK hWR
set_option maxRecDepth 100000 in
set_option maxHeartbeats 4000000 in
theorem law_28 (l : Launch) {p : Program} {e : Env} {s : State} {m : MethodId} {below : List Frame} {meth : Method} {c : Code} {X : xW} {Γ : Nat → Option Nat} {b L : Nat} {xs : Nat → Int32} {x1 m1 ca ka oa ra ta tm ts na mo wk : Nat} {td nd : Nat → Nat} (K : LK p s m meth c X Γ b L xs x1 m1 ca ka oa ra tm ts na mo wk) {H : Heap} {locs : List Loc} {ls : Array Slot} {Q : State → Prop} {i : Int32} {z : Int} (ez : i.toInt = z) (h0z : 0 ≤ z) (hzL : z + 6 ≤ L) (hC : Conf X Γ H) (hS : va_S (AΓ Γ) s.heap H locs) (hMI : MI X H m1 ca) (hMR : mkI X H x1 = mmI X H m1) (hFR : flI X H ra = tpdI X H m1) (hSH : SHP X Γ H x1 ta td nd) (hTR : TRl X td tm ts H) (hNR : NRl X td nd na H) (hMO : sR H x1 (X.1.2 10 13) = some mo) (hWK : sR H m1 (X.1.2 11 29) = some wk) (hWR : WRl X H mo m1 wk) (hl : lv_has ls 4 [(3, .int i), (2, .ref m1), (1, .ref x1), (0, .ref b)]) (hk : ∀ (H1 : Heap) (locs1 : List Loc), Conf X Γ H1 → va_S (AΓ Γ) s.heap H1 locs1 → MI X H1 m1 ca → mkI X H1 x1 = mmI X H1 m1 → flI X H1 ra = tpdI X H1 m1 → SHP X Γ H1 x1 ta td nd → TRl X td tm ts H1 → NRl X td nd na H1 → sR H1 x1 (X.1.2 10 13) = some mo → sR H1 m1 (X.1.2 11 29) = some wk → WRl X H1 mo m1 wk → W p l e room_1 s m #[Value.ref b] below meth c H1 locs1 147 13128 Q (F0 m 1667 ls [])) : W p l e room_1 s m #[Value.ref b] below meth c H locs 147 13128 Q (F0 m 1100 ls []) := by
  have E := K.E; have hx := E.1; have hb := E.2.1; have hLl := K.hL
  refine lv_aload_n hx hb dL_law_1100 rfl (lv_at hl 2 rfl) ?_
  refine r_goI (r_runV (As := []) (rest := []) E hC hS (m_X11_unlike l X Γ H hC x1 K.g1) lcw_X11_unlike lcl_138 K.g1 ⟨rfl, rfl⟩ rfl hl.1 rfl (Nat.zero_le _) (by decide) (by decide) (by decide) (by decide) dL_law_1101) hS (fun v21 H21 locs21 hp hC21 hS21 => ?_)
  obtain ⟨hp1, hp2a⟩ := hp
  have hMI : MI X H21 m1 ca := hMI.cl hC K.gca K.g2 hp1 rfl
  have hMR : mkI X H21 x1 = mmI X H21 m1 := (mk_kp hp1 K.g1 rfl).trans (hMR.trans (mm_kp hp1 K.g2 rfl).symm)
  have hFR : flI X H21 ra = tpdI X H21 m1 := (fl_kp hp1 K.gra rfl).trans (hFR.trans (tpd_kp hp1 K.g2 rfl).symm)
  have hSd := hSH; have hSH : SHP X Γ H21 x1 ta td nd := hSH.kp K.g1 hp1 rfl
  have hTr0 := hTR; have hNr0 := hNR; have hTm : TMm tm ts H H21 := TMm.kp0 hp1 K.gtm K.gts rfl; have hNm : NSm (nM na H) (nM na H21) := nM_kp0 hp1 K.gna rfl
  have hTc : TSm X td H H21 := TSm.kp TSm.rf hp1 hSH rfl; have hTR := hTR.same hTc hTm
  have hNc : NSm (nC nd H) (nC nd H21) := nC_kp NSm.rf hp1 hSH rfl; have hNR := hNR.same hTc hNc hNm
  have hpa := hp2a; have hCA := hC
  have hMO := (kp_R hp1 K.g1 (ci := 10) (k := 13) rfl (by decide) rfl).trans hMO; have hWK := (kp_R hp1 K.g2 (ci := 11) (k := 29) rfl (by decide) rfl).trans hWK
  have hWR0 := hWR; have hMm : MmK X H H21 m1 wk := MmK.kp0 hp1 K.g2 K.gwk rfl
  have hMc : MoK X H H21 mo := MoK.kp MoK.rf hp1 K.gmo rfl; have hWR := hWR.same hMc hMm
  have hC := hC21; have hS := hS21
  refine lv_pop hx hb dL_law_1104 rfl ?_
  refine lv_aload_n hx hb dL_law_1105 rfl (lv_at hl 1 rfl) ?_
  refine r_goI (r_runV (As := []) (rest := []) E hC hS (m_X12_unlike l X Γ H21 hC m1 K.g2 ca K.gca K.uc) lcw_X12_unlike lcl_141 K.g2 ⟨rfl, rfl⟩ rfl hl.1 rfl (Nat.zero_le _) (by decide) (by decide) (by decide) (by decide) dL_law_1106) hS (fun v22 H22 locs22 hp hC22 hS22 => ?_)
  obtain ⟨hp1, hp2b⟩ := hp
  have hMI : MI X H22 m1 ca := hMI.kp hC K.gca K.g2 hp1 rfl rfl rfl
  have hMR : mkI X H22 x1 = mmI X H22 m1 := (mk_kp hp1 K.g1 rfl).trans (hMR.trans (mm_kp hp1 K.g2 rfl).symm)
  have hFR : flI X H22 ra = tpdI X H22 m1 := (fl_kp hp1 K.gra rfl).trans (hFR.trans (tpd_kp hp1 K.g2 rfl).symm)
  have hSd := hSH; have hSH : SHP X Γ H22 x1 ta td nd := hSH.kpM K.g1 hp1 rfl
  have hTc2 : TSm X td H21 H22 := TSm.kp1 hp1 hSH rfl; have hNc2 : NSm (nC nd H21) (nC nd H22) := nC_kp1 hp1 hSH rfl
  have hTrm := hTR; have hTm2 : TMm tm ts H21 H22 := TMm.kp TMm.rf hp1 K.gtm K.gts rfl; have hTR := hTR.same hTc2 hTm2
  have hpb := hp2b
  have hNm2 : NSm (nM na H21) (nM na H22) := nM_kp NSm.rf hp1 K.gna rfl; have hNrm := hNR; have hNR := hNR.same hTc2 hNc2 hNm2
  have hMO := (kp_R hp1 K.g1 (ci := 10) (k := 13) rfl (by decide) rfl).trans hMO; have hWK := (kp_R hp1 K.g2 (ci := 11) (k := 29) rfl (by decide) rfl).trans hWK
  have hMc2 : MoK X H21 H22 mo := MoK.kp1 hp1 K.gmo rfl
  have hWRm := hWR; have hWR := hWR.same hMc2 (MmK.kp MmK.rf hp1 K.g2 K.gwk rfl)
  have hC := hC22; have hS := hS22
  refine lv_pop hx hb dL_law_1109 rfl ?_
  refine lv_goto (tgt := 1667) hx hb dL_law_1110 rfl ?_
  exact hk _ _ hC hS hMI hMR hFR hSH hTR hNR hMO hWK hWR
set_option maxRecDepth 100000 in
set_option maxHeartbeats 4000000 in
theorem law_29 (l : Launch) {p : Program} {e : Env} {s : State} {m : MethodId} {below : List Frame} {meth : Method} {c : Code} {X : xW} {Γ : Nat → Option Nat} {b L : Nat} {xs : Nat → Int32} {x1 m1 ca ka oa ra ta tm ts na mo wk : Nat} {td nd : Nat → Nat} (K : LK p s m meth c X Γ b L xs x1 m1 ca ka oa ra tm ts na mo wk) {H : Heap} {locs : List Loc} {ls : Array Slot} {Q : State → Prop} {i : Int32} {z : Int} (ez : i.toInt = z) (h0z : 0 ≤ z) (hzL : z + 6 ≤ L) (hC : Conf X Γ H) (hS : va_S (AΓ Γ) s.heap H locs) (hMI : MI X H m1 ca) (hMR : mkI X H x1 = mmI X H m1) (hFR : flI X H ra = tpdI X H m1) (hSH : SHP X Γ H x1 ta td nd) (hTR : TRl X td tm ts H) (hNR : NRl X td nd na H) (hMO : sR H x1 (X.1.2 10 13) = some mo) (hWK : sR H m1 (X.1.2 11 29) = some wk) (hWR : WRl X H mo m1 wk) (hl : lv_has ls 4 [(3, .int i), (2, .ref m1), (1, .ref x1), (0, .ref b)]) (hk : ∀ (H1 : Heap) (locs1 : List Loc), Conf X Γ H1 → va_S (AΓ Γ) s.heap H1 locs1 → MI X H1 m1 ca → mkI X H1 x1 = mmI X H1 m1 → flI X H1 ra = tpdI X H1 m1 → SHP X Γ H1 x1 ta td nd → TRl X td tm ts H1 → NRl X td nd na H1 → sR H1 x1 (X.1.2 10 13) = some mo → sR H1 m1 (X.1.2 11 29) = some wk → WRl X H1 mo m1 wk → W p l e room_1 s m #[Value.ref b] below meth c H1 locs1 147 13128 Q (F0 m 1667 ls [])) : W p l e room_1 s m #[Value.ref b] below meth c H locs 147 13128 Q (F0 m 1113 ls []) := by
  have E := K.E; have hx := E.1; have hb := E.2.1; have hLl := K.hL
  refine lv_aload_n hx hb dL_law_1113 rfl (lv_at hl 2 rfl) ?_
  refine lv_aload_n hx hb dL_law_1114 rfl (lv_at hl 3 rfl) ?_
  refine lv_iload_n hx hb dL_law_1115 rfl (lv_at hl 0 rfl) ?_
  refine lv_iconst (v := 1) hx hb dL_law_1116 rfl ?_
  refine lv_iadd hx hb dL_law_1117 (lv_topi (fun v21 e21 => ?_))
  have e21i : v21.toInt = z + 1 := i_add e21 ez (by decide) (by omega) (by omega)
  refine va_sld hx hb K.hX K.hbl K.hbA hS (i_in e21i (by omega) (by omega)) dL_law_1118 ?_
  refine lv_aload_n hx hb dL_law_1119 rfl (lv_at hl 3 rfl) ?_
  refine lv_iload_n hx hb dL_law_1120 rfl (lv_at hl 0 rfl) ?_
  refine lv_iconst (v := 2) hx hb dL_law_1121 rfl ?_
  refine lv_iadd hx hb dL_law_1122 (lv_topi (fun v22 e22 => ?_))
  have e22i : v22.toInt = z + 2 := i_add e22 ez (by decide) (by omega) (by omega)
  refine va_sld hx hb K.hX K.hbl K.hbA hS (i_in e22i (by omega) (by omega)) dL_law_1123 ?_
  refine lv_aload_n hx hb dL_law_1124 rfl (lv_at hl 3 rfl) ?_
  refine lv_iload_n hx hb dL_law_1125 rfl (lv_at hl 0 rfl) ?_
  refine lv_iconst (v := 3) hx hb dL_law_1126 rfl ?_
  refine lv_iadd hx hb dL_law_1127 (lv_topi (fun v23 e23 => ?_))
  have e23i : v23.toInt = z + 3 := i_add e23 ez (by decide) (by omega) (by omega)
  refine va_sld hx hb K.hX K.hbl K.hbA hS (i_in e23i (by omega) (by omega)) dL_law_1128 ?_
  refine r_goI (r_runV (As := [.int (xs v21.toNatClampNeg), .int (xs v22.toNatClampNeg), .int (xs v23.toNatClampNeg)]) (rest := []) E hC hS (m_X11_lasting l X Γ H hC x1 K.g1 (xs v21.toNatClampNeg) (a1 := ((xs v21.toNatClampNeg) : Int32).toInt) rfl (xs v22.toNatClampNeg) (a2 := ((xs v22.toNatClampNeg) : Int32).toInt) rfl (xs v23.toNatClampNeg) (a3 := ((xs v23.toNatClampNeg) : Int32).toInt) rfl) lcw_X11_lasting lcl_142 K.g1 ⟨rfl, rfl⟩ rfl hl.1 rfl (Nat.zero_le _) (by decide) (by decide) (by decide) (by decide) dL_law_1129) hS (fun v24 H24 locs24 hp hC24 hS24 => ?_)
  obtain ⟨hp1, hp2a⟩ := hp
  have hMI : MI X H24 m1 ca := hMI.cl hC K.gca K.g2 hp1 rfl
  have hMR : mkI X H24 x1 = mmI X H24 m1 := (mk_kp hp1 K.g1 rfl).trans (hMR.trans (mm_kp hp1 K.g2 rfl).symm)
  have hFR : flI X H24 ra = tpdI X H24 m1 := (fl_kp hp1 K.gra rfl).trans (hFR.trans (tpd_kp hp1 K.g2 rfl).symm)
  have hSd := hSH; have hSH : SHP X Γ H24 x1 ta td nd := hSH.kp K.g1 hp1 rfl
  have hTr0 := hTR; have hNr0 := hNR; have hTm : TMm tm ts H H24 := TMm.kp0 hp1 K.gtm K.gts rfl; have hNm : NSm (nM na H) (nM na H24) := nM_kp0 hp1 K.gna rfl
  have hTc : TSm X td H H24 := TSm.kp TSm.rf hp1 hSH rfl; have hTR := hTR.same hTc hTm
  have hNc : NSm (nC nd H) (nC nd H24) := nC_kp NSm.rf hp1 hSH rfl; have hNR := hNR.same hTc hNc hNm
  have hpa := hp2a; have hCA := hC
  have hMO := (kp_R hp1 K.g1 (ci := 10) (k := 13) rfl (by decide) rfl).trans hMO; have hWK := (kp_R hp1 K.g2 (ci := 11) (k := 29) rfl (by decide) rfl).trans hWK
  have hWR0 := hWR; have hMm : MmK X H H24 m1 wk := MmK.kp0 hp1 K.g2 K.gwk rfl
  have hMc : MoK X H H24 mo := MoK.kp MoK.rf hp1 K.gmo rfl; have hWR := hWR.same hMc hMm
  have hC := hC24; have hS := hS24
  refine lv_pop hx hb dL_law_1132 rfl ?_
  refine lv_aload_n hx hb dL_law_1133 rfl (lv_at hl 1 rfl) ?_
  refine lv_aload_n hx hb dL_law_1134 rfl (lv_at hl 3 rfl) ?_
  refine lv_iload_n hx hb dL_law_1135 rfl (lv_at hl 0 rfl) ?_
  refine lv_iconst (v := 1) hx hb dL_law_1136 rfl ?_
  refine lv_iadd hx hb dL_law_1137 (lv_topi (fun v25 e25 => ?_))
  have e25i : v25.toInt = z + 1 := i_add e25 ez (by decide) (by omega) (by omega)
  have hq25 : v25 = v21 := e25.trans e21.symm
  refine va_sld hx hb K.hX K.hbl K.hbA hS (i_in e25i (by omega) (by omega)) dL_law_1138 ?_
  rw [hq25]
  refine lv_aload_n hx hb dL_law_1139 rfl (lv_at hl 3 rfl) ?_
  refine lv_iload_n hx hb dL_law_1140 rfl (lv_at hl 0 rfl) ?_
  refine lv_iconst (v := 2) hx hb dL_law_1141 rfl ?_
  refine lv_iadd hx hb dL_law_1142 (lv_topi (fun v26 e26 => ?_))
  have e26i : v26.toInt = z + 2 := i_add e26 ez (by decide) (by omega) (by omega)
  have hq26 : v26 = v22 := e26.trans e22.symm
  refine va_sld hx hb K.hX K.hbl K.hbA hS (i_in e26i (by omega) (by omega)) dL_law_1143 ?_
  rw [hq26]
  refine lv_aload_n hx hb dL_law_1144 rfl (lv_at hl 3 rfl) ?_
  refine lv_iload_n hx hb dL_law_1145 rfl (lv_at hl 0 rfl) ?_
  refine lv_iconst (v := 3) hx hb dL_law_1146 rfl ?_
  refine lv_iadd hx hb dL_law_1147 (lv_topi (fun v27 e27 => ?_))
  have e27i : v27.toInt = z + 3 := i_add e27 ez (by decide) (by omega) (by omega)
  have hq27 : v27 = v23 := e27.trans e23.symm
  refine va_sld hx hb K.hX K.hbl K.hbA hS (i_in e27i (by omega) (by omega)) dL_law_1148 ?_
  rw [hq27]
  refine r_goI (r_runV (As := [.int (xs v21.toNatClampNeg), .int (xs v22.toNatClampNeg), .int (xs v23.toNatClampNeg)]) (rest := []) E hC hS (m_X12_lasting l X Γ H24 hC m1 K.g2 (xs v21.toNatClampNeg) (a1 := ((xs v21.toNatClampNeg) : Int32).toInt) rfl (xs v22.toNatClampNeg) (a2 := ((xs v22.toNatClampNeg) : Int32).toInt) rfl (xs v23.toNatClampNeg) (a3 := ((xs v23.toNatClampNeg) : Int32).toInt) rfl ca K.gca K.uc) lcw_X12_lasting lcl_145 K.g2 ⟨rfl, rfl⟩ rfl hl.1 rfl (Nat.zero_le _) (by decide) (by decide) (by decide) (by decide) dL_law_1149) hS (fun v28 H28 locs28 hp hC28 hS28 => ?_)
  obtain ⟨hp1, hp2b⟩ := hp
  have hMI : MI X H28 m1 ca := hMI.kp hC K.gca K.g2 hp1 rfl rfl rfl
  have hMR : mkI X H28 x1 = mmI X H28 m1 := (mk_kp hp1 K.g1 rfl).trans (hMR.trans (mm_kp hp1 K.g2 rfl).symm)
  have hFR : flI X H28 ra = tpdI X H28 m1 := (fl_kp hp1 K.gra rfl).trans (hFR.trans (tpd_kp hp1 K.g2 rfl).symm)
  have hSd := hSH; have hSH : SHP X Γ H28 x1 ta td nd := hSH.kpM K.g1 hp1 rfl
  have hTc2 : TSm X td H24 H28 := TSm.kp1 hp1 hSH rfl; have hNc2 : NSm (nC nd H24) (nC nd H28) := nC_kp1 hp1 hSH rfl
  have hTrm := hTR; have hTm2 : TMm tm ts H24 H28 := TMm.kp TMm.rf hp1 K.gtm K.gts rfl; have hTR := hTR.same hTc2 hTm2
  have hpb := hp2b
  have hNm2 : NSm (nM na H24) (nM na H28) := nM_kp NSm.rf hp1 K.gna rfl; have hNrm := hNR; have hNR := hNR.same hTc2 hNc2 hNm2
  have hMO := (kp_R hp1 K.g1 (ci := 10) (k := 13) rfl (by decide) rfl).trans hMO; have hWK := (kp_R hp1 K.g2 (ci := 11) (k := 29) rfl (by decide) rfl).trans hWK
  have hMc2 : MoK X H24 H28 mo := MoK.kp1 hp1 K.gmo rfl
  have hWRm := hWR; have hWR := hWR.same hMc2 (MmK.kp MmK.rf hp1 K.g2 K.gwk rfl)
  have hC := hC28; have hS := hS28
  refine lv_pop hx hb dL_law_1152 rfl ?_
  refine lv_goto (tgt := 1667) hx hb dL_law_1153 rfl ?_
  exact hk _ _ hC hS hMI hMR hFR hSH hTR hNR hMO hWK hWR
set_option maxRecDepth 100000 in
set_option maxHeartbeats 4000000 in
theorem law_30 (l : Launch) {p : Program} {e : Env} {s : State} {m : MethodId} {below : List Frame} {meth : Method} {c : Code} {X : xW} {Γ : Nat → Option Nat} {b L : Nat} {xs : Nat → Int32} {x1 m1 ca ka oa ra ta tm ts na mo wk : Nat} {td nd : Nat → Nat} (K : LK p s m meth c X Γ b L xs x1 m1 ca ka oa ra tm ts na mo wk) {H : Heap} {locs : List Loc} {ls : Array Slot} {Q : State → Prop} {i : Int32} {z : Int} (ez : i.toInt = z) (h0z : 0 ≤ z) (hzL : z + 6 ≤ L) (hC : Conf X Γ H) (hS : va_S (AΓ Γ) s.heap H locs) (hMI : MI X H m1 ca) (hMR : mkI X H x1 = mmI X H m1) (hFR : flI X H ra = tpdI X H m1) (hSH : SHP X Γ H x1 ta td nd) (hTR : TRl X td tm ts H) (hNR : NRl X td nd na H) (hMO : sR H x1 (X.1.2 10 13) = some mo) (hWK : sR H m1 (X.1.2 11 29) = some wk) (hWR : WRl X H mo m1 wk) (hl : lv_has ls 4 [(3, .int i), (2, .ref m1), (1, .ref x1), (0, .ref b)]) (hk : ∀ (H1 : Heap) (locs1 : List Loc), Conf X Γ H1 → va_S (AΓ Γ) s.heap H1 locs1 → MI X H1 m1 ca → mkI X H1 x1 = mmI X H1 m1 → flI X H1 ra = tpdI X H1 m1 → SHP X Γ H1 x1 ta td nd → TRl X td tm ts H1 → NRl X td nd na H1 → sR H1 x1 (X.1.2 10 13) = some mo → sR H1 m1 (X.1.2 11 29) = some wk → WRl X H1 mo m1 wk → W p l e room_1 s m #[Value.ref b] below meth c H1 locs1 147 13128 Q (F0 m 1667 ls [])) : W p l e room_1 s m #[Value.ref b] below meth c H locs 147 13128 Q (F0 m 1156 ls []) := by
  have E := K.E; have hx := E.1; have hb := E.2.1; have hLl := K.hL
  refine lv_aload_n hx hb dL_law_1156 rfl (lv_at hl 2 rfl) ?_
  refine r_goI (r_runV (As := []) (rest := []) E hC hS (m_X11_way l X Γ H hC x1 K.g1) lcw_X11_way lcl_146 K.g1 ⟨rfl, rfl⟩ rfl hl.1 rfl (Nat.zero_le _) (by decide) (by decide) (by decide) (by decide) dL_law_1157) hS (fun v21 H21 locs21 hp hC21 hS21 => ?_)
  obtain ⟨hp1, hp2a⟩ := hp
  have hMI : MI X H21 m1 ca := hMI.cl hC K.gca K.g2 hp1 rfl
  have hMR : mkI X H21 x1 = mmI X H21 m1 := (mk_kp hp1 K.g1 rfl).trans (hMR.trans (mm_kp hp1 K.g2 rfl).symm)
  have hFR : flI X H21 ra = tpdI X H21 m1 := (fl_kp hp1 K.gra rfl).trans (hFR.trans (tpd_kp hp1 K.g2 rfl).symm)
  have hSd := hSH; have hSH : SHP X Γ H21 x1 ta td nd := hSH.kp K.g1 hp1 rfl
  have hTr0 := hTR; have hNr0 := hNR; have hTm : TMm tm ts H H21 := TMm.kp0 hp1 K.gtm K.gts rfl; have hNm : NSm (nM na H) (nM na H21) := nM_kp0 hp1 K.gna rfl
  have hTc : TSm X td H H21 := TSm.kp TSm.rf hp1 hSH rfl; have hTR := hTR.same hTc hTm
  have hNc : NSm (nC nd H) (nC nd H21) := nC_kp NSm.rf hp1 hSH rfl; have hNR := hNR.same hTc hNc hNm
  have hpa := hp2a; have hCA := hC
  have hMO := (kp_R hp1 K.g1 (ci := 10) (k := 13) rfl (by decide) rfl).trans hMO; have hWK := (kp_R hp1 K.g2 (ci := 11) (k := 29) rfl (by decide) rfl).trans hWK
  have hWR0 := hWR; have hMm : MmK X H H21 m1 wk := MmK.kp0 hp1 K.g2 K.gwk rfl
  have hMc : MoK X H H21 mo := MoK.kp MoK.rf hp1 K.gmo rfl; have hWR := hWR.same hMc hMm
  have hC := hC21; have hS := hS21
  refine lv_pop hx hb dL_law_1160 rfl ?_
  refine lv_aload_n hx hb dL_law_1161 rfl (lv_at hl 1 rfl) ?_
  refine r_goI (r_runV (As := []) (rest := []) E hC hS (m_X12_way l X Γ H21 hC m1 K.g2 ca K.gca K.uc oa K.goa K.uo hMI.c0.1 hMI.c0.2.1) lcw_X12_way lcl_149 K.g2 ⟨rfl, rfl⟩ rfl hl.1 rfl (Nat.zero_le _) (by decide) (by decide) (by decide) (by decide) dL_law_1162) hS (fun v22 H22 locs22 hp hC22 hS22 => ?_)
  obtain ⟨hp1, hp2b⟩ := hp
  have hMI : MI X H22 m1 ca := hMI.kp hC K.gca K.g2 hp1 rfl rfl rfl
  have hMR : mkI X H22 x1 = mmI X H22 m1 := (mk_kp hp1 K.g1 rfl).trans (hMR.trans (mm_kp hp1 K.g2 rfl).symm)
  have hFR : flI X H22 ra = tpdI X H22 m1 := (fl_kp hp1 K.gra rfl).trans (hFR.trans (tpd_kp hp1 K.g2 rfl).symm)
  have hSd := hSH; have hSH : SHP X Γ H22 x1 ta td nd := hSH.kpM K.g1 hp1 rfl
  have hTc2 : TSm X td H21 H22 := TSm.kp1 hp1 hSH rfl; have hNc2 : NSm (nC nd H21) (nC nd H22) := nC_kp1 hp1 hSH rfl
  have hTrm := hTR; have hTm2 : TMm tm ts H21 H22 := TMm.kp TMm.rf hp1 K.gtm K.gts rfl; have hTR := hTR.same hTc2 hTm2
  have hpb := hp2b
  have hNm2 : NSm (nM na H21) (nM na H22) := nM_kp NSm.rf hp1 K.gna rfl; have hNrm := hNR; have hNR := hNR.same hTc2 hNc2 hNm2
  have hMO := (kp_R hp1 K.g1 (ci := 10) (k := 13) rfl (by decide) rfl).trans hMO; have hWK := (kp_R hp1 K.g2 (ci := 11) (k := 29) rfl (by decide) rfl).trans hWK
  have hMc2 : MoK X H21 H22 mo := MoK.kp1 hp1 K.gmo rfl
  have hWRm := hWR; have hWR := hWR.same hMc2 (MmK.kp MmK.rf hp1 K.g2 K.gwk rfl)
  have hC := hC22; have hS := hS22
  refine lv_pop hx hb dL_law_1165 rfl ?_
  refine lv_goto (tgt := 1667) hx hb dL_law_1166 rfl ?_
  exact hk _ _ hC hS hMI hMR hFR hSH hTR hNR hMO hWK hWR
set_option maxRecDepth 100000 in
set_option maxHeartbeats 4000000 in
theorem law_31 (l : Launch) {p : Program} {e : Env} {s : State} {m : MethodId} {below : List Frame} {meth : Method} {c : Code} {X : xW} {Γ : Nat → Option Nat} {b L : Nat} {xs : Nat → Int32} {x1 m1 ca ka oa ra ta tm ts na mo wk : Nat} {td nd : Nat → Nat} (K : LK p s m meth c X Γ b L xs x1 m1 ca ka oa ra tm ts na mo wk) {H : Heap} {locs : List Loc} {ls : Array Slot} {Q : State → Prop} {i : Int32} {z : Int} (ez : i.toInt = z) (h0z : 0 ≤ z) (hzL : z + 6 ≤ L) (hC : Conf X Γ H) (hS : va_S (AΓ Γ) s.heap H locs) (hMI : MI X H m1 ca) (hMR : mkI X H x1 = mmI X H m1) (hFR : flI X H ra = tpdI X H m1) (hSH : SHP X Γ H x1 ta td nd) (hTR : TRl X td tm ts H) (hNR : NRl X td nd na H) (hMO : sR H x1 (X.1.2 10 13) = some mo) (hWK : sR H m1 (X.1.2 11 29) = some wk) (hWR : WRl X H mo m1 wk) (hl : lv_has ls 4 [(3, .int i), (2, .ref m1), (1, .ref x1), (0, .ref b)]) (hk : ∀ (H1 : Heap) (locs1 : List Loc), Conf X Γ H1 → va_S (AΓ Γ) s.heap H1 locs1 → MI X H1 m1 ca → mkI X H1 x1 = mmI X H1 m1 → flI X H1 ra = tpdI X H1 m1 → SHP X Γ H1 x1 ta td nd → TRl X td tm ts H1 → NRl X td nd na H1 → sR H1 x1 (X.1.2 10 13) = some mo → sR H1 m1 (X.1.2 11 29) = some wk → WRl X H1 mo m1 wk → W p l e room_1 s m #[Value.ref b] below meth c H1 locs1 147 13128 Q (F0 m 1667 ls [])) : W p l e room_1 s m #[Value.ref b] below meth c H locs 147 13128 Q (F0 m 1169 ls []) := by
  have E := K.E; have hx := E.1; have hb := E.2.1; have hLl := K.hL
  refine lv_aload_n hx hb dL_law_1169 rfl (lv_at hl 2 rfl) ?_
  refine lv_aload_n hx hb dL_law_1170 rfl (lv_at hl 3 rfl) ?_
  refine lv_iload_n hx hb dL_law_1171 rfl (lv_at hl 0 rfl) ?_
  refine lv_iconst (v := 1) hx hb dL_law_1172 rfl ?_
  refine lv_iadd hx hb dL_law_1173 (lv_topi (fun v21 e21 => ?_))
  have e21i : v21.toInt = z + 1 := i_add e21 ez (by decide) (by omega) (by omega)
  refine va_sld hx hb K.hX K.hbl K.hbA hS (i_in e21i (by omega) (by omega)) dL_law_1174 ?_
  refine lv_aload_n hx hb dL_law_1175 rfl (lv_at hl 3 rfl) ?_
  refine lv_iload_n hx hb dL_law_1176 rfl (lv_at hl 0 rfl) ?_
  refine lv_iconst (v := 2) hx hb dL_law_1177 rfl ?_
  refine lv_iadd hx hb dL_law_1178 (lv_topi (fun v22 e22 => ?_))
  have e22i : v22.toInt = z + 2 := i_add e22 ez (by decide) (by omega) (by omega)
  refine va_sld hx hb K.hX K.hbl K.hbA hS (i_in e22i (by omega) (by omega)) dL_law_1179 ?_
  refine r_goI (r_runV (As := [.int (xs v21.toNatClampNeg), .int (xs v22.toNatClampNeg)]) (rest := []) E hC hS (m_X11_wayAt l X Γ H hC x1 K.g1 (xs v21.toNatClampNeg) (a1 := ((xs v21.toNatClampNeg) : Int32).toInt) rfl (xs v22.toNatClampNeg) (a2 := ((xs v22.toNatClampNeg) : Int32).toInt) rfl) lcw_X11_wayAt lcl_150 K.g1 ⟨rfl, rfl⟩ rfl hl.1 rfl (Nat.zero_le _) (by decide) (by decide) (by decide) (by decide) dL_law_1180) hS (fun v23 H23 locs23 hp hC23 hS23 => ?_)
  obtain ⟨hp1, hp2a⟩ := hp
  have hMI : MI X H23 m1 ca := hMI.cl hC K.gca K.g2 hp1 rfl
  have hMR : mkI X H23 x1 = mmI X H23 m1 := (mk_kp hp1 K.g1 rfl).trans (hMR.trans (mm_kp hp1 K.g2 rfl).symm)
  have hFR : flI X H23 ra = tpdI X H23 m1 := (fl_kp hp1 K.gra rfl).trans (hFR.trans (tpd_kp hp1 K.g2 rfl).symm)
  have hSd := hSH; have hSH : SHP X Γ H23 x1 ta td nd := hSH.kp K.g1 hp1 rfl
  have hTr0 := hTR; have hNr0 := hNR; have hTm : TMm tm ts H H23 := TMm.kp0 hp1 K.gtm K.gts rfl; have hNm : NSm (nM na H) (nM na H23) := nM_kp0 hp1 K.gna rfl
  have hTc : TSm X td H H23 := TSm.kp TSm.rf hp1 hSH rfl; have hTR := hTR.same hTc hTm
  have hNc : NSm (nC nd H) (nC nd H23) := nC_kp NSm.rf hp1 hSH rfl; have hNR := hNR.same hTc hNc hNm
  have hpa := hp2a; have hCA := hC
  have hMO := (kp_R hp1 K.g1 (ci := 10) (k := 13) rfl (by decide) rfl).trans hMO; have hWK := (kp_R hp1 K.g2 (ci := 11) (k := 29) rfl (by decide) rfl).trans hWK
  have hWR0 := hWR; have hMm : MmK X H H23 m1 wk := MmK.kp0 hp1 K.g2 K.gwk rfl
  have hMc : MoK X H H23 mo := MoK.kp MoK.rf hp1 K.gmo rfl; have hWR := hWR.same hMc hMm
  have hC := hC23; have hS := hS23
  refine lv_pop hx hb dL_law_1183 rfl ?_
  refine lv_aload_n hx hb dL_law_1184 rfl (lv_at hl 1 rfl) ?_
  refine lv_aload_n hx hb dL_law_1185 rfl (lv_at hl 3 rfl) ?_
  refine lv_iload_n hx hb dL_law_1186 rfl (lv_at hl 0 rfl) ?_
  refine lv_iconst (v := 1) hx hb dL_law_1187 rfl ?_
  refine lv_iadd hx hb dL_law_1188 (lv_topi (fun v24 e24 => ?_))
  have e24i : v24.toInt = z + 1 := i_add e24 ez (by decide) (by omega) (by omega)
  have hq24 : v24 = v21 := e24.trans e21.symm
  refine va_sld hx hb K.hX K.hbl K.hbA hS (i_in e24i (by omega) (by omega)) dL_law_1189 ?_
  rw [hq24]
  refine lv_aload_n hx hb dL_law_1190 rfl (lv_at hl 3 rfl) ?_
  refine lv_iload_n hx hb dL_law_1191 rfl (lv_at hl 0 rfl) ?_
  refine lv_iconst (v := 2) hx hb dL_law_1192 rfl ?_
  refine lv_iadd hx hb dL_law_1193 (lv_topi (fun v25 e25 => ?_))
  have e25i : v25.toInt = z + 2 := i_add e25 ez (by decide) (by omega) (by omega)
  have hq25 : v25 = v22 := e25.trans e22.symm
  refine va_sld hx hb K.hX K.hbl K.hbA hS (i_in e25i (by omega) (by omega)) dL_law_1194 ?_
  rw [hq25]
  refine r_goI (r_runV (As := [.int (xs v21.toNatClampNeg), .int (xs v22.toNatClampNeg)]) (rest := []) E hC hS (m_X12_wayAt l X Γ H23 hC m1 K.g2 (xs v21.toNatClampNeg) (a1 := ((xs v21.toNatClampNeg) : Int32).toInt) rfl (xs v22.toNatClampNeg) (a2 := ((xs v22.toNatClampNeg) : Int32).toInt) rfl ca K.gca K.uc) lcw_X12_wayAt lcl_153 K.g2 ⟨rfl, rfl⟩ rfl hl.1 rfl (Nat.zero_le _) (by decide) (by decide) (by decide) (by decide) dL_law_1195) hS (fun v26 H26 locs26 hp hC26 hS26 => ?_)
  obtain ⟨hp1, hp2b⟩ := hp
  have hMI : MI X H26 m1 ca := hMI.kp hC K.gca K.g2 hp1 rfl rfl rfl
  have hMR : mkI X H26 x1 = mmI X H26 m1 := (mk_kp hp1 K.g1 rfl).trans (hMR.trans (mm_kp hp1 K.g2 rfl).symm)
  have hFR : flI X H26 ra = tpdI X H26 m1 := (fl_kp hp1 K.gra rfl).trans (hFR.trans (tpd_kp hp1 K.g2 rfl).symm)
  have hSd := hSH; have hSH : SHP X Γ H26 x1 ta td nd := hSH.kpM K.g1 hp1 rfl
  have hTc2 : TSm X td H23 H26 := TSm.kp1 hp1 hSH rfl; have hNc2 : NSm (nC nd H23) (nC nd H26) := nC_kp1 hp1 hSH rfl
  have hTrm := hTR; have hTm2 : TMm tm ts H23 H26 := TMm.kp TMm.rf hp1 K.gtm K.gts rfl; have hTR := hTR.same hTc2 hTm2
  have hpb := hp2b
  have hNm2 : NSm (nM na H23) (nM na H26) := nM_kp NSm.rf hp1 K.gna rfl; have hNrm := hNR; have hNR := hNR.same hTc2 hNc2 hNm2
  have hMO := (kp_R hp1 K.g1 (ci := 10) (k := 13) rfl (by decide) rfl).trans hMO; have hWK := (kp_R hp1 K.g2 (ci := 11) (k := 29) rfl (by decide) rfl).trans hWK
  have hMc2 : MoK X H23 H26 mo := MoK.kp1 hp1 K.gmo rfl
  have hWRm := hWR; have hWR := hWR.same hMc2 (MmK.kp MmK.rf hp1 K.g2 K.gwk rfl)
  have hC := hC26; have hS := hS26
  refine lv_pop hx hb dL_law_1198 rfl ?_
  refine lv_goto (tgt := 1667) hx hb dL_law_1199 rfl ?_
  exact hk _ _ hC hS hMI hMR hFR hSH hTR hNR hMO hWK hWR
