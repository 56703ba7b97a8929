set_option maxRecDepth 100000 in
set_option maxHeartbeats 8000000 in
theorem law_loop (l : Launch) {p : Program} {e : Env} {s : State} {m : MethodId} {below : List Frame} {meth : Method} {c : Code} {X : xW} {Γ : Nat → Option Nat} {b L : Nat} {xs : Nat → Int32} {x1 m1 ca ka oa ra ta tm ts na mo wk : Nat} {td nd : Nat → Nat} (K : LK p s m meth c X Γ b L xs x1 m1 ca ka oa ra tm ts na mo wk) : ∀ (n : Nat) (H : Heap) (locs : List Loc) (ls : Array Slot) (i : Int32) (z : Int), ((L : Int) - z + 6).toNat < n → i.toInt = z → 0 ≤ z → z ≤ L → Conf X Γ H → va_S (AΓ Γ) s.heap H locs → MI X H m1 ca → mkI X H x1 = mmI X H m1 → flI X H ra = tpdI X H m1 → SHP X Γ H x1 ta td nd → TRl X td tm ts H → NRl X td nd na H → sR H x1 (X.1.2 10 13) = some mo → sR H m1 (X.1.2 11 29) = some wk → WRl X H mo m1 wk → lv_has ls 4 [(3, .int i), (2, .ref m1), (1, .ref x1), (0, .ref b)] → W p l e room_1 s m #[Value.ref b] below meth c H locs 147 13128 (lw_Z below #[Value.ref b] s) (F0 m 18 ls []) := by
  intro n
  induction n with
  | zero => intro H locs ls i z hm; exact absurd hm (Nat.not_lt_zero _)
  | succ n ih =>
    intro H locs ls i z hm ez h0z hzl hC hS hMI hMR hFR hSH hTR hNR hMO hWK hWR hl
    have E := K.E; have hx := E.1; have hb := E.2.1; have hLl := K.hL
    have hLi : (Int32.ofNat L).toInt = (L : Int) := nI_toInt (by omega)
    refine lv_iload_n hx hb dL_law_18 rfl (lv_at hl 0 rfl) ?_
    refine lv_aload_n hx hb dL_law_19 rfl (lv_at hl 3 rfl) ?_
    refine va_slen hx hb K.hX K.hbl K.hbA hS dL_law_20 ?_
    refine lv_bipush (v := 6) hx hb dL_law_21 rfl ?_
    refine lv_isub hx hb dL_law_23 (lv_topi (fun v1 e1 => ?_))
    have e1i : v1.toInt = (L : Int) - 6 := i_sub e1 hLi (by decide) (by omega) (by omega)
    refine q_icmp_gt hx hb (a := z) (b := (L : Int) - 6) ez e1i (tgt := 1673) dL_law_24 rfl (fun c1 => ?_) (fun c1 => ?_)
    · refine lv_iconst (v := 1) hx hb dL_law_1673 rfl ?_
      exact va_forget (fun q hq => (K.hA _).mp (hS.2.2 q hq)) (W.widen (by decide) (by decide) (lw_ret hx hb E.2.2.2.2.2.2.2 E.2.2.2.2.2.2.1 dL_law_1674))
    have hk : ∀ (H1 : Heap) (locs1 : List Loc), Conf X Γ H1 → va_S (AΓ Γ) s.heap H1 locs1 → MI X H1 m1 ca → mkI X H1 x1 = mmI X H1 m1 → flI X H1 ra = tpdI X H1 m1 → SHP X Γ H1 x1 ta td nd → TRl X td tm ts H1 → NRl X td nd na H1 → sR H1 x1 (X.1.2 10 13) = some mo → sR H1 m1 (X.1.2 11 29) = some wk → WRl X H1 mo m1 wk → W p l e room_1 s m #[Value.ref b] below meth c H1 locs1 147 13128 (lw_Z below #[Value.ref b] s) (F0 m 1667 ls []) := by
      intro H1 locs1 hC1 hS1 hM1 hR1 hF1 hSH1 hT1 hN1 hMO1 hWK1 hWR1
      obtain ⟨w, ew⟩ : ∃ w, w = i + Int32.ofInt 6 := ⟨_, rfl⟩
      have ewi : w.toInt = z + 6 := i_add ew ez (by decide) (by omega) (by omega)
      refine lv_iinc hx hb dL_law_1667 hl (k := 0) rfl ew.symm (by decide) rfl (fun ls hl => ?_)
      refine lv_goto (tgt := 18) hx hb dL_law_1670 rfl ?_
      exact ih H1 locs1 ls w (z + 6) (by omega) ewi (by omega) (by omega) hC1 hS1 hM1 hR1 hF1 hSH1 hT1 hN1 hMO1 hWK1 hWR1 (lv_sub hl [0, 1, 2, 3] rfl)
    refine lv_aload_n hx hb dL_law_27 rfl (lv_at hl 3 rfl) ?_
    refine lv_iload_n hx hb dL_law_28 rfl (lv_at hl 0 rfl) ?_
    refine va_sld hx hb K.hX K.hbl K.hbA hS (i_in ez h0z (by omega)) dL_law_29 ?_
    refine lv_bipush (v := 63) hx hb dL_law_30 rfl ?_
    refine lv_iand hx hb dL_law_32 (lv_topi (fun v2 e2 => ?_))
    by_cases c_0 : v2.toInt = 0
    · refine lv_tableIn hx hb dL_law_33 (by rw [c_0]; decide) (by rw [c_0]; decide) (off := 203) (by rw [c_0]; rfl) (tgt := 236) rfl ?_
      exact law_0 l K ez h0z (by omega) hC hS hMI hMR hFR hSH hTR hNR hMO hWK hWR hl hk
    by_cases c_1 : v2.toInt = 1
    · refine lv_tableIn hx hb dL_law_33 (by rw [c_1]; decide) (by rw [c_1]; decide) (off := 216) (by rw [c_1]; rfl) (tgt := 249) rfl ?_
      exact law_1 l K ez h0z (by omega) hC hS hMI hMR hFR hSH hTR hNR hMO hWK hWR hl hk
    by_cases c_2 : v2.toInt = 2
    · refine lv_tableIn hx hb dL_law_33 (by rw [c_2]; decide) (by rw [c_2]; decide) (off := 229) (by rw [c_2]; rfl) (tgt := 262) rfl ?_
      exact law_2 l K ez h0z (by omega) hC hS hMI hMR hFR hSH hTR hNR hMO hWK hWR hl hk
    by_cases c_3 : v2.toInt = 3
    · refine lv_tableIn hx hb dL_law_33 (by rw [c_3]; decide) (by rw [c_3]; decide) (off := 242) (by rw [c_3]; rfl) (tgt := 275) rfl ?_
      exact law_3 l K ez h0z (by omega) hC hS hMI hMR hFR hSH hTR hNR hMO hWK hWR hl hk
    by_cases c_4 : v2.toInt = 4
    · refine lv_tableIn hx hb dL_law_33 (by rw [c_4]; decide) (by rw [c_4]; decide) (off := 285) (by rw [c_4]; rfl) (tgt := 318) rfl ?_
      exact law_4 l K ez h0z (by omega) hC hS hMI hMR hFR hSH hTR hNR hMO hWK hWR hl hk
    by_cases c_5 : v2.toInt = 5
    · refine lv_tableIn hx hb dL_law_33 (by rw [c_5]; decide) (by rw [c_5]; decide) (off := 358) (by rw [c_5]; rfl) (tgt := 391) rfl ?_
      exact law_5 l K ez h0z (by omega) hC hS hMI hMR hFR hSH hTR hNR hMO hWK hWR hl hk
    by_cases c_6 : v2.toInt = 6
    · refine lv_tableIn hx hb dL_law_33 (by rw [c_6]; decide) (by rw [c_6]; decide) (off := 391) (by rw [c_6]; rfl) (tgt := 424) rfl ?_
      exact law_6 l K ez h0z (by omega) hC hS hMI hMR hFR hSH hTR hNR hMO hWK hWR hl hk
    by_cases c_7 : v2.toInt = 7
    · refine lv_tableIn hx hb dL_law_33 (by rw [c_7]; decide) (by rw [c_7]; decide) (off := 454) (by rw [c_7]; rfl) (tgt := 487) rfl ?_
      exact law_7 l K ez h0z (by omega) hC hS hMI hMR hFR hSH hTR hNR hMO hWK hWR hl hk
    by_cases c_8 : v2.toInt = 8
    · refine lv_tableIn hx hb dL_law_33 (by rw [c_8]; decide) (by rw [c_8]; decide) (off := 517) (by rw [c_8]; rfl) (tgt := 550) rfl ?_
      exact law_8 l K ez h0z (by omega) hC hS hMI hMR hFR hSH hTR hNR hMO hWK hWR hl hk
    by_cases c_9 : v2.toInt = 9
    · refine lv_tableIn hx hb dL_law_33 (by rw [c_9]; decide) (by rw [c_9]; decide) (off := 540) (by rw [c_9]; rfl) (tgt := 573) rfl ?_
      exact law_9 l K ez h0z (by omega) hC hS hMI hMR hFR hSH hTR hNR hMO hWK hWR hl hk
    by_cases c_10 : v2.toInt = 10
    · refine lv_tableIn hx hb dL_law_33 (by rw [c_10]; decide) (by rw [c_10]; decide) (off := 563) (by rw [c_10]; rfl) (tgt := 596) rfl ?_
      exact law_10 l K ez h0z (by omega) hC hS hMI hMR hFR hSH hTR hNR hMO hWK hWR hl hk
    by_cases c_11 : v2.toInt = 11
    · refine lv_tableIn hx hb dL_law_33 (by rw [c_11]; decide) (by rw [c_11]; decide) (off := 586) (by rw [c_11]; rfl) (tgt := 619) rfl ?_
      exact law_11 l K ez h0z (by omega) hC hS hMI hMR hFR hSH hTR hNR hMO hWK hWR hl hk
    by_cases c_12 : v2.toInt = 12
    · refine lv_tableIn hx hb dL_law_33 (by rw [c_12]; decide) (by rw [c_12]; decide) (off := 609) (by rw [c_12]; rfl) (tgt := 642) rfl ?_
      exact law_12 l K ez h0z (by omega) hC hS hMI hMR hFR hSH hTR hNR hMO hWK hWR hl hk
    by_cases c_13 : v2.toInt = 13
    · refine lv_tableIn hx hb dL_law_33 (by rw [c_13]; decide) (by rw [c_13]; decide) (off := 652) (by rw [c_13]; rfl) (tgt := 685) rfl ?_
      exact law_13 l K ez h0z (by omega) hC hS hMI hMR hFR hSH hTR hNR hMO hWK hWR hl hk
    by_cases c_14 : v2.toInt = 14
    · refine lv_tableIn hx hb dL_law_33 (by rw [c_14]; decide) (by rw [c_14]; decide) (off := 685) (by rw [c_14]; rfl) (tgt := 718) rfl ?_
      exact law_14 l K ez h0z (by omega) hC hS hMI hMR hFR hSH hTR hNR hMO hWK hWR hl hk
    by_cases c_15 : v2.toInt = 15
    · refine lv_tableIn hx hb dL_law_33 (by rw [c_15]; decide) (by rw [c_15]; decide) (off := 708) (by rw [c_15]; rfl) (tgt := 741) rfl ?_
      exact law_15 l K ez h0z (by omega) hC hS hMI hMR hFR hSH hTR hNR hMO hWK hWR hl hk
    by_cases c_16 : v2.toInt = 16
    · refine lv_tableIn hx hb dL_law_33 (by rw [c_16]; decide) (by rw [c_16]; decide) (off := 731) (by rw [c_16]; rfl) (tgt := 764) rfl ?_
      exact law_16 l K ez h0z (by omega) hC hS hMI hMR hFR hSH hTR hNR hMO hWK hWR hl hk
    by_cases c_17 : v2.toInt = 17
    · refine lv_tableIn hx hb dL_law_33 (by rw [c_17]; decide) (by rw [c_17]; decide) (off := 754) (by rw [c_17]; rfl) (tgt := 787) rfl ?_
      exact law_17 l K ez h0z (by omega) hC hS hMI hMR hFR hSH hTR hNR hMO hWK hWR hl hk
    by_cases c_18 : v2.toInt = 18
    · refine lv_tableIn hx hb dL_law_33 (by rw [c_18]; decide) (by rw [c_18]; decide) (off := 777) (by rw [c_18]; rfl) (tgt := 810) rfl ?_
      exact law_18 l K ez h0z (by omega) hC hS hMI hMR hFR hSH hTR hNR hMO hWK hWR hl hk
    by_cases c_19 : v2.toInt = 19
    · refine lv_tableIn hx hb dL_law_33 (by rw [c_19]; decide) (by rw [c_19]; decide) (off := 820) (by rw [c_19]; rfl) (tgt := 853) rfl ?_
      exact law_19 l K ez h0z (by omega) hC hS hMI hMR hFR hSH hTR hNR hMO hWK hWR hl hk
    by_cases c_20 : v2.toInt = 20
    · refine lv_tableIn hx hb dL_law_33 (by rw [c_20]; decide) (by rw [c_20]; decide) (off := 853) (by rw [c_20]; rfl) (tgt := 886) rfl ?_
      exact law_20 l K ez h0z (by omega) hC hS hMI hMR hFR hSH hTR hNR hMO hWK hWR hl hk
    by_cases c_21 : v2.toInt = 21
    · refine lv_tableIn hx hb dL_law_33 (by rw [c_21]; decide) (by rw [c_21]; decide) (off := 916) (by rw [c_21]; rfl) (tgt := 949) rfl ?_
      exact law_21 l K ez h0z (by omega) hC hS hMI hMR hFR hSH hTR hNR hMO hWK hWR hl hk
    by_cases c_22 : v2.toInt = 22
    · refine lv_tableIn hx hb dL_law_33 (by rw [c_22]; decide) (by rw [c_22]; decide) (off := 929) (by rw [c_22]; rfl) (tgt := 962) rfl ?_
      exact law_22 l K ez h0z (by omega) hC hS hMI hMR hFR hSH hTR hNR hMO hWK hWR hl hk
    by_cases c_23 : v2.toInt = 23
    · refine lv_tableIn hx hb dL_law_33 (by rw [c_23]; decide) (by rw [c_23]; decide) (off := 962) (by rw [c_23]; rfl) (tgt := 995) rfl ?_
      exact law_23 l K ez h0z (by omega) hC hS hMI hMR hFR hSH hTR hNR hMO hWK hWR hl hk
    by_cases c_24 : v2.toInt = 24
    · refine lv_tableIn hx hb dL_law_33 (by rw [c_24]; decide) (by rw [c_24]; decide) (off := 985) (by rw [c_24]; rfl) (tgt := 1018) rfl ?_
      exact law_24 l K ez h0z (by omega) hC hS hMI hMR hFR hSH hTR hNR hMO hWK hWR hl hk
    by_cases c_25 : v2.toInt = 25
    · refine lv_tableIn hx hb dL_law_33 (by rw [c_25]; decide) (by rw [c_25]; decide) (off := 1008) (by rw [c_25]; rfl) (tgt := 1041) rfl ?_
      exact law_25 l K ez h0z (by omega) hC hS hMI hMR hFR hSH hTR hNR hMO hWK hWR hl hk
    by_cases c_26 : v2.toInt = 26
    · refine lv_tableIn hx hb dL_law_33 (by rw [c_26]; decide) (by rw [c_26]; decide) (off := 1031) (by rw [c_26]; rfl) (tgt := 1064) rfl ?_
      exact law_26 l K ez h0z (by omega) hC hS hMI hMR hFR hSH hTR hNR hMO hWK hWR hl hk
    by_cases c_27 : v2.toInt = 27
    · refine lv_tableIn hx hb dL_law_33 (by rw [c_27]; decide) (by rw [c_27]; decide) (off := 1044) (by rw [c_27]; rfl) (tgt := 1077) rfl ?_
      exact law_27 l K ez h0z (by omega) hC hS hMI hMR hFR hSH hTR hNR hMO hWK hWR hl hk
    by_cases c_28 : v2.toInt = 28
    · refine lv_tableIn hx hb dL_law_33 (by rw [c_28]; decide) (by rw [c_28]; decide) (off := 1067) (by rw [c_28]; rfl) (tgt := 1100) rfl ?_
      exact law_28 l K ez h0z (by omega) hC hS hMI hMR hFR hSH hTR hNR hMO hWK hWR hl hk
    by_cases c_29 : v2.toInt = 29
    · refine lv_tableIn hx hb dL_law_33 (by rw [c_29]; decide) (by rw [c_29]; decide) (off := 1080) (by rw [c_29]; rfl) (tgt := 1113) rfl ?_
      exact law_29 l K ez h0z (by omega) hC hS hMI hMR hFR hSH hTR hNR hMO hWK hWR hl hk
    by_cases c_30 : v2.toInt = 30
    · refine lv_tableIn hx hb dL_law_33 (by rw [c_30]; decide) (by rw [c_30]; decide) (off := 1123) (by rw [c_30]; rfl) (tgt := 1156) rfl ?_
      exact law_30 l K ez h0z (by omega) hC hS hMI hMR hFR hSH hTR hNR hMO hWK hWR hl hk
    by_cases c_31 : v2.toInt = 31
    · refine lv_tableIn hx hb dL_law_33 (by rw [c_31]; decide) (by rw [c_31]; decide) (off := 1136) (by rw [c_31]; rfl) (tgt := 1169) rfl ?_
      exact law_31 l K ez h0z (by omega) hC hS hMI hMR hFR hSH hTR hNR hMO hWK hWR hl hk
    by_cases c_32 : v2.toInt = 32
    · refine lv_tableIn hx hb dL_law_33 (by rw [c_32]; decide) (by rw [c_32]; decide) (off := 1169) (by rw [c_32]; rfl) (tgt := 1202) rfl ?_
      exact law_32 l K ez h0z (by omega) hC hS hMI hMR hFR hSH hTR hNR hMO hWK hWR hl hk
    by_cases c_33 : v2.toInt = 33
    · refine lv_tableIn hx hb dL_law_33 (by rw [c_33]; decide) (by rw [c_33]; decide) (off := 1182) (by rw [c_33]; rfl) (tgt := 1215) rfl ?_
      exact law_33 l K ez h0z (by omega) hC hS hMI hMR hFR hSH hTR hNR hMO hWK hWR hl hk
    by_cases c_34 : v2.toInt = 34
    · refine lv_tableIn hx hb dL_law_33 (by rw [c_34]; decide) (by rw [c_34]; decide) (off := 1215) (by rw [c_34]; rfl) (tgt := 1248) rfl ?_
      exact law_34 l K ez h0z (by omega) hC hS hMI hMR hFR hSH hTR hNR hMO hWK hWR hl hk
    by_cases c_35 : v2.toInt = 35
    · refine lv_tableIn hx hb dL_law_33 (by rw [c_35]; decide) (by rw [c_35]; decide) (off := 1238) (by rw [c_35]; rfl) (tgt := 1271) rfl ?_
      exact law_35 l K ez h0z (by omega) hC hS hMI hMR hFR hSH hTR hNR hMO hWK hWR hl hk
    by_cases c_36 : v2.toInt = 36
    · refine lv_tableIn hx hb dL_law_33 (by rw [c_36]; decide) (by rw [c_36]; decide) (off := 1271) (by rw [c_36]; rfl) (tgt := 1304) rfl ?_
      exact law_36 l K ez h0z (by omega) hC hS hMI hMR hFR hSH hTR hNR hMO hWK hWR hl hk
    by_cases c_37 : v2.toInt = 37
    · refine lv_tableIn hx hb dL_law_33 (by rw [c_37]; decide) (by rw [c_37]; decide) (off := 1314) (by rw [c_37]; rfl) (tgt := 1347) rfl ?_
      exact law_37 l K ez h0z (by omega) hC hS hMI hMR hFR hSH hTR hNR hMO hWK hWR hl hk
    by_cases c_38 : v2.toInt = 38
    · refine lv_tableIn hx hb dL_law_33 (by rw [c_38]; decide) (by rw [c_38]; decide) (off := 1337) (by rw [c_38]; rfl) (tgt := 1370) rfl ?_
      exact law_38 l K ez h0z (by omega) hC hS hMI hMR hFR hSH hTR hNR hMO hWK hWR hl hk
    by_cases c_39 : v2.toInt = 39
    · refine lv_tableIn hx hb dL_law_33 (by rw [c_39]; decide) (by rw [c_39]; decide) (off := 1390) (by rw [c_39]; rfl) (tgt := 1423) rfl ?_
      exact law_39 l K ez h0z (by omega) hC hS hMI hMR hFR hSH hTR hNR hMO hWK hWR hl hk
    by_cases c_40 : v2.toInt = 40
    · refine lv_tableIn hx hb dL_law_33 (by rw [c_40]; decide) (by rw [c_40]; decide) (off := 1443) (by rw [c_40]; rfl) (tgt := 1476) rfl ?_
      exact law_40 l K ez h0z (by omega) hC hS hMI hMR hFR hSH hTR hNR hMO hWK hWR hl hk
    by_cases c_41 : v2.toInt = 41
    · refine lv_tableIn hx hb dL_law_33 (by rw [c_41]; decide) (by rw [c_41]; decide) (off := 1486) (by rw [c_41]; rfl) (tgt := 1519) rfl ?_
      exact law_41 l K ez h0z (by omega) hC hS hMI hMR hFR hSH hTR hNR hMO hWK hWR hl hk
    by_cases c_42 : v2.toInt = 42
    · refine lv_tableIn hx hb dL_law_33 (by rw [c_42]; decide) (by rw [c_42]; decide) (off := 1529) (by rw [c_42]; rfl) (tgt := 1562) rfl ?_
      exact law_42 l K ez h0z (by omega) hC hS hMI hMR hFR hSH hTR hNR hMO hWK hWR hl hk
    by_cases c_43 : v2.toInt = 43
    · refine lv_tableIn hx hb dL_law_33 (by rw [c_43]; decide) (by rw [c_43]; decide) (off := 1552) (by rw [c_43]; rfl) (tgt := 1585) rfl ?_
      exact law_43 l K ez h0z (by omega) hC hS hMI hMR hFR hSH hTR hNR hMO hWK hWR hl hk
    by_cases c_44 : v2.toInt = 44
    · refine lv_tableIn hx hb dL_law_33 (by rw [c_44]; decide) (by rw [c_44]; decide) (off := 1575) (by rw [c_44]; rfl) (tgt := 1608) rfl ?_
      exact law_44 l K ez h0z (by omega) hC hS hMI hMR hFR hSH hTR hNR hMO hWK hWR hl hk
    by_cases c_45 : v2.toInt = 45
    · refine lv_tableIn hx hb dL_law_33 (by rw [c_45]; decide) (by rw [c_45]; decide) (off := 1608) (by rw [c_45]; rfl) (tgt := 1641) rfl ?_
      exact law_45 l K ez h0z (by omega) hC hS hMI hMR hFR hSH hTR hNR hMO hWK hWR hl hk
    by_cases c_46 : v2.toInt = 46
    · refine lv_tableIn hx hb dL_law_33 (by rw [c_46]; decide) (by rw [c_46]; decide) (off := 1621) (by rw [c_46]; rfl) (tgt := 1654) rfl ?_
      exact law_46 l K ez h0z (by omega) hC hS hMI hMR hFR hSH hTR hNR hMO hWK hWR hl hk
    refine lv_tableOut hx hb dL_law_33 (by omega) (tgt := 1667) rfl ?_
    exact hk H locs hC hS hMI hMR hFR hSH hTR hNR hMO hWK hWR
