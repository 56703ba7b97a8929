set_option maxRecDepth 100000 in
set_option maxHeartbeats 4000000 in
theorem m_X12_room (l : Launch) (X : xW) (Γ : Nat → Option Nat) (H0 : Heap) (hC0 : Conf X Γ H0) (h0 : Nat) (g0 : Γ h0 = some 11) (p1 : Int32) {a1 : Int} (e1 : p1.toInt = a1) (p2 : Int32) {a2 : Int} (e2 : p2.toInt = a2) (ca : Nat) (gca : Γ ca = some 64) (uc : ∀ a, Γ a = some 64 → a = ca) : Ctr l X Γ yX12_room cX12_room 3 (some .int) 3 [.ref h0, .int p1, .int p2] H0 (QI X Γ (fun v H1 => Kp X Γ [1, 6, 7, 8, 9, 10, 11, 12, 14, 15, 16, 17, 19, 22, 24] H0 H1 ∧ (True))) := by
  refine q_enterI (own := "SnowFortsModel") (by decide) rfl (Nat.le_of_ble_eq_true rfl) ?_
  intro p e s m args below meth c ls Qz E hl ret hS0
  have hx := E.1; have hb := E.2.1
  have hKp0 : Kp X Γ [1, 6, 7, 8, 9, 10, 11, 12, 14, 15, 16, 17, 19, 22, 24] H0 H0 := Kp.rf
  have hl : lv_has ls 3 [(0, .ref h0), (1, .int p1), (2, .int p2)] := hl
  refine lv_aload_n hx hb dX12_room_0 rfl (lv_at hl 0 rfl) ?_
  refine lv_iconst (v := 0) hx hb dX12_room_1 rfl ?_
  refine q_put E hC0 hS0 g0 fp_RX12_69 tv_F rfl rfl dX12_room_2 (fun H21 locs21 hC21 hS21 U21 => ?_)
  have hKp21 := Kp.upO E g0 fp_RX12_69 rfl U21 hKp0
  have e22 := up_I U21
  refine lv_aload_n hx hb dX12_room_5 rfl (lv_at hl 0 rfl) ?_
  refine lv_iconst (v := 0) hx hb dX12_room_6 rfl ?_
  refine q_put E hC21 hS21 g0 fp_RX12_72 tv_F rfl rfl dX12_room_7 (fun H23 locs23 hC23 hS23 U23 => ?_)
  have hKp23 := Kp.upO E g0 fp_RX12_72 rfl U23 hKp21
  have e24 := up_I U23
  refine lv_aload_n hx hb dX12_room_10 rfl (lv_at hl 0 rfl) ?_
  refine lv_iload_n hx hb dX12_room_11 rfl (lv_at hl 1 rfl) ?_
  refine lv_iload_n hx hb dX12_room_12 rfl (lv_at hl 2 rfl) ?_
  refine q_goIp (q_runV (As := [.int p1, .int p2]) (rest := []) E hC23 hS23 (m_X12_isOwned l X Γ H23 hC23 h0 g0 p1 (a1 := a1) e1 p2 (a2 := a2) e2 ca gca uc) cw_X12_isOwned cl_RX12_336 g0 ⟨rfl, rfl⟩ rfl hl.1 rfl (Nat.zero_le _) (by decide) dX12_room_13) hS23 (fun v25 locs25 hr25 hS25 => ?_)
  rcases hr25 with ⟨rfl, f25a0, f25a1, f25a2, f25a3⟩ | ⟨rfl, -⟩
  · refine q_if_eq hx hb (a := 1) (by decide) (tgt := 43) dX12_room_16 rfl (fun c26 => absurd c26 (by omega)) (fun c26 => ?_)
    refine lv_aload_n hx hb dX12_room_19 rfl (lv_at hl 0 rfl) ?_
    refine lv_iload_n hx hb dX12_room_20 rfl (lv_at hl 1 rfl) ?_
    refine lv_iload_n hx hb dX12_room_21 rfl (lv_at hl 2 rfl) ?_
    refine q_goIp (q_runS (As := [.int p1, .int p2]) (rest := [.ref h0]) E hS25 (m_X12_at2 l X Γ H23 hC23 p1 (a0 := a1) e1 p2 (a1 := a2) e2 (by omega) (by omega) (by omega) (by omega)) cw_X12_at2 cl_RX12_292 rfl hl.1 rfl (show _ ≤ _ from by simp [Value.category]) (by decide) dX12_room_22) hS25 (fun v27 locs27 hr27 hS27 => ?_)
    have f27_0 := hr27
    refine q_goIp (q_runV (As := [.int v27]) (rest := []) E hC23 hS27 (m_X12_freeOf l X Γ H23 hC23 h0 g0 v27 (a1 := v27.toInt) rfl ca gca uc (by omega) (by omega)) cw_X12_freeOf cl_RX12_353 g0 ⟨rfl, rfl⟩ rfl hl.1 rfl (Nat.zero_le _) (by decide) dX12_room_25) hS27 (fun v28 locs28 hr28 hS28 => ?_)
    refine lv_aload_n hx hb dX12_room_28 rfl (lv_at hl 0 rfl) ?_
    refine lv_aload_n hx hb dX12_room_29 rfl (lv_at hl 0 rfl) ?_
    refine lv_iload_n hx hb dX12_room_30 rfl (lv_at hl 1 rfl) ?_
    refine q_goIp (q_runV (As := [.int p1]) (rest := [.ref h0, .int v28]) E hC23 hS28 (m_X12_halfOf l X Γ H23 hC23 h0 g0 p1 (a1 := a1) e1 ca gca uc) cw_X12_halfOf cl_RX12_270 g0 ⟨rfl, rfl⟩ rfl hl.1 rfl (show _ ≤ _ from by simp [Value.category]) (by decide) dX12_room_31) hS28 (fun v29 locs29 hr29 hS29 => ?_)
    obtain ⟨f29_0, f29_1⟩ := hr29
    refine q_goIp (q_runV (As := [.int v29]) (rest := [.int v28]) E hC23 hS29 (m_X12_lateRest l X Γ H23 hC23 h0 g0 v29 (a1 := v29.toInt) rfl ca gca uc (by omega) (by omega)) cw_X12_lateRest cl_RX12_356 g0 ⟨rfl, rfl⟩ rfl hl.1 rfl (show _ ≤ _ from by simp [Value.category]) (by decide) dX12_room_34) hS29 (fun v30 locs30 hr30 hS30 => ?_)
    refine q_mmin E hl.1 w_1740 mathw_min (a := v28.toInt) (b := v30.toInt) rfl rfl (by decide) (Nat.zero_le _) dX12_room_37 (fun v31 mv31a mv31b mv31c => ?_)
    refine lv_goto (tgt := 48) hx hb dX12_room_40 rfl ?_
    exact ret v31 H23 locs30 _ _ dX12_room_48 ⟨hKp23, trivial⟩ hC23 hS30
  · refine q_if_eq hx hb (a := 0) (by decide) (tgt := 43) dX12_room_16 rfl (fun c32 => ?_) (fun c32 => absurd c32 (by omega))
    refine lv_aload_n hx hb dX12_room_43 rfl (lv_at hl 0 rfl) ?_
    refine lv_iconst (v := 2) hx hb dX12_room_44 rfl ?_
    refine q_goI (q_runV (As := [.int 2]) (rest := []) E hC23 hS25 (m_X12_refuse l X Γ H23 hC23 h0 g0 2 (a1 := 2) (by decide) ca gca uc) cw_X12_refuse cl_RX12_298 g0 ⟨rfl, rfl⟩ rfl hl.1 rfl (Nat.zero_le _) (by decide) dX12_room_45) hS25 (fun v33 H33 locs33 hr33 hC33 hS33 => ?_)
    obtain ⟨hp33, hr33⟩ := hr33
    have hKp33 := hKp23.tr (hp33.mono rfl)
    have f33_0 := hr33
    exact ret v33 H33 locs33 _ _ dX12_room_48 ⟨hKp33, trivial⟩ hC33 hS33
set_option maxRecDepth 100000 in
set_option maxHeartbeats 4000000 in
theorem m_X12_most (l : Launch) (X : xW) (Γ : Nat → Option Nat) (H0 : Heap) (hC0 : Conf X Γ H0) (h0 : Nat) (g0 : Γ h0 = some 11) (p1 : Int32) {a1 : Int} (e1 : p1.toInt = a1) (ca : Nat) (gca : Γ ca = some 64) (uc : ∀ a, Γ a = some 64 → a = ca) : Ctr l X Γ yX12_most cX12_most 5 (some .int) 2 [.ref h0, .int p1] H0 (QI X Γ (fun v H1 => Kp X Γ [1, 6, 7, 8, 9, 10, 11, 12, 14, 15, 16, 17, 19, 22, 24] H0 H1 ∧ (True))) := by
  refine q_enterI (own := "SnowFortsModel") (by decide) rfl (Nat.le_of_ble_eq_true rfl) ?_
  intro p e s m args below meth c ls Qz E hl ret hS0
  have hx := E.1; have hb := E.2.1
  have hKp0 : Kp X Γ [1, 6, 7, 8, 9, 10, 11, 12, 14, 15, 16, 17, 19, 22, 24] H0 H0 := Kp.rf
  have hl : lv_has ls 5 [(0, .ref h0), (1, .int p1)] := hl
  refine lv_aload_n hx hb dX12_most_0 rfl (lv_at hl 0 rfl) ?_
  refine lv_iconst (v := 0) hx hb dX12_most_1 rfl ?_
  refine q_put E hC0 hS0 g0 fp_RX12_69 tv_F rfl rfl dX12_most_2 (fun H21 locs21 hC21 hS21 U21 => ?_)
  have hKp21 := Kp.upO E g0 fp_RX12_69 rfl U21 hKp0
  have e22 := up_I U21
  refine lv_aload_n hx hb dX12_most_5 rfl (lv_at hl 0 rfl) ?_
  refine lv_iconst (v := 0) hx hb dX12_most_6 rfl ?_
  refine q_put E hC21 hS21 g0 fp_RX12_72 tv_F rfl rfl dX12_most_7 (fun H23 locs23 hC23 hS23 U23 => ?_)
  have hKp23 := Kp.upO E g0 fp_RX12_72 rfl U23 hKp21
  have e24 := up_I U23
  refine lv_aload_n hx hb dX12_most_10 rfl (lv_at hl 0 rfl) ?_
  refine lv_iload_n hx hb dX12_most_11 rfl (lv_at hl 1 rfl) ?_
  refine q_goIp (q_runV (As := [.int p1]) (rest := []) E hC23 hS23 (m_X12_isSchoolAt l X Γ H23 hC23 h0 g0 p1 (a1 := a1) e1 ca gca uc) cw_X12_isSchoolAt cl_RX12_304 g0 ⟨rfl, rfl⟩ rfl hl.1 rfl (Nat.zero_le _) (by decide) dX12_most_12) hS23 (fun v25 locs25 hr25 hS25 => ?_)
  rcases hr25 with ⟨rfl, f25a0, f25a1⟩ | ⟨rfl, -⟩
  · refine q_if_ne hx hb (a := 1) (by decide) (tgt := 24) dX12_most_15 rfl (fun c26 => ?_) (fun c26 => absurd c26 (by omega))
    refine lv_iconst (v := 0) hx hb dX12_most_24 rfl ?_
    refine lv_istore_n hx hb dX12_most_25 rfl hl (by decide) rfl (fun ls hl => ?_)
    have hl : lv_has ls 5 [(2, .int 0), (0, .ref h0), (1, .int p1)] := hl
    refine lv_iconst (v := 0) hx hb dX12_most_26 rfl ?_
    refine lv_istore_n hx hb dX12_most_27 rfl hl (by decide) rfl (fun ls hl => ?_)
    have hl : lv_has ls 5 [(3, .int 0), (2, .int 0), (0, .ref h0), (1, .int p1)] := hl
    have L28 : ∀ (n29 : Nat) (locs29 : List Loc) (v27 : Int32) (z27 : Int) (v28 : Int32) (z28 : Int) (ls : Array Slot), (6 - z27).toNat < n29 → v27.toInt = z27 → v28.toInt = z28 → z27 ≤ 6 → 0 ≤ z27 → va_S (AΓ Γ) H0 H23 locs29 → lv_has ls 5 [(3, .int v27), (2, .int v28), (0, .ref h0), (1, .int p1)] → W p l e (rmL 2) s m args below meth c H23 locs29 0 0 Qz (F0 m 28 ls []) := by
      intro n29
      induction n29 with
      | zero => intro locs29 v27 z27 v28 z28 ls hm29 ev27 ev28 iv29_0 iv29_1 hS29 hl; exact absurd hm29 (Nat.not_lt_zero _)
      | succ n29 ih29 =>
        intro locs29 v27 z27 v28 z28 ls hm29 ev27 ev28 iv29_0 iv29_1 hS29 hl
        refine lv_iload_n hx hb dX12_most_28 rfl (lv_at hl 0 rfl) ?_
        refine lv_aload_n hx hb dX12_most_29 rfl (lv_at hl 2 rfl) ?_
        refine q_getC E hC23 g0 fa_RX12_35 uc dX12_most_30 ?_
        refine lv_iconst (v := 1) hx hb dX12_most_33 rfl ?_
        refine q_cald E hC23 (lo := 0) (hi := 6) gca (a := 1) (show (1 : Int32).toInt = 1 from by decide) (by omega) (by omega) (cr_c0 (by omega) (by omega)) dX12_most_34 (fun v30 ev30 lv30 uv30 => ?_)
        refine q_icmp_ge hx hb (a := z27) (b := v30.toInt) ev27 rfl (tgt := 91) dX12_most_35 rfl (fun c31 => ?_) (fun c31 => ?_)
        · refine lv_iload_n hx hb dX12_most_91 rfl (lv_at hl 1 rfl) ?_
          refine lv_aload_n hx hb dX12_most_92 rfl (lv_at hl 2 rfl) ?_
          refine lv_iload_n hx hb dX12_most_93 rfl (lv_at hl 3 rfl) ?_
          refine q_goIp (q_runV (As := [.int p1]) (rest := [.int v28]) E hC23 hS29 (m_X12_lateRest l X Γ H23 hC23 h0 g0 p1 (a1 := a1) e1 ca gca uc (by omega) (by omega)) cw_X12_lateRest cl_RX12_356 g0 ⟨rfl, rfl⟩ rfl hl.1 rfl (show _ ≤ _ from by simp [Value.category]) (by decide) dX12_most_94) hS29 (fun v32 locs32 hr32 hS32 => ?_)
          refine lv_aload_n hx hb dX12_most_97 rfl (lv_at hl 2 rfl) ?_
          refine q_getC E hC23 g0 fa_RX12_35 uc dX12_most_98 ?_
          refine lv_bipush (v := 12) hx hb dX12_most_101 rfl ?_
          refine lv_iload_n hx hb dX12_most_103 rfl (lv_at hl 3 rfl) ?_
          refine lv_iadd hx hb dX12_most_104 (lv_topi (fun v33 ev33 => ?_))
          have ev33i : v33.toInt = (12 + a1) := i_add ev33 (by decide) e1 (by omega) (by omega)
          refine q_cald E hC23 (lo := 0) (hi := 40) gca (a := (12 + a1)) ev33i (by omega) (by omega) (cr_c12 (by omega) (by omega)) dX12_most_105 (fun v34 ev34 lv34 uv34 => ?_)
          refine lv_aload_n hx hb dX12_most_106 rfl (lv_at hl 2 rfl) ?_
          refine q_getC E hC23 g0 fa_RX12_35 uc dX12_most_107 ?_
          refine lv_bipush (v := 14) hx hb dX12_most_110 rfl ?_
          refine lv_iload_n hx hb dX12_most_112 rfl (lv_at hl 3 rfl) ?_
          refine lv_iadd hx hb dX12_most_113 (lv_topi (fun v35 ev35 => ?_))
          have ev35i : v35.toInt = (14 + a1) := i_add ev35 (by decide) e1 (by omega) (by omega)
          refine q_cald E hC23 (lo := 0) (hi := 40) gca (a := (14 + a1)) ev35i (by omega) (by omega) (cr_c12 (by omega) (by omega)) dX12_most_114 (fun v36 ev36 lv36 uv36 => ?_)
          refine lv_isub hx hb dX12_most_115 (lv_topi (fun v37 ev37 => ?_))
          have ev37i : v37.toInt = (v34.toInt - v36.toInt) := i_sub ev37 rfl rfl (by omega) (by omega)
          refine q_mmin E hl.1 w_1740 mathw_min (a := v32.toInt) (b := (v34.toInt - v36.toInt)) rfl ev37i (by decide) (show _ ≤ _ from by simp [Value.category]) dX12_most_116 (fun v38 mv38a mv38b mv38c => ?_)
          refine q_mmin E hl.1 w_1740 mathw_min (a := z28) (b := v38.toInt) ev28 rfl (by decide) (Nat.zero_le _) dX12_most_119 (fun v39 mv39a mv39b mv39c => ?_)
          exact ret v39 H23 locs32 _ _ dX12_most_122 ⟨hKp23, trivial⟩ hC23 hS32
        · refine lv_iconst (v := 0) hx hb dX12_most_38 rfl ?_
          refine lv_istore hx hb dX12_most_39 hl (by decide) rfl (fun ls hl => ?_)
          have hl : lv_has ls 5 [(4, .int 0), (3, .int v27), (2, .int v28), (0, .ref h0), (1, .int p1)] := hl
          have L41 : ∀ (n42 : Nat) (locs42 : List Loc) (v40 : Int32) (z40 : Int) (v41 : Int32) (z41 : Int) (ls : Array Slot), (6 - z40).toNat < n42 → v40.toInt = z40 → v41.toInt = z41 → z40 ≤ 6 → 0 ≤ z40 → va_S (AΓ Γ) H0 H23 locs42 → lv_has ls 5 [(4, .int v40), (3, .int v27), (2, .int v41), (0, .ref h0), (1, .int p1)] → W p l e (rmL 2) s m args below meth c H23 locs42 0 0 Qz (F0 m 41 ls []) := by
            intro n42
            induction n42 with
            | zero => intro locs42 v40 z40 v41 z41 ls hm42 ev40 ev41 iv42_0 iv42_1 hS42 hl; exact absurd hm42 (Nat.not_lt_zero _)
            | succ n42 ih42 =>
              intro locs42 v40 z40 v41 z41 ls hm42 ev40 ev41 iv42_0 iv42_1 hS42 hl
              refine lv_iload hx hb dX12_most_41 (lv_at hl 0 rfl) ?_
              refine lv_aload_n hx hb dX12_most_43 rfl (lv_at hl 3 rfl) ?_
              refine q_getC E hC23 g0 fa_RX12_35 uc dX12_most_44 ?_
              refine lv_iconst (v := 0) hx hb dX12_most_47 rfl ?_
              refine q_cald E hC23 (lo := 0) (hi := 6) gca (a := 0) (show (0 : Int32).toInt = 0 from by decide) (by omega) (by omega) (cr_c0 (by omega) (by omega)) dX12_most_48 (fun v43 ev43 lv43 uv43 => ?_)
              refine q_icmp_ge hx hb (a := z40) (b := v43.toInt) ev40 rfl (tgt := 85) dX12_most_49 rfl (fun c44 => ?_) (fun c44 => ?_)
              · obtain ⟨v45, ev45⟩ : ∃ z, z = v27 + Int32.ofInt 1 := ⟨_, rfl⟩
                have ev45i : v45.toInt = (z27 + 1) := i_add ev45 ev27 (by decide) (by omega) (by omega)
                refine lv_iinc hx hb dX12_most_85 hl (k := 1) rfl ev45.symm (by decide) rfl (fun ls hl => ?_)
                have hl : lv_has ls 5 [(3, .int v45), (4, .int v40), (2, .int v41), (0, .ref h0), (1, .int p1)] := hl
                refine lv_goto (tgt := 28) hx hb dX12_most_88 rfl ?_
                exact ih29 locs42 v45 ((z27 + 1)) v41 (z41) ls (by omega) ev45i ev41 (by omega) (by omega) hS42 (lv_sub hl [0, 2, 3, 4] rfl)
              · refine lv_iload_n hx hb dX12_most_52 rfl (lv_at hl 2 rfl) ?_
                refine lv_aload_n hx hb dX12_most_53 rfl (lv_at hl 3 rfl) ?_
                refine lv_iload hx hb dX12_most_54 (lv_at hl 0 rfl) ?_
                refine q_goIp (q_runV (As := [.int v40]) (rest := [.int v41]) E hC23 hS42 (m_X12_halfOf l X Γ H23 hC23 h0 g0 v40 (a1 := z40) ev40 ca gca uc) cw_X12_halfOf cl_RX12_270 g0 ⟨rfl, rfl⟩ rfl hl.1 rfl (show _ ≤ _ from by simp [Value.category]) (by decide) dX12_most_56) hS42 (fun v46 locs46 hr46 hS46 => ?_)
                obtain ⟨f46_0, f46_1⟩ := hr46
                refine lv_iload_n hx hb dX12_most_59 rfl (lv_at hl 4 rfl) ?_
                refine q_icmp_ne hx hb (a := v46.toInt) (b := a1) rfl e1 (tgt := 76) dX12_most_60 rfl (fun c47 => ?_) (fun c47 => ?_)
                · refine lv_iconst (v := 0) hx hb dX12_most_76 rfl ?_
                  refine lv_iadd hx hb dX12_most_77 (lv_topi (fun v48 ev48 => ?_))
                  have c49 := i_rng v41; rw [show v41.toInt = z41 from ev41] at c49
                  have ev48i : v48.toInt = (z41 + 0) := i_add ev48 ev41 (by decide) (by omega) (by omega)
                  refine lv_istore_n hx hb dX12_most_78 rfl hl (by decide) rfl (fun ls hl => ?_)
                  have hl : lv_has ls 5 [(2, .int v48), (4, .int v40), (3, .int v27), (0, .ref h0), (1, .int p1)] := hl
                  obtain ⟨v50, ev50⟩ : ∃ z, z = v40 + Int32.ofInt 1 := ⟨_, rfl⟩
                  have ev50i : v50.toInt = (z40 + 1) := i_add ev50 ev40 (by decide) (by omega) (by omega)
                  refine lv_iinc hx hb dX12_most_79 hl (k := 1) rfl ev50.symm (by decide) rfl (fun ls hl => ?_)
                  have hl : lv_has ls 5 [(4, .int v50), (2, .int v48), (3, .int v27), (0, .ref h0), (1, .int p1)] := hl
                  refine lv_goto (tgt := 41) hx hb dX12_most_82 rfl ?_
                  exact ih42 locs46 v50 ((z40 + 1)) v48 ((z41 + 0)) ls (by omega) ev50i ev48i (by omega) (by omega) hS46 (lv_sub hl [0, 2, 1, 3, 4] rfl)
                · refine lv_aload_n hx hb dX12_most_63 rfl (lv_at hl 3 rfl) ?_
                  refine lv_iload hx hb dX12_most_64 (lv_at hl 0 rfl) ?_
                  refine lv_iload_n hx hb dX12_most_66 rfl (lv_at hl 1 rfl) ?_
                  refine q_goIp (q_runS (As := [.int v40, .int v27]) (rest := [.ref h0, .int v41]) E hS46 (m_X12_at2 l X Γ H23 hC23 v40 (a0 := z40) ev40 v27 (a1 := z27) ev27 (by omega) (by omega) (by omega) (by omega)) cw_X12_at2 cl_RX12_292 rfl hl.1 rfl (show _ ≤ _ from by simp [Value.category]) (by decide) dX12_most_67) hS46 (fun v51 locs51 hr51 hS51 => ?_)
                  have f51_0 := hr51
                  refine q_goIp (q_runV (As := [.int v51]) (rest := [.int v41]) E hC23 hS51 (m_X12_freeOf l X Γ H23 hC23 h0 g0 v51 (a1 := v51.toInt) rfl ca gca uc (by omega) (by omega)) cw_X12_freeOf cl_RX12_353 g0 ⟨rfl, rfl⟩ rfl hl.1 rfl (show _ ≤ _ from by simp [Value.category]) (by decide) dX12_most_70) hS51 (fun v52 locs52 hr52 hS52 => ?_)
                  refine lv_goto (tgt := 77) hx hb dX12_most_73 rfl ?_
                  refine lv_iadd hx hb dX12_most_77 (lv_topi (fun v53 ev53 => ?_))
                  refine lv_istore_n hx hb dX12_most_78 rfl hl (by decide) rfl (fun ls hl => ?_)
                  have hl : lv_has ls 5 [(2, .int v53), (4, .int v40), (3, .int v27), (0, .ref h0), (1, .int p1)] := hl
                  obtain ⟨v54, ev54⟩ : ∃ z, z = v40 + Int32.ofInt 1 := ⟨_, rfl⟩
                  have ev54i : v54.toInt = (z40 + 1) := i_add ev54 ev40 (by decide) (by omega) (by omega)
                  refine lv_iinc hx hb dX12_most_79 hl (k := 1) rfl ev54.symm (by decide) rfl (fun ls hl => ?_)
                  have hl : lv_has ls 5 [(4, .int v54), (2, .int v53), (3, .int v27), (0, .ref h0), (1, .int p1)] := hl
                  refine lv_goto (tgt := 41) hx hb dX12_most_82 rfl ?_
                  exact ih42 locs52 v54 ((z40 + 1)) v53 (v53.toInt) ls (by omega) ev54i rfl (by omega) (by omega) hS52 (lv_sub hl [0, 2, 1, 3, 4] rfl)
          exact L41 _ locs29 0 0 v28 z28 ls (Nat.lt_succ_self _) (by decide) ev28 (by omega) (by omega) hS29 hl
    exact L28 _ locs25 0 0 0 0 ls (Nat.lt_succ_self _) (by decide) (by decide) (by omega) (by omega) hS25 hl
  · refine q_if_ne hx hb (a := 0) (by decide) (tgt := 24) dX12_most_15 rfl (fun c55 => absurd c55 (by omega)) (fun c55 => ?_)
    refine lv_aload_n hx hb dX12_most_18 rfl (lv_at hl 0 rfl) ?_
    refine lv_iconst (v := 2) hx hb dX12_most_19 rfl ?_
    refine q_goI (q_runV (As := [.int 2]) (rest := []) E hC23 hS25 (m_X12_refuse l X Γ H23 hC23 h0 g0 2 (a1 := 2) (by decide) ca gca uc) cw_X12_refuse cl_RX12_298 g0 ⟨rfl, rfl⟩ rfl hl.1 rfl (Nat.zero_le _) (by decide) dX12_most_20) hS25 (fun v56 H56 locs56 hr56 hC56 hS56 => ?_)
    obtain ⟨hp56, hr56⟩ := hr56
    have hKp56 := hKp23.tr (hp56.mono rfl)
    have f56_0 := hr56
    exact ret v56 H56 locs56 _ _ dX12_most_23 ⟨hKp56, trivial⟩ hC56 hS56
set_option maxRecDepth 100000 in
set_option maxHeartbeats 4000000 in
theorem m_X12_topOf (l : Launch) (X : xW) (Γ : Nat → Option Nat) (H0 : Heap) (hC0 : Conf X Γ H0) (h0 : Nat) (g0 : Γ h0 = some 11) (p1 : Int32) {a1 : Int} (e1 : p1.toInt = a1) (ca : Nat) (gca : Γ ca = some 64) (uc : ∀ a, Γ a = some 64 → a = ca) (r0 : 0 ≤ a1) (r1 : a1 ≤ 35) : Ctr l X Γ yX12_topOf cX12_topOf 2 (some .int) 0 [.ref h0, .int p1] H0 (QI X Γ (fun v H1 => H1 = H0 ∧ ((0 ≤ v.toInt) ∧ (v.toInt ≤ 198) ∧ (v.toInt = tpI H0 ca a1)))) := by
  refine q_enterI (own := "SnowFortsModel") (by decide) rfl (Nat.le_of_ble_eq_true rfl) ?_
  intro p e s m args below meth c ls Qz E hl ret hS0
  have hx := E.1; have hb := E.2.1
  have hl : lv_has ls 2 [(0, .ref h0), (1, .int p1)] := hl
  obtain ⟨v21, ev21⟩ : ∃ z, sI H0 ca ((26 + a1) : Int).toNat = z := ⟨_, rfl⟩
  have m22 : (sI H0 ca ((26 + a1) : Int).toNat).toInt = v21.toInt := congrArg Int32.toInt ev21
  obtain ⟨v23, ev23⟩ : ∃ z, sI H0 ca ((62 + a1) : Int).toNat = z := ⟨_, rfl⟩
  have m24 : (sI H0 ca ((62 + a1) : Int).toNat).toInt = v23.toInt := congrArg Int32.toInt ev23
  refine lv_aload_n hx hb dX12_topOf_0 rfl (lv_at hl 0 rfl) ?_
  refine q_getC E hC0 g0 fa_RX12_35 uc dX12_topOf_1 ?_
  refine lv_bipush (v := 26) hx hb dX12_topOf_4 rfl ?_
  refine lv_iload_n hx hb dX12_topOf_6 rfl (lv_at hl 1 rfl) ?_
  refine lv_iadd hx hb dX12_topOf_7 (lv_topi (fun v25 ev25 => ?_))
  have ev25i : v25.toInt = (26 + a1) := i_add ev25 (by decide) e1 (by omega) (by omega)
  refine q_cald E hC0 (lo := 0) (hi := 99) gca (a := (26 + a1)) ev25i (by omega) (by omega) (cr_c26 (by omega) (by omega)) dX12_topOf_8 (fun v26 ev26 lv26 uv26 => ?_)
  have qv26 := ev21.symm.trans ev26; subst qv26
  refine lv_aload_n hx hb dX12_topOf_9 rfl (lv_at hl 0 rfl) ?_
  refine q_getC E hC0 g0 fa_RX12_35 uc dX12_topOf_10 ?_
  refine lv_bipush (v := 62) hx hb dX12_topOf_13 rfl ?_
  refine lv_iload_n hx hb dX12_topOf_15 rfl (lv_at hl 1 rfl) ?_
  refine lv_iadd hx hb dX12_topOf_16 (lv_topi (fun v27 ev27 => ?_))
  have ev27i : v27.toInt = (62 + a1) := i_add ev27 (by decide) e1 (by omega) (by omega)
  refine q_cald E hC0 (lo := 0) (hi := 99) gca (a := (62 + a1)) ev27i (by omega) (by omega) (cr_c26 (by omega) (by omega)) dX12_topOf_17 (fun v28 ev28 lv28 uv28 => ?_)
  have qv28 := ev23.symm.trans ev28; subst qv28
  refine lv_iadd hx hb dX12_topOf_18 (lv_topi (fun v29 ev29 => ?_))
  have ev29i : v29.toInt = (v21.toInt + v23.toInt) := i_add ev29 rfl rfl (by omega) (by omega)
  have c30 : v29.toInt = (v21.toInt + v23.toInt) := ev29i
  exact ret v29 H0 [] _ _ dX12_topOf_19 ⟨rfl, ⟨by omega, by omega, by unfold tpI; omega⟩⟩ hC0 hS0
set_option maxRecDepth 100000 in
set_option maxHeartbeats 4000000 in
theorem m_X12_lowest (l : Launch) (X : xW) (Γ : Nat → Option Nat) (H0 : Heap) (hC0 : Conf X Γ H0) (h0 : Nat) (g0 : Γ h0 = some 11) (p1 : Int32) {a1 : Int} (e1 : p1.toInt = a1) (ca : Nat) (gca : Γ ca = some 64) (uc : ∀ a, Γ a = some 64 → a = ca) : Ctr l X Γ yX12_lowest cX12_lowest 5 (some .int) 1 [.ref h0, .int p1] H0 (QI X Γ (fun v H1 => Kp X Γ [1, 6, 7, 8, 9, 10, 11, 12, 14, 15, 16, 17, 19, 22, 24] H0 H1 ∧ (True))) := by
  refine q_enterI (own := "SnowFortsModel") (by decide) rfl (Nat.le_of_ble_eq_true rfl) ?_
  intro p e s m args below meth c ls Qz E hl ret hS0
  have hx := E.1; have hb := E.2.1
  have hKp0 : Kp X Γ [1, 6, 7, 8, 9, 10, 11, 12, 14, 15, 16, 17, 19, 22, 24] H0 H0 := Kp.rf
  have hl : lv_has ls 5 [(0, .ref h0), (1, .int p1)] := hl
  refine lv_aload_n hx hb dX12_lowest_0 rfl (lv_at hl 0 rfl) ?_
  refine lv_iconst (v := 0) hx hb dX12_lowest_1 rfl ?_
  refine q_put E hC0 hS0 g0 fp_RX12_69 tv_F rfl rfl dX12_lowest_2 (fun H21 locs21 hC21 hS21 U21 => ?_)
  have hKp21 := Kp.upO E g0 fp_RX12_69 rfl U21 hKp0
  have e22 := up_I U21
  refine lv_aload_n hx hb dX12_lowest_5 rfl (lv_at hl 0 rfl) ?_
  refine lv_iconst (v := 0) hx hb dX12_lowest_6 rfl ?_
  refine q_put E hC21 hS21 g0 fp_RX12_72 tv_F rfl rfl dX12_lowest_7 (fun H23 locs23 hC23 hS23 U23 => ?_)
  have hKp23 := Kp.upO E g0 fp_RX12_72 rfl U23 hKp21
  have e24 := up_I U23
  refine lv_iload_n hx hb dX12_lowest_10 rfl (lv_at hl 1 rfl) ?_
  refine lv_i2l (v := p1.toInt64) hx hb dX12_lowest_11 rfl (lv_topl (fun v25 ev25 => ?_))
  have ev25i : v25.toInt = a1 := l_ofi ev25.symm e1
  refine lv_lconst (v := 0) hx hb dX12_lowest_12 rfl ?_
  refine lv_lconst (v := 1) hx hb dX12_lowest_13 rfl ?_
  refine q_goIp (q_runS (As := [.long v25, .long 0, .long 1]) (rest := []) E hS23 (m_X12_isIn l X Γ H23 hC23 v25 (a0 := a1) ev25i 0 (a1 := 0) (show (0 : Int64).toInt = 0 from by decide) 1 (a2 := 1) (show (1 : Int64).toInt = 1 from by decide)) cw_X12_isIn cl_RX12_104 rfl hl.1 rfl (Nat.zero_le _) (by decide) dX12_lowest_14) hS23 (fun v26 locs26 hr26 hS26 => ?_)
  rcases hr26 with ⟨rfl, f26a0, f26a1⟩ | ⟨rfl, f26b⟩
  · refine q_if_ne hx hb (a := 1) (by decide) (tgt := 26) dX12_lowest_17 rfl (fun c27 => ?_) (fun c27 => absurd c27 (by omega))
    refine lv_ldcw (v := 1000000) hx hb E.2.2.2.1 (E.2.2.2.2.1 _ w_1801) dX12_lowest_26 ?_
    refine lv_istore_n hx hb dX12_lowest_29 rfl hl (by decide) rfl (fun ls hl => ?_)
    have hl : lv_has ls 5 [(2, .int 1000000), (0, .ref h0), (1, .int p1)] := hl
    refine lv_iconst (v := 0) hx hb dX12_lowest_30 rfl ?_
    refine lv_istore_n hx hb dX12_lowest_31 rfl hl (by decide) rfl (fun ls hl => ?_)
    have hl : lv_has ls 5 [(3, .int 0), (2, .int 1000000), (0, .ref h0), (1, .int p1)] := hl
    have L32 : ∀ (n30 : Nat) (locs30 : List Loc) (v28 : Int32) (z28 : Int) (v29 : Int32) (z29 : Int) (ls : Array Slot), (6 - z28).toNat < n30 → v28.toInt = z28 → v29.toInt = z29 → z28 ≤ 6 → 0 ≤ z28 → va_S (AΓ Γ) H0 H23 locs30 → lv_has ls 5 [(3, .int v28), (2, .int v29), (0, .ref h0), (1, .int p1)] → W p l e (rmL 1) s m args below meth c H23 locs30 0 0 Qz (F0 m 32 ls []) := by
      intro n30
      induction n30 with
      | zero => intro locs30 v28 z28 v29 z29 ls hm30 ev28 ev29 iv30_0 iv30_1 hS30 hl; exact absurd hm30 (Nat.not_lt_zero _)
      | succ n30 ih30 =>
        intro locs30 v28 z28 v29 z29 ls hm30 ev28 ev29 iv30_0 iv30_1 hS30 hl
        refine lv_iload_n hx hb dX12_lowest_32 rfl (lv_at hl 0 rfl) ?_
        refine lv_aload_n hx hb dX12_lowest_33 rfl (lv_at hl 2 rfl) ?_
        refine q_getC E hC23 g0 fa_RX12_35 uc dX12_lowest_34 ?_
        refine lv_iconst (v := 1) hx hb dX12_lowest_37 rfl ?_
        refine q_cald E hC23 (lo := 0) (hi := 6) gca (a := 1) (show (1 : Int32).toInt = 1 from by decide) (by omega) (by omega) (cr_c0 (by omega) (by omega)) dX12_lowest_38 (fun v31 ev31 lv31 uv31 => ?_)
        refine q_icmp_ge hx hb (a := z28) (b := v31.toInt) ev28 rfl (tgt := 97) dX12_lowest_39 rfl (fun c32 => ?_) (fun c32 => ?_)
        · refine lv_iload_n hx hb dX12_lowest_97 rfl (lv_at hl 1 rfl) ?_
          exact ret v29 H23 locs30 _ _ dX12_lowest_98 ⟨hKp23, trivial⟩ hC23 hS30
        · refine lv_iconst (v := 0) hx hb dX12_lowest_42 rfl ?_
          refine lv_istore hx hb dX12_lowest_43 hl (by decide) rfl (fun ls hl => ?_)
          have hl : lv_has ls 5 [(4, .int 0), (3, .int v28), (2, .int v29), (0, .ref h0), (1, .int p1)] := hl
          have L45 : ∀ (n35 : Nat) (locs35 : List Loc) (v33 : Int32) (z33 : Int) (v34 : Int32) (z34 : Int) (ls : Array Slot), (6 - z33).toNat < n35 → v33.toInt = z33 → v34.toInt = z34 → z33 ≤ 6 → 0 ≤ z33 → va_S (AΓ Γ) H0 H23 locs35 → lv_has ls 5 [(4, .int v33), (3, .int v28), (2, .int v34), (0, .ref h0), (1, .int p1)] → W p l e (rmL 1) s m args below meth c H23 locs35 0 0 Qz (F0 m 45 ls []) := by
            intro n35
            induction n35 with
            | zero => intro locs35 v33 z33 v34 z34 ls hm35 ev33 ev34 iv35_0 iv35_1 hS35 hl; exact absurd hm35 (Nat.not_lt_zero _)
            | succ n35 ih35 =>
              intro locs35 v33 z33 v34 z34 ls hm35 ev33 ev34 iv35_0 iv35_1 hS35 hl
              refine lv_iload hx hb dX12_lowest_45 (lv_at hl 0 rfl) ?_
              refine lv_aload_n hx hb dX12_lowest_47 rfl (lv_at hl 3 rfl) ?_
              refine q_getC E hC23 g0 fa_RX12_35 uc dX12_lowest_48 ?_
              refine lv_iconst (v := 0) hx hb dX12_lowest_51 rfl ?_
              refine q_cald E hC23 (lo := 0) (hi := 6) gca (a := 0) (show (0 : Int32).toInt = 0 from by decide) (by omega) (by omega) (cr_c0 (by omega) (by omega)) dX12_lowest_52 (fun v36 ev36 lv36 uv36 => ?_)
              refine q_icmp_ge hx hb (a := z33) (b := v36.toInt) ev33 rfl (tgt := 91) dX12_lowest_53 rfl (fun c37 => ?_) (fun c37 => ?_)
              · obtain ⟨v38, ev38⟩ : ∃ z, z = v28 + Int32.ofInt 1 := ⟨_, rfl⟩
                have ev38i : v38.toInt = (z28 + 1) := i_add ev38 ev28 (by decide) (by omega) (by omega)
                refine lv_iinc hx hb dX12_lowest_91 hl (k := 1) rfl ev38.symm (by decide) rfl (fun ls hl => ?_)
                have hl : lv_has ls 5 [(3, .int v38), (4, .int v33), (2, .int v34), (0, .ref h0), (1, .int p1)] := hl
                refine lv_goto (tgt := 32) hx hb dX12_lowest_94 rfl ?_
                exact ih30 locs35 v38 ((z28 + 1)) v34 (z34) ls (by omega) ev38i ev34 (by omega) (by omega) hS35 (lv_sub hl [0, 2, 3, 4] rfl)
              · refine lv_aload_n hx hb dX12_lowest_56 rfl (lv_at hl 3 rfl) ?_
                refine lv_iload hx hb dX12_lowest_57 (lv_at hl 0 rfl) ?_
                refine q_goIp (q_runV (As := [.int v33]) (rest := []) E hC23 hS35 (m_X12_halfOf l X Γ H23 hC23 h0 g0 v33 (a1 := z33) ev33 ca gca uc) cw_X12_halfOf cl_RX12_270 g0 ⟨rfl, rfl⟩ rfl hl.1 rfl (Nat.zero_le _) (by decide) dX12_lowest_59) hS35 (fun v39 locs39 hr39 hS39 => ?_)
                obtain ⟨f39_0, f39_1⟩ := hr39
                refine lv_iload_n hx hb dX12_lowest_62 rfl (lv_at hl 4 rfl) ?_
                refine q_icmp_ne hx hb (a := v39.toInt) (b := a1) rfl e1 (tgt := 83) dX12_lowest_63 rfl (fun c40 => ?_) (fun c40 => ?_)
                · refine lv_iload_n hx hb dX12_lowest_83 rfl (lv_at hl 2 rfl) ?_
                  refine lv_istore_n hx hb dX12_lowest_84 rfl hl (by decide) rfl (fun ls hl => ?_)
                  have hl : lv_has ls 5 [(2, .int v34), (4, .int v33), (3, .int v28), (0, .ref h0), (1, .int p1)] := hl
                  obtain ⟨v41, ev41⟩ : ∃ z, z = v33 + Int32.ofInt 1 := ⟨_, rfl⟩
                  have ev41i : v41.toInt = (z33 + 1) := i_add ev41 ev33 (by decide) (by omega) (by omega)
                  refine lv_iinc hx hb dX12_lowest_85 hl (k := 1) rfl ev41.symm (by decide) rfl (fun ls hl => ?_)
                  have hl : lv_has ls 5 [(4, .int v41), (2, .int v34), (3, .int v28), (0, .ref h0), (1, .int p1)] := hl
                  refine lv_goto (tgt := 45) hx hb dX12_lowest_88 rfl ?_
                  exact ih35 locs39 v41 ((z33 + 1)) v34 (z34) ls (by omega) ev41i ev34 (by omega) (by omega) hS39 (lv_sub hl [0, 2, 1, 3, 4] rfl)
                · refine lv_iload_n hx hb dX12_lowest_66 rfl (lv_at hl 2 rfl) ?_
                  refine lv_aload_n hx hb dX12_lowest_67 rfl (lv_at hl 3 rfl) ?_
                  refine lv_iload hx hb dX12_lowest_68 (lv_at hl 0 rfl) ?_
                  refine lv_iload_n hx hb dX12_lowest_70 rfl (lv_at hl 1 rfl) ?_
                  refine q_goIp (q_runS (As := [.int v33, .int v28]) (rest := [.ref h0, .int v34]) E hS39 (m_X12_at2 l X Γ H23 hC23 v33 (a0 := z33) ev33 v28 (a1 := z28) ev28 (by omega) (by omega) (by omega) (by omega)) cw_X12_at2 cl_RX12_292 rfl hl.1 rfl (show _ ≤ _ from by simp [Value.category]) (by decide) dX12_lowest_71) hS39 (fun v42 locs42 hr42 hS42 => ?_)
                  have f42_0 := hr42
                  refine q_goIp (q_runV (As := [.int v42]) (rest := [.int v34]) E hC23 hS42 (m_X12_topOf l X Γ H23 hC23 h0 g0 v42 (a1 := v42.toInt) rfl ca gca uc (by omega) (by omega)) cw_X12_topOf cl_RX12_359 g0 ⟨rfl, rfl⟩ rfl hl.1 rfl (show _ ≤ _ from by simp [Value.category]) (by decide) dX12_lowest_74) hS42 (fun v43 locs43 hr43 hS43 => ?_)
                  obtain ⟨f43_0, f43_1, f43_2⟩ := hr43
                  refine q_mmin E hl.1 w_1740 mathw_min (a := z34) (b := v43.toInt) ev34 rfl (by decide) (Nat.zero_le _) dX12_lowest_77 (fun v44 mv44a mv44b mv44c => ?_)
                  refine lv_goto (tgt := 84) hx hb dX12_lowest_80 rfl ?_
                  refine lv_istore_n hx hb dX12_lowest_84 rfl hl (by decide) rfl (fun ls hl => ?_)
                  have hl : lv_has ls 5 [(2, .int v44), (4, .int v33), (3, .int v28), (0, .ref h0), (1, .int p1)] := hl
                  obtain ⟨v45, ev45⟩ : ∃ z, z = v33 + Int32.ofInt 1 := ⟨_, rfl⟩
                  have ev45i : v45.toInt = (z33 + 1) := i_add ev45 ev33 (by decide) (by omega) (by omega)
                  refine lv_iinc hx hb dX12_lowest_85 hl (k := 1) rfl ev45.symm (by decide) rfl (fun ls hl => ?_)
                  have hl : lv_has ls 5 [(4, .int v45), (2, .int v44), (3, .int v28), (0, .ref h0), (1, .int p1)] := hl
                  refine lv_goto (tgt := 45) hx hb dX12_lowest_88 rfl ?_
                  exact ih35 locs43 v45 ((z33 + 1)) v44 (v44.toInt) ls (by omega) ev45i rfl (by omega) (by omega) hS43 (lv_sub hl [0, 2, 1, 3, 4] rfl)
          exact L45 _ locs30 0 0 v29 z29 ls (Nat.lt_succ_self _) (by decide) ev29 (by omega) (by omega) hS30 hl
    exact L32 _ locs26 0 0 1000000 1000000 ls (Nat.lt_succ_self _) (by decide) (by decide) (by omega) (by omega) hS26 hl
  · refine q_if_ne hx hb (a := 0) (by decide) (tgt := 26) dX12_lowest_17 rfl (fun c46 => absurd c46 (by omega)) (fun c46 => ?_)
    refine lv_aload_n hx hb dX12_lowest_20 rfl (lv_at hl 0 rfl) ?_
    refine lv_iconst (v := 5) hx hb dX12_lowest_21 rfl ?_
    refine q_goI (q_runV (As := [.int 5]) (rest := []) E hC23 hS26 (m_X12_refuse l X Γ H23 hC23 h0 g0 5 (a1 := 5) (by decide) ca gca uc) cw_X12_refuse cl_RX12_298 g0 ⟨rfl, rfl⟩ rfl hl.1 rfl (Nat.zero_le _) (by decide) dX12_lowest_22) hS26 (fun v47 H47 locs47 hr47 hC47 hS47 => ?_)
    obtain ⟨hp47, hr47⟩ := hr47
    have hKp47 := hKp23.tr (hp47.mono rfl)
    have f47_0 := hr47
    exact ret v47 H47 locs47 _ _ dX12_lowest_25 ⟨hKp47, trivial⟩ hC47 hS47
set_option maxRecDepth 100000 in
set_option maxHeartbeats 4000000 in
theorem m_X12_highest (l : Launch) (X : xW) (Γ : Nat → Option Nat) (H0 : Heap) (hC0 : Conf X Γ H0) (h0 : Nat) (g0 : Γ h0 = some 11) (p1 : Int32) {a1 : Int} (e1 : p1.toInt = a1) (ca : Nat) (gca : Γ ca = some 64) (uc : ∀ a, Γ a = some 64 → a = ca) : Ctr l X Γ yX12_highest cX12_highest 5 (some .int) 1 [.ref h0, .int p1] H0 (QI X Γ (fun v H1 => Kp X Γ [1, 6, 7, 8, 9, 10, 11, 12, 14, 15, 16, 17, 19, 22, 24] H0 H1 ∧ (True))) := by
  refine q_enterI (own := "SnowFortsModel") (by decide) rfl (Nat.le_of_ble_eq_true rfl) ?_
  intro p e s m args below meth c ls Qz E hl ret hS0
  have hx := E.1; have hb := E.2.1
  have hKp0 : Kp X Γ [1, 6, 7, 8, 9, 10, 11, 12, 14, 15, 16, 17, 19, 22, 24] H0 H0 := Kp.rf
  have hl : lv_has ls 5 [(0, .ref h0), (1, .int p1)] := hl
  refine lv_aload_n hx hb dX12_highest_0 rfl (lv_at hl 0 rfl) ?_
  refine lv_iconst (v := 0) hx hb dX12_highest_1 rfl ?_
  refine q_put E hC0 hS0 g0 fp_RX12_69 tv_F rfl rfl dX12_highest_2 (fun H21 locs21 hC21 hS21 U21 => ?_)
  have hKp21 := Kp.upO E g0 fp_RX12_69 rfl U21 hKp0
  have e22 := up_I U21
  refine lv_aload_n hx hb dX12_highest_5 rfl (lv_at hl 0 rfl) ?_
  refine lv_iconst (v := 0) hx hb dX12_highest_6 rfl ?_
  refine q_put E hC21 hS21 g0 fp_RX12_72 tv_F rfl rfl dX12_highest_7 (fun H23 locs23 hC23 hS23 U23 => ?_)
  have hKp23 := Kp.upO E g0 fp_RX12_72 rfl U23 hKp21
  have e24 := up_I U23
  refine lv_iload_n hx hb dX12_highest_10 rfl (lv_at hl 1 rfl) ?_
  refine lv_i2l (v := p1.toInt64) hx hb dX12_highest_11 rfl (lv_topl (fun v25 ev25 => ?_))
  have ev25i : v25.toInt = a1 := l_ofi ev25.symm e1
  refine lv_lconst (v := 0) hx hb dX12_highest_12 rfl ?_
  refine lv_lconst (v := 1) hx hb dX12_highest_13 rfl ?_
  refine q_goIp (q_runS (As := [.long v25, .long 0, .long 1]) (rest := []) E hS23 (m_X12_isIn l X Γ H23 hC23 v25 (a0 := a1) ev25i 0 (a1 := 0) (show (0 : Int64).toInt = 0 from by decide) 1 (a2 := 1) (show (1 : Int64).toInt = 1 from by decide)) cw_X12_isIn cl_RX12_104 rfl hl.1 rfl (Nat.zero_le _) (by decide) dX12_highest_14) hS23 (fun v26 locs26 hr26 hS26 => ?_)
  rcases hr26 with ⟨rfl, f26a0, f26a1⟩ | ⟨rfl, f26b⟩
  · refine q_if_ne hx hb (a := 1) (by decide) (tgt := 26) dX12_highest_17 rfl (fun c27 => ?_) (fun c27 => absurd c27 (by omega))
    refine lv_iconst (v := 0) hx hb dX12_highest_26 rfl ?_
    refine lv_istore_n hx hb dX12_highest_27 rfl hl (by decide) rfl (fun ls hl => ?_)
    have hl : lv_has ls 5 [(2, .int 0), (0, .ref h0), (1, .int p1)] := hl
    refine lv_iconst (v := 0) hx hb dX12_highest_28 rfl ?_
    refine lv_istore_n hx hb dX12_highest_29 rfl hl (by decide) rfl (fun ls hl => ?_)
    have hl : lv_has ls 5 [(3, .int 0), (2, .int 0), (0, .ref h0), (1, .int p1)] := hl
    have L30 : ∀ (n30 : Nat) (locs30 : List Loc) (v28 : Int32) (z28 : Int) (v29 : Int32) (z29 : Int) (ls : Array Slot), (6 - z28).toNat < n30 → v28.toInt = z28 → v29.toInt = z29 → z28 ≤ 6 → 0 ≤ z28 → va_S (AΓ Γ) H0 H23 locs30 → lv_has ls 5 [(3, .int v28), (2, .int v29), (0, .ref h0), (1, .int p1)] → W p l e (rmL 1) s m args below meth c H23 locs30 0 0 Qz (F0 m 30 ls []) := by
      intro n30
      induction n30 with
      | zero => intro locs30 v28 z28 v29 z29 ls hm30 ev28 ev29 iv30_0 iv30_1 hS30 hl; exact absurd hm30 (Nat.not_lt_zero _)
      | succ n30 ih30 =>
        intro locs30 v28 z28 v29 z29 ls hm30 ev28 ev29 iv30_0 iv30_1 hS30 hl
        refine lv_iload_n hx hb dX12_highest_30 rfl (lv_at hl 0 rfl) ?_
        refine lv_aload_n hx hb dX12_highest_31 rfl (lv_at hl 2 rfl) ?_
        refine q_getC E hC23 g0 fa_RX12_35 uc dX12_highest_32 ?_
        refine lv_iconst (v := 1) hx hb dX12_highest_35 rfl ?_
        refine q_cald E hC23 (lo := 0) (hi := 6) gca (a := 1) (show (1 : Int32).toInt = 1 from by decide) (by omega) (by omega) (cr_c0 (by omega) (by omega)) dX12_highest_36 (fun v31 ev31 lv31 uv31 => ?_)
        refine q_icmp_ge hx hb (a := z28) (b := v31.toInt) ev28 rfl (tgt := 95) dX12_highest_37 rfl (fun c32 => ?_) (fun c32 => ?_)
        · refine lv_iload_n hx hb dX12_highest_95 rfl (lv_at hl 1 rfl) ?_
          exact ret v29 H23 locs30 _ _ dX12_highest_96 ⟨hKp23, trivial⟩ hC23 hS30
        · refine lv_iconst (v := 0) hx hb dX12_highest_40 rfl ?_
          refine lv_istore hx hb dX12_highest_41 hl (by decide) rfl (fun ls hl => ?_)
          have hl : lv_has ls 5 [(4, .int 0), (3, .int v28), (2, .int v29), (0, .ref h0), (1, .int p1)] := hl
          have L43 : ∀ (n35 : Nat) (locs35 : List Loc) (v33 : Int32) (z33 : Int) (v34 : Int32) (z34 : Int) (ls : Array Slot), (6 - z33).toNat < n35 → v33.toInt = z33 → v34.toInt = z34 → z33 ≤ 6 → 0 ≤ z33 → va_S (AΓ Γ) H0 H23 locs35 → lv_has ls 5 [(4, .int v33), (3, .int v28), (2, .int v34), (0, .ref h0), (1, .int p1)] → W p l e (rmL 1) s m args below meth c H23 locs35 0 0 Qz (F0 m 43 ls []) := by
            intro n35
            induction n35 with
            | zero => intro locs35 v33 z33 v34 z34 ls hm35 ev33 ev34 iv35_0 iv35_1 hS35 hl; exact absurd hm35 (Nat.not_lt_zero _)
            | succ n35 ih35 =>
              intro locs35 v33 z33 v34 z34 ls hm35 ev33 ev34 iv35_0 iv35_1 hS35 hl
              refine lv_iload hx hb dX12_highest_43 (lv_at hl 0 rfl) ?_
              refine lv_aload_n hx hb dX12_highest_45 rfl (lv_at hl 3 rfl) ?_
              refine q_getC E hC23 g0 fa_RX12_35 uc dX12_highest_46 ?_
              refine lv_iconst (v := 0) hx hb dX12_highest_49 rfl ?_
              refine q_cald E hC23 (lo := 0) (hi := 6) gca (a := 0) (show (0 : Int32).toInt = 0 from by decide) (by omega) (by omega) (cr_c0 (by omega) (by omega)) dX12_highest_50 (fun v36 ev36 lv36 uv36 => ?_)
              refine q_icmp_ge hx hb (a := z33) (b := v36.toInt) ev33 rfl (tgt := 89) dX12_highest_51 rfl (fun c37 => ?_) (fun c37 => ?_)
              · obtain ⟨v38, ev38⟩ : ∃ z, z = v28 + Int32.ofInt 1 := ⟨_, rfl⟩
                have ev38i : v38.toInt = (z28 + 1) := i_add ev38 ev28 (by decide) (by omega) (by omega)
                refine lv_iinc hx hb dX12_highest_89 hl (k := 1) rfl ev38.symm (by decide) rfl (fun ls hl => ?_)
                have hl : lv_has ls 5 [(3, .int v38), (4, .int v33), (2, .int v34), (0, .ref h0), (1, .int p1)] := hl
                refine lv_goto (tgt := 30) hx hb dX12_highest_92 rfl ?_
                exact ih30 locs35 v38 ((z28 + 1)) v34 (z34) ls (by omega) ev38i ev34 (by omega) (by omega) hS35 (lv_sub hl [0, 2, 3, 4] rfl)
              · refine lv_aload_n hx hb dX12_highest_54 rfl (lv_at hl 3 rfl) ?_
                refine lv_iload hx hb dX12_highest_55 (lv_at hl 0 rfl) ?_
                refine q_goIp (q_runV (As := [.int v33]) (rest := []) E hC23 hS35 (m_X12_halfOf l X Γ H23 hC23 h0 g0 v33 (a1 := z33) ev33 ca gca uc) cw_X12_halfOf cl_RX12_270 g0 ⟨rfl, rfl⟩ rfl hl.1 rfl (Nat.zero_le _) (by decide) dX12_highest_57) hS35 (fun v39 locs39 hr39 hS39 => ?_)
                obtain ⟨f39_0, f39_1⟩ := hr39
                refine lv_iload_n hx hb dX12_highest_60 rfl (lv_at hl 4 rfl) ?_
                refine q_icmp_ne hx hb (a := v39.toInt) (b := a1) rfl e1 (tgt := 81) dX12_highest_61 rfl (fun c40 => ?_) (fun c40 => ?_)
                · refine lv_iload_n hx hb dX12_highest_81 rfl (lv_at hl 2 rfl) ?_
                  refine lv_istore_n hx hb dX12_highest_82 rfl hl (by decide) rfl (fun ls hl => ?_)
                  have hl : lv_has ls 5 [(2, .int v34), (4, .int v33), (3, .int v28), (0, .ref h0), (1, .int p1)] := hl
                  obtain ⟨v41, ev41⟩ : ∃ z, z = v33 + Int32.ofInt 1 := ⟨_, rfl⟩
                  have ev41i : v41.toInt = (z33 + 1) := i_add ev41 ev33 (by decide) (by omega) (by omega)
                  refine lv_iinc hx hb dX12_highest_83 hl (k := 1) rfl ev41.symm (by decide) rfl (fun ls hl => ?_)
                  have hl : lv_has ls 5 [(4, .int v41), (2, .int v34), (3, .int v28), (0, .ref h0), (1, .int p1)] := hl
                  refine lv_goto (tgt := 43) hx hb dX12_highest_86 rfl ?_
                  exact ih35 locs39 v41 ((z33 + 1)) v34 (z34) ls (by omega) ev41i ev34 (by omega) (by omega) hS39 (lv_sub hl [0, 2, 1, 3, 4] rfl)
                · refine lv_iload_n hx hb dX12_highest_64 rfl (lv_at hl 2 rfl) ?_
                  refine lv_aload_n hx hb dX12_highest_65 rfl (lv_at hl 3 rfl) ?_
                  refine lv_iload hx hb dX12_highest_66 (lv_at hl 0 rfl) ?_
                  refine lv_iload_n hx hb dX12_highest_68 rfl (lv_at hl 1 rfl) ?_
                  refine q_goIp (q_runS (As := [.int v33, .int v28]) (rest := [.ref h0, .int v34]) E hS39 (m_X12_at2 l X Γ H23 hC23 v33 (a0 := z33) ev33 v28 (a1 := z28) ev28 (by omega) (by omega) (by omega) (by omega)) cw_X12_at2 cl_RX12_292 rfl hl.1 rfl (show _ ≤ _ from by simp [Value.category]) (by decide) dX12_highest_69) hS39 (fun v42 locs42 hr42 hS42 => ?_)
                  have f42_0 := hr42
                  refine q_goIp (q_runV (As := [.int v42]) (rest := [.int v34]) E hC23 hS42 (m_X12_topOf l X Γ H23 hC23 h0 g0 v42 (a1 := v42.toInt) rfl ca gca uc (by omega) (by omega)) cw_X12_topOf cl_RX12_359 g0 ⟨rfl, rfl⟩ rfl hl.1 rfl (show _ ≤ _ from by simp [Value.category]) (by decide) dX12_highest_72) hS42 (fun v43 locs43 hr43 hS43 => ?_)
                  obtain ⟨f43_0, f43_1, f43_2⟩ := hr43
                  refine q_mmax E hl.1 w_1731 mathw_max (a := z34) (b := v43.toInt) ev34 rfl (by decide) (Nat.zero_le _) dX12_highest_75 (fun v44 mv44a mv44b mv44c => ?_)
                  refine lv_goto (tgt := 82) hx hb dX12_highest_78 rfl ?_
                  refine lv_istore_n hx hb dX12_highest_82 rfl hl (by decide) rfl (fun ls hl => ?_)
                  have hl : lv_has ls 5 [(2, .int v44), (4, .int v33), (3, .int v28), (0, .ref h0), (1, .int p1)] := hl
                  obtain ⟨v45, ev45⟩ : ∃ z, z = v33 + Int32.ofInt 1 := ⟨_, rfl⟩
                  have ev45i : v45.toInt = (z33 + 1) := i_add ev45 ev33 (by decide) (by omega) (by omega)
                  refine lv_iinc hx hb dX12_highest_83 hl (k := 1) rfl ev45.symm (by decide) rfl (fun ls hl => ?_)
                  have hl : lv_has ls 5 [(4, .int v45), (2, .int v44), (3, .int v28), (0, .ref h0), (1, .int p1)] := hl
                  refine lv_goto (tgt := 43) hx hb dX12_highest_86 rfl ?_
                  exact ih35 locs43 v45 ((z33 + 1)) v44 (v44.toInt) ls (by omega) ev45i rfl (by omega) (by omega) hS43 (lv_sub hl [0, 2, 1, 3, 4] rfl)
          exact L43 _ locs30 0 0 v29 z29 ls (Nat.lt_succ_self _) (by decide) ev29 (by omega) (by omega) hS30 hl
    exact L30 _ locs26 0 0 0 0 ls (Nat.lt_succ_self _) (by decide) (by decide) (by omega) (by omega) hS26 hl
  · refine q_if_ne hx hb (a := 0) (by decide) (tgt := 26) dX12_highest_17 rfl (fun c46 => absurd c46 (by omega)) (fun c46 => ?_)
    refine lv_aload_n hx hb dX12_highest_20 rfl (lv_at hl 0 rfl) ?_
    refine lv_iconst (v := 5) hx hb dX12_highest_21 rfl ?_
    refine q_goI (q_runV (As := [.int 5]) (rest := []) E hC23 hS26 (m_X12_refuse l X Γ H23 hC23 h0 g0 5 (a1 := 5) (by decide) ca gca uc) cw_X12_refuse cl_RX12_298 g0 ⟨rfl, rfl⟩ rfl hl.1 rfl (Nat.zero_le _) (by decide) dX12_highest_22) hS26 (fun v47 H47 locs47 hr47 hC47 hS47 => ?_)
    obtain ⟨hp47, hr47⟩ := hr47
    have hKp47 := hKp23.tr (hp47.mono rfl)
    have f47_0 := hr47
    exact ret v47 H47 locs47 _ _ dX12_highest_25 ⟨hKp47, trivial⟩ hC47 hS47
set_option maxRecDepth 100000 in
set_option maxHeartbeats 4000000 in
theorem m_X12_steepest (l : Launch) (X : xW) (Γ : Nat → Option Nat) (H0 : Heap) (hC0 : Conf X Γ H0) (h0 : Nat) (g0 : Γ h0 = some 11) (ca : Nat) (gca : Γ ca = some 64) (uc : ∀ a, Γ a = some 64 → a = ca) : Ctr l X Γ yX12_steepest cX12_steepest 4 (some .int) 1 [.ref h0] H0 (QI X Γ (fun v H1 => Kp X Γ [1, 6, 7, 8, 9, 10, 11, 12, 14, 15, 16, 17, 19, 22, 24] H0 H1 ∧ (True))) := by
  refine q_enterI (own := "SnowFortsModel") (by decide) rfl (Nat.le_of_ble_eq_true rfl) ?_
  intro p e s m args below meth c ls Qz E hl ret hS0
  have hx := E.1; have hb := E.2.1
  have hKp0 : Kp X Γ [1, 6, 7, 8, 9, 10, 11, 12, 14, 15, 16, 17, 19, 22, 24] H0 H0 := Kp.rf
  have hl : lv_has ls 4 [(0, .ref h0)] := hl
  refine lv_aload_n hx hb dX12_steepest_0 rfl (lv_at hl 0 rfl) ?_
  refine lv_iconst (v := 0) hx hb dX12_steepest_1 rfl ?_
  refine q_put E hC0 hS0 g0 fp_RX12_69 tv_F rfl rfl dX12_steepest_2 (fun H21 locs21 hC21 hS21 U21 => ?_)
  have hKp21 := Kp.upO E g0 fp_RX12_69 rfl U21 hKp0
  have e22 := up_I U21
  refine lv_aload_n hx hb dX12_steepest_5 rfl (lv_at hl 0 rfl) ?_
  refine lv_iconst (v := 0) hx hb dX12_steepest_6 rfl ?_
  refine q_put E hC21 hS21 g0 fp_RX12_72 tv_F rfl rfl dX12_steepest_7 (fun H23 locs23 hC23 hS23 U23 => ?_)
  have hKp23 := Kp.upO E g0 fp_RX12_72 rfl U23 hKp21
  have e24 := up_I U23
  refine lv_iconst (v := 0) hx hb dX12_steepest_10 rfl ?_
  refine lv_istore_n hx hb dX12_steepest_11 rfl hl (by decide) rfl (fun ls hl => ?_)
  have hl : lv_has ls 4 [(1, .int 0), (0, .ref h0)] := hl
  refine lv_iconst (v := 0) hx hb dX12_steepest_12 rfl ?_
  refine lv_istore_n hx hb dX12_steepest_13 rfl hl (by decide) rfl (fun ls hl => ?_)
  have hl : lv_has ls 4 [(2, .int 0), (1, .int 0), (0, .ref h0)] := hl
  have L14 : ∀ (n27 : Nat) (locs27 : List Loc) (v25 : Int32) (z25 : Int) (v26 : Int32) (z26 : Int) (ls : Array Slot), (6 - z25).toNat < n27 → v25.toInt = z25 → v26.toInt = z26 → z25 ≤ 6 → 0 ≤ z25 → va_S (AΓ Γ) H0 H23 locs27 → lv_has ls 4 [(2, .int v25), (1, .int v26), (0, .ref h0)] → W p l e (rmL 1) s m args below meth c H23 locs27 0 0 Qz (F0 m 14 ls []) := by
    intro n27
    induction n27 with
    | zero => intro locs27 v25 z25 v26 z26 ls hm27 ev25 ev26 iv27_0 iv27_1 hS27 hl; exact absurd hm27 (Nat.not_lt_zero _)
    | succ n27 ih27 =>
      intro locs27 v25 z25 v26 z26 ls hm27 ev25 ev26 iv27_0 iv27_1 hS27 hl
      refine lv_iload_n hx hb dX12_steepest_14 rfl (lv_at hl 0 rfl) ?_
      refine lv_aload_n hx hb dX12_steepest_15 rfl (lv_at hl 2 rfl) ?_
      refine q_getC E hC23 g0 fa_RX12_35 uc dX12_steepest_16 ?_
      refine lv_iconst (v := 1) hx hb dX12_steepest_19 rfl ?_
      refine q_cald E hC23 (lo := 0) (hi := 6) gca (a := 1) (show (1 : Int32).toInt = 1 from by decide) (by omega) (by omega) (cr_c0 (by omega) (by omega)) dX12_steepest_20 (fun v28 ev28 lv28 uv28 => ?_)
      refine q_icmp_ge hx hb (a := z25) (b := v28.toInt) ev25 rfl (tgt := 114) dX12_steepest_21 rfl (fun c29 => ?_) (fun c29 => ?_)
      · refine lv_iload_n hx hb dX12_steepest_114 rfl (lv_at hl 1 rfl) ?_
        exact ret v26 H23 locs27 _ _ dX12_steepest_115 ⟨hKp23, trivial⟩ hC23 hS27
      · refine lv_iconst (v := 0) hx hb dX12_steepest_24 rfl ?_
        refine lv_istore_n hx hb dX12_steepest_25 rfl hl (by decide) rfl (fun ls hl => ?_)
        have hl : lv_has ls 4 [(3, .int 0), (2, .int v25), (1, .int v26), (0, .ref h0)] := hl
        have L26 : ∀ (n32 : Nat) (locs32 : List Loc) (v30 : Int32) (z30 : Int) (v31 : Int32) (z31 : Int) (ls : Array Slot), (6 - z30).toNat < n32 → v30.toInt = z30 → v31.toInt = z31 → z30 ≤ 6 → 0 ≤ z30 → va_S (AΓ Γ) H0 H23 locs32 → lv_has ls 4 [(3, .int v30), (2, .int v25), (1, .int v31), (0, .ref h0)] → W p l e (rmL 1) s m args below meth c H23 locs32 0 0 Qz (F0 m 26 ls []) := by
          intro n32
          induction n32 with
          | zero => intro locs32 v30 z30 v31 z31 ls hm32 ev30 ev31 iv32_0 iv32_1 hS32 hl; exact absurd hm32 (Nat.not_lt_zero _)
          | succ n32 ih32 =>
            intro locs32 v30 z30 v31 z31 ls hm32 ev30 ev31 iv32_0 iv32_1 hS32 hl
            refine lv_iload_n hx hb dX12_steepest_26 rfl (lv_at hl 0 rfl) ?_
            refine lv_aload_n hx hb dX12_steepest_27 rfl (lv_at hl 3 rfl) ?_
            refine q_getC E hC23 g0 fa_RX12_35 uc dX12_steepest_28 ?_
            refine lv_iconst (v := 0) hx hb dX12_steepest_31 rfl ?_
            refine q_cald E hC23 (lo := 0) (hi := 6) gca (a := 0) (show (0 : Int32).toInt = 0 from by decide) (by omega) (by omega) (cr_c0 (by omega) (by omega)) dX12_steepest_32 (fun v33 ev33 lv33 uv33 => ?_)
            refine q_icmp_ge hx hb (a := z30) (b := v33.toInt) ev30 rfl (tgt := 108) dX12_steepest_33 rfl (fun c34 => ?_) (fun c34 => ?_)
            · obtain ⟨v35, ev35⟩ : ∃ z, z = v25 + Int32.ofInt 1 := ⟨_, rfl⟩
              have ev35i : v35.toInt = (z25 + 1) := i_add ev35 ev25 (by decide) (by omega) (by omega)
              refine lv_iinc hx hb dX12_steepest_108 hl (k := 1) rfl ev35.symm (by decide) rfl (fun ls hl => ?_)
              have hl : lv_has ls 4 [(2, .int v35), (3, .int v30), (1, .int v31), (0, .ref h0)] := hl
              refine lv_goto (tgt := 14) hx hb dX12_steepest_111 rfl ?_
              exact ih27 locs32 v35 ((z25 + 1)) v31 (z31) ls (by omega) ev35i ev31 (by omega) (by omega) hS32 (lv_sub hl [0, 2, 3] rfl)
            · refine lv_iload_n hx hb dX12_steepest_36 rfl (lv_at hl 0 rfl) ?_
              refine q_if_le hx hb (a := z30) ev30 (tgt := 69) dX12_steepest_37 rfl (fun c36 => ?_) (fun c36 => ?_)
              · refine lv_iload_n hx hb dX12_steepest_69 rfl (lv_at hl 1 rfl) ?_
                refine q_if_le hx hb (a := z25) ev25 (tgt := 102) dX12_steepest_70 rfl (fun c37 => ?_) (fun c37 => ?_)
                · obtain ⟨v38, ev38⟩ : ∃ z, z = v30 + Int32.ofInt 1 := ⟨_, rfl⟩
                  have ev38i : v38.toInt = (z30 + 1) := i_add ev38 ev30 (by decide) (by omega) (by omega)
                  refine lv_iinc hx hb dX12_steepest_102 hl (k := 0) rfl ev38.symm (by decide) rfl (fun ls hl => ?_)
                  have hl : lv_has ls 4 [(3, .int v38), (2, .int v25), (1, .int v31), (0, .ref h0)] := hl
                  refine lv_goto (tgt := 26) hx hb dX12_steepest_105 rfl ?_
                  exact ih32 locs32 v38 ((z30 + 1)) v31 (z31) ls (by omega) ev38i ev31 (by omega) (by omega) hS32 hl
                · refine lv_iload_n hx hb dX12_steepest_73 rfl (lv_at hl 2 rfl) ?_
                  refine lv_aload_n hx hb dX12_steepest_74 rfl (lv_at hl 3 rfl) ?_
                  refine lv_iload_n hx hb dX12_steepest_75 rfl (lv_at hl 0 rfl) ?_
                  refine lv_iload_n hx hb dX12_steepest_76 rfl (lv_at hl 1 rfl) ?_
                  refine q_goIp (q_runS (As := [.int v30, .int v25]) (rest := [.ref h0, .int v31]) E hS32 (m_X12_at2 l X Γ H23 hC23 v30 (a0 := z30) ev30 v25 (a1 := z25) ev25 (by omega) (by omega) (by omega) (by omega)) cw_X12_at2 cl_RX12_292 rfl hl.1 rfl (show _ ≤ _ from by simp [Value.category]) (by decide) dX12_steepest_77) hS32 (fun v39 locs39 hr39 hS39 => ?_)
                  have f39_0 := hr39
                  refine q_goIp (q_runV (As := [.int v39]) (rest := [.int v31]) E hC23 hS39 (m_X12_topOf l X Γ H23 hC23 h0 g0 v39 (a1 := v39.toInt) rfl ca gca uc (by omega) (by omega)) cw_X12_topOf cl_RX12_359 g0 ⟨rfl, rfl⟩ rfl hl.1 rfl (show _ ≤ _ from by simp [Value.category]) (by decide) dX12_steepest_80) hS39 (fun v40 locs40 hr40 hS40 => ?_)
                  obtain ⟨f40_0, f40_1, f40_2⟩ := hr40
                  refine lv_aload_n hx hb dX12_steepest_83 rfl (lv_at hl 3 rfl) ?_
                  refine lv_iload_n hx hb dX12_steepest_84 rfl (lv_at hl 0 rfl) ?_
                  refine lv_iload_n hx hb dX12_steepest_85 rfl (lv_at hl 1 rfl) ?_
                  refine lv_iconst (v := 1) hx hb dX12_steepest_86 rfl ?_
                  refine lv_isub hx hb dX12_steepest_87 (lv_topi (fun v41 ev41 => ?_))
                  have ev41i : v41.toInt = (z25 - 1) := i_sub ev41 ev25 (by decide) (by omega) (by omega)
                  refine q_goIp (q_runS (As := [.int v30, .int v41]) (rest := [.ref h0, .int v40, .int v31]) E hS40 (m_X12_at2 l X Γ H23 hC23 v30 (a0 := z30) ev30 v41 (a1 := (z25 - 1)) ev41i (by omega) (by omega) (by omega) (by omega)) cw_X12_at2 cl_RX12_292 rfl hl.1 rfl (show _ ≤ _ from by simp [Value.category]) (by decide) dX12_steepest_88) hS40 (fun v42 locs42 hr42 hS42 => ?_)
                  have f42_0 := hr42
                  refine q_goIp (q_runV (As := [.int v42]) (rest := [.int v40, .int v31]) E hC23 hS42 (m_X12_topOf l X Γ H23 hC23 h0 g0 v42 (a1 := v42.toInt) rfl ca gca uc (by omega) (by omega)) cw_X12_topOf cl_RX12_359 g0 ⟨rfl, rfl⟩ rfl hl.1 rfl (show _ ≤ _ from by simp [Value.category]) (by decide) dX12_steepest_91) hS42 (fun v43 locs43 hr43 hS43 => ?_)
                  obtain ⟨f43_0, f43_1, f43_2⟩ := hr43
                  refine lv_isub hx hb dX12_steepest_94 (lv_topi (fun v44 ev44 => ?_))
                  have ev44i : v44.toInt = (v40.toInt - v43.toInt) := i_sub ev44 rfl rfl (by omega) (by omega)
                  refine q_mabs E hl.1 w_1822 mathw_abs (by decide) (show _ ≤ _ from by simp [Value.category]) dX12_steepest_95 (fun v45 => ?_)
                  refine q_mmax E hl.1 w_1731 mathw_max (a := z31) (b := v45.toInt) ev31 rfl (by decide) (Nat.zero_le _) dX12_steepest_98 (fun v46 mv46a mv46b mv46c => ?_)
                  refine lv_istore_n hx hb dX12_steepest_101 rfl hl (by decide) rfl (fun ls hl => ?_)
                  have hl : lv_has ls 4 [(1, .int v46), (3, .int v30), (2, .int v25), (0, .ref h0)] := hl
                  obtain ⟨v47, ev47⟩ : ∃ z, z = v30 + Int32.ofInt 1 := ⟨_, rfl⟩
                  have ev47i : v47.toInt = (z30 + 1) := i_add ev47 ev30 (by decide) (by omega) (by omega)
                  refine lv_iinc hx hb dX12_steepest_102 hl (k := 1) rfl ev47.symm (by decide) rfl (fun ls hl => ?_)
                  have hl : lv_has ls 4 [(3, .int v47), (1, .int v46), (2, .int v25), (0, .ref h0)] := hl
                  refine lv_goto (tgt := 26) hx hb dX12_steepest_105 rfl ?_
                  exact ih32 locs43 v47 ((z30 + 1)) v46 (v46.toInt) ls (by omega) ev47i rfl (by omega) (by omega) hS43 (lv_sub hl [0, 2, 1, 3] rfl)
              · refine lv_iload_n hx hb dX12_steepest_40 rfl (lv_at hl 2 rfl) ?_
                refine lv_aload_n hx hb dX12_steepest_41 rfl (lv_at hl 3 rfl) ?_
                refine lv_iload_n hx hb dX12_steepest_42 rfl (lv_at hl 0 rfl) ?_
                refine lv_iload_n hx hb dX12_steepest_43 rfl (lv_at hl 1 rfl) ?_
                refine q_goIp (q_runS (As := [.int v30, .int v25]) (rest := [.ref h0, .int v31]) E hS32 (m_X12_at2 l X Γ H23 hC23 v30 (a0 := z30) ev30 v25 (a1 := z25) ev25 (by omega) (by omega) (by omega) (by omega)) cw_X12_at2 cl_RX12_292 rfl hl.1 rfl (show _ ≤ _ from by simp [Value.category]) (by decide) dX12_steepest_44) hS32 (fun v48 locs48 hr48 hS48 => ?_)
                have f48_0 := hr48
                refine q_goIp (q_runV (As := [.int v48]) (rest := [.int v31]) E hC23 hS48 (m_X12_topOf l X Γ H23 hC23 h0 g0 v48 (a1 := v48.toInt) rfl ca gca uc (by omega) (by omega)) cw_X12_topOf cl_RX12_359 g0 ⟨rfl, rfl⟩ rfl hl.1 rfl (show _ ≤ _ from by simp [Value.category]) (by decide) dX12_steepest_47) hS48 (fun v49 locs49 hr49 hS49 => ?_)
                obtain ⟨f49_0, f49_1, f49_2⟩ := hr49
                refine lv_aload_n hx hb dX12_steepest_50 rfl (lv_at hl 3 rfl) ?_
                refine lv_iload_n hx hb dX12_steepest_51 rfl (lv_at hl 0 rfl) ?_
                refine lv_iconst (v := 1) hx hb dX12_steepest_52 rfl ?_
                refine lv_isub hx hb dX12_steepest_53 (lv_topi (fun v50 ev50 => ?_))
                have ev50i : v50.toInt = (z30 - 1) := i_sub ev50 ev30 (by decide) (by omega) (by omega)
                refine lv_iload_n hx hb dX12_steepest_54 rfl (lv_at hl 1 rfl) ?_
                refine q_goIp (q_runS (As := [.int v50, .int v25]) (rest := [.ref h0, .int v49, .int v31]) E hS49 (m_X12_at2 l X Γ H23 hC23 v50 (a0 := (z30 - 1)) ev50i v25 (a1 := z25) ev25 (by omega) (by omega) (by omega) (by omega)) cw_X12_at2 cl_RX12_292 rfl hl.1 rfl (show _ ≤ _ from by simp [Value.category]) (by decide) dX12_steepest_55) hS49 (fun v51 locs51 hr51 hS51 => ?_)
                have f51_0 := hr51
                refine q_goIp (q_runV (As := [.int v51]) (rest := [.int v49, .int v31]) E hC23 hS51 (m_X12_topOf l X Γ H23 hC23 h0 g0 v51 (a1 := v51.toInt) rfl ca gca uc (by omega) (by omega)) cw_X12_topOf cl_RX12_359 g0 ⟨rfl, rfl⟩ rfl hl.1 rfl (show _ ≤ _ from by simp [Value.category]) (by decide) dX12_steepest_58) hS51 (fun v52 locs52 hr52 hS52 => ?_)
                obtain ⟨f52_0, f52_1, f52_2⟩ := hr52
                refine lv_isub hx hb dX12_steepest_61 (lv_topi (fun v53 ev53 => ?_))
                have ev53i : v53.toInt = (v49.toInt - v52.toInt) := i_sub ev53 rfl rfl (by omega) (by omega)
                refine q_mabs E hl.1 w_1822 mathw_abs (by decide) (show _ ≤ _ from by simp [Value.category]) dX12_steepest_62 (fun v54 => ?_)
                refine q_mmax E hl.1 w_1731 mathw_max (a := z31) (b := v54.toInt) ev31 rfl (by decide) (Nat.zero_le _) dX12_steepest_65 (fun v55 mv55a mv55b mv55c => ?_)
                refine lv_istore_n hx hb dX12_steepest_68 rfl hl (by decide) rfl (fun ls hl => ?_)
                have hl : lv_has ls 4 [(1, .int v55), (3, .int v30), (2, .int v25), (0, .ref h0)] := hl
                refine lv_iload_n hx hb dX12_steepest_69 rfl (lv_at hl 2 rfl) ?_
                refine q_if_le hx hb (a := z25) ev25 (tgt := 102) dX12_steepest_70 rfl (fun c56 => ?_) (fun c56 => ?_)
                · obtain ⟨v57, ev57⟩ : ∃ z, z = v30 + Int32.ofInt 1 := ⟨_, rfl⟩
                  have ev57i : v57.toInt = (z30 + 1) := i_add ev57 ev30 (by decide) (by omega) (by omega)
                  refine lv_iinc hx hb dX12_steepest_102 hl (k := 1) rfl ev57.symm (by decide) rfl (fun ls hl => ?_)
                  have hl : lv_has ls 4 [(3, .int v57), (1, .int v55), (2, .int v25), (0, .ref h0)] := hl
                  refine lv_goto (tgt := 26) hx hb dX12_steepest_105 rfl ?_
                  exact ih32 locs52 v57 ((z30 + 1)) v55 (v55.toInt) ls (by omega) ev57i rfl (by omega) (by omega) hS52 (lv_sub hl [0, 2, 1, 3] rfl)
                · refine lv_iload_n hx hb dX12_steepest_73 rfl (lv_at hl 0 rfl) ?_
                  refine lv_aload_n hx hb dX12_steepest_74 rfl (lv_at hl 3 rfl) ?_
                  refine lv_iload_n hx hb dX12_steepest_75 rfl (lv_at hl 1 rfl) ?_
                  refine lv_iload_n hx hb dX12_steepest_76 rfl (lv_at hl 2 rfl) ?_
                  refine q_goIp (q_runS (As := [.int v30, .int v25]) (rest := [.ref h0, .int v55]) E hS52 (m_X12_at2 l X Γ H23 hC23 v30 (a0 := z30) ev30 v25 (a1 := z25) ev25 (by omega) (by omega) (by omega) (by omega)) cw_X12_at2 cl_RX12_292 rfl hl.1 rfl (show _ ≤ _ from by simp [Value.category]) (by decide) dX12_steepest_77) hS52 (fun v58 locs58 hr58 hS58 => ?_)
                  have f58_0 := hr58
                  refine q_goIp (q_runV (As := [.int v58]) (rest := [.int v55]) E hC23 hS58 (m_X12_topOf l X Γ H23 hC23 h0 g0 v58 (a1 := v58.toInt) rfl ca gca uc (by omega) (by omega)) cw_X12_topOf cl_RX12_359 g0 ⟨rfl, rfl⟩ rfl hl.1 rfl (show _ ≤ _ from by simp [Value.category]) (by decide) dX12_steepest_80) hS58 (fun v59 locs59 hr59 hS59 => ?_)
                  obtain ⟨f59_0, f59_1, f59_2⟩ := hr59
                  refine lv_aload_n hx hb dX12_steepest_83 rfl (lv_at hl 3 rfl) ?_
                  refine lv_iload_n hx hb dX12_steepest_84 rfl (lv_at hl 1 rfl) ?_
                  refine lv_iload_n hx hb dX12_steepest_85 rfl (lv_at hl 2 rfl) ?_
                  refine lv_iconst (v := 1) hx hb dX12_steepest_86 rfl ?_
                  refine lv_isub hx hb dX12_steepest_87 (lv_topi (fun v60 ev60 => ?_))
                  have ev60i : v60.toInt = (z25 - 1) := i_sub ev60 ev25 (by decide) (by omega) (by omega)
                  refine q_goIp (q_runS (As := [.int v30, .int v60]) (rest := [.ref h0, .int v59, .int v55]) E hS59 (m_X12_at2 l X Γ H23 hC23 v30 (a0 := z30) ev30 v60 (a1 := (z25 - 1)) ev60i (by omega) (by omega) (by omega) (by omega)) cw_X12_at2 cl_RX12_292 rfl hl.1 rfl (show _ ≤ _ from by simp [Value.category]) (by decide) dX12_steepest_88) hS59 (fun v61 locs61 hr61 hS61 => ?_)
                  have f61_0 := hr61
                  refine q_goIp (q_runV (As := [.int v61]) (rest := [.int v59, .int v55]) E hC23 hS61 (m_X12_topOf l X Γ H23 hC23 h0 g0 v61 (a1 := v61.toInt) rfl ca gca uc (by omega) (by omega)) cw_X12_topOf cl_RX12_359 g0 ⟨rfl, rfl⟩ rfl hl.1 rfl (show _ ≤ _ from by simp [Value.category]) (by decide) dX12_steepest_91) hS61 (fun v62 locs62 hr62 hS62 => ?_)
                  obtain ⟨f62_0, f62_1, f62_2⟩ := hr62
                  refine lv_isub hx hb dX12_steepest_94 (lv_topi (fun v63 ev63 => ?_))
                  have ev63i : v63.toInt = (v59.toInt - v62.toInt) := i_sub ev63 rfl rfl (by omega) (by omega)
                  refine q_mabs E hl.1 w_1822 mathw_abs (by decide) (show _ ≤ _ from by simp [Value.category]) dX12_steepest_95 (fun v64 => ?_)
                  refine q_mmax E hl.1 w_1731 mathw_max (a := v55.toInt) (b := v64.toInt) rfl rfl (by decide) (Nat.zero_le _) dX12_steepest_98 (fun v65 mv65a mv65b mv65c => ?_)
                  refine lv_istore_n hx hb dX12_steepest_101 rfl hl (by decide) rfl (fun ls hl => ?_)
                  have hl : lv_has ls 4 [(1, .int v65), (3, .int v30), (2, .int v25), (0, .ref h0)] := hl
                  obtain ⟨v66, ev66⟩ : ∃ z, z = v30 + Int32.ofInt 1 := ⟨_, rfl⟩
                  have ev66i : v66.toInt = (z30 + 1) := i_add ev66 ev30 (by decide) (by omega) (by omega)
                  refine lv_iinc hx hb dX12_steepest_102 hl (k := 1) rfl ev66.symm (by decide) rfl (fun ls hl => ?_)
                  have hl : lv_has ls 4 [(3, .int v66), (1, .int v65), (2, .int v25), (0, .ref h0)] := hl
                  refine lv_goto (tgt := 26) hx hb dX12_steepest_105 rfl ?_
                  exact ih32 locs62 v66 ((z30 + 1)) v65 (v65.toInt) ls (by omega) ev66i rfl (by omega) (by omega) hS62 (lv_sub hl [0, 2, 1, 3] rfl)
        exact L26 _ locs27 0 0 v26 z26 ls (Nat.lt_succ_self _) (by decide) ev26 (by omega) (by omega) hS27 hl
  exact L14 _ locs23 0 0 0 0 ls (Nat.lt_succ_self _) (by decide) (by decide) (by omega) (by omega) hS23 hl
set_option maxRecDepth 100000 in
set_option maxHeartbeats 4000000 in
theorem m_X12_unlike (l : Launch) (X : xW) (Γ : Nat → Option Nat) (H0 : Heap) (hC0 : Conf X Γ H0) (h0 : Nat) (g0 : Γ h0 = some 11) (ca : Nat) (gca : Γ ca = some 64) (uc : ∀ a, Γ a = some 64 → a = ca) : Ctr l X Γ yX12_unlike cX12_unlike 4 (some .int) 1 [.ref h0] H0 (QI X Γ (fun v H1 => Kp X Γ [1, 6, 7, 8, 9, 10, 11, 12, 14, 15, 16, 17, 19, 22, 24] H0 H1 ∧ (True))) := by
  refine q_enterI (own := "SnowFortsModel") (by decide) rfl (Nat.le_of_ble_eq_true rfl) ?_
  intro p e s m args below meth c ls Qz E hl ret hS0
  have hx := E.1; have hb := E.2.1
  have hKp0 : Kp X Γ [1, 6, 7, 8, 9, 10, 11, 12, 14, 15, 16, 17, 19, 22, 24] H0 H0 := Kp.rf
  have hl : lv_has ls 4 [(0, .ref h0)] := hl
  refine lv_aload_n hx hb dX12_unlike_0 rfl (lv_at hl 0 rfl) ?_
  refine lv_iconst (v := 0) hx hb dX12_unlike_1 rfl ?_
  refine q_put E hC0 hS0 g0 fp_RX12_69 tv_F rfl rfl dX12_unlike_2 (fun H21 locs21 hC21 hS21 U21 => ?_)
  have hKp21 := Kp.upO E g0 fp_RX12_69 rfl U21 hKp0
  have e22 := up_I U21
  refine lv_aload_n hx hb dX12_unlike_5 rfl (lv_at hl 0 rfl) ?_
  refine lv_iconst (v := 0) hx hb dX12_unlike_6 rfl ?_
  refine q_put E hC21 hS21 g0 fp_RX12_72 tv_F rfl rfl dX12_unlike_7 (fun H23 locs23 hC23 hS23 U23 => ?_)
  have hKp23 := Kp.upO E g0 fp_RX12_72 rfl U23 hKp21
  have e24 := up_I U23
  refine lv_iconst (v := 0) hx hb dX12_unlike_10 rfl ?_
  refine lv_istore_n hx hb dX12_unlike_11 rfl hl (by decide) rfl (fun ls hl => ?_)
  have hl : lv_has ls 4 [(1, .int 0), (0, .ref h0)] := hl
  refine lv_iconst (v := 0) hx hb dX12_unlike_12 rfl ?_
  refine lv_istore_n hx hb dX12_unlike_13 rfl hl (by decide) rfl (fun ls hl => ?_)
  have hl : lv_has ls 4 [(2, .int 0), (1, .int 0), (0, .ref h0)] := hl
  have L14 : ∀ (n27 : Nat) (locs27 : List Loc) (v25 : Int32) (z25 : Int) (v26 : Int32) (z26 : Int) (ls : Array Slot), (6 - z25).toNat < n27 → v25.toInt = z25 → v26.toInt = z26 → z25 ≤ 6 → 0 ≤ z25 → va_S (AΓ Γ) H0 H23 locs27 → lv_has ls 4 [(2, .int v25), (1, .int v26), (0, .ref h0)] → W p l e (rmL 1) s m args below meth c H23 locs27 0 0 Qz (F0 m 14 ls []) := by
    intro n27
    induction n27 with
    | zero => intro locs27 v25 z25 v26 z26 ls hm27 ev25 ev26 iv27_0 iv27_1 hS27 hl; exact absurd hm27 (Nat.not_lt_zero _)
    | succ n27 ih27 =>
      intro locs27 v25 z25 v26 z26 ls hm27 ev25 ev26 iv27_0 iv27_1 hS27 hl
      refine lv_iload_n hx hb dX12_unlike_14 rfl (lv_at hl 0 rfl) ?_
      refine lv_aload_n hx hb dX12_unlike_15 rfl (lv_at hl 2 rfl) ?_
      refine q_getC E hC23 g0 fa_RX12_35 uc dX12_unlike_16 ?_
      refine lv_iconst (v := 1) hx hb dX12_unlike_19 rfl ?_
      refine q_cald E hC23 (lo := 0) (hi := 6) gca (a := 1) (show (1 : Int32).toInt = 1 from by decide) (by omega) (by omega) (cr_c0 (by omega) (by omega)) dX12_unlike_20 (fun v28 ev28 lv28 uv28 => ?_)
      have m29 : (sI H23 ca (1 : Int).toNat).toInt = v28.toInt := congrArg Int32.toInt ev28
      refine q_icmp_ge hx hb (a := z25) (b := v28.toInt) ev25 rfl (tgt := 83) dX12_unlike_21 rfl (fun c30 => ?_) (fun c30 => ?_)
      · refine lv_iload_n hx hb dX12_unlike_83 rfl (lv_at hl 1 rfl) ?_
        exact ret v26 H23 locs27 _ _ dX12_unlike_84 ⟨hKp23, trivial⟩ hC23 hS27
      · refine lv_iconst (v := 0) hx hb dX12_unlike_24 rfl ?_
        refine lv_istore_n hx hb dX12_unlike_25 rfl hl (by decide) rfl (fun ls hl => ?_)
        have hl : lv_has ls 4 [(3, .int 0), (2, .int v25), (1, .int v26), (0, .ref h0)] := hl
        have L26 : ∀ (n33 : Nat) (locs33 : List Loc) (v31 : Int32) (z31 : Int) (v32 : Int32) (z32 : Int) (ls : Array Slot), (6 - z31).toNat < n33 → v31.toInt = z31 → v32.toInt = z32 → 0 ≤ z31 → z31 ≤ 3 → va_S (AΓ Γ) H0 H23 locs33 → lv_has ls 4 [(3, .int v31), (2, .int v25), (1, .int v32), (0, .ref h0)] → W p l e (rmL 1) s m args below meth c H23 locs33 0 0 Qz (F0 m 26 ls []) := by
          intro n33
          induction n33 with
          | zero => intro locs33 v31 z31 v32 z32 ls hm33 ev31 ev32 iv33_0 iv33_1 hS33 hl; exact absurd hm33 (Nat.not_lt_zero _)
          | succ n33 ih33 =>
            intro locs33 v31 z31 v32 z32 ls hm33 ev31 ev32 iv33_0 iv33_1 hS33 hl
            refine lv_iconst (v := 2) hx hb dX12_unlike_26 rfl ?_
            refine lv_iload_n hx hb dX12_unlike_27 rfl (lv_at hl 0 rfl) ?_
            refine lv_imul hx hb dX12_unlike_28 (lv_topi (fun v34 ev34 => ?_))
            have ev34i : v34.toInt = (2 * z31) := i_mul ev34 (by decide) ev31 (by omega) (by omega)
            refine lv_aload_n hx hb dX12_unlike_29 rfl (lv_at hl 3 rfl) ?_
            refine q_getC E hC23 g0 fa_RX12_35 uc dX12_unlike_30 ?_
            refine lv_iconst (v := 0) hx hb dX12_unlike_33 rfl ?_
            refine q_cald E hC23 (lo := 0) (hi := 6) gca (a := 0) (show (0 : Int32).toInt = 0 from by decide) (by omega) (by omega) (cr_c0 (by omega) (by omega)) dX12_unlike_34 (fun v35 ev35 lv35 uv35 => ?_)
            have m36 : (sI H23 ca (0 : Int).toNat).toInt = v35.toInt := congrArg Int32.toInt ev35
            refine q_icmp_ge hx hb (a := (2 * z31)) (b := v35.toInt) ev34i rfl (tgt := 77) dX12_unlike_35 rfl (fun c37 => ?_) (fun c37 => ?_)
            · obtain ⟨v38, ev38⟩ : ∃ z, z = v25 + Int32.ofInt 1 := ⟨_, rfl⟩
              have ev38i : v38.toInt = (z25 + 1) := i_add ev38 ev25 (by decide) (by omega) (by omega)
              refine lv_iinc hx hb dX12_unlike_77 hl (k := 1) rfl ev38.symm (by decide) rfl (fun ls hl => ?_)
              have hl : lv_has ls 4 [(2, .int v38), (3, .int v31), (1, .int v32), (0, .ref h0)] := hl
              refine lv_goto (tgt := 14) hx hb dX12_unlike_80 rfl ?_
              exact ih27 locs33 v38 ((z25 + 1)) v32 (z32) ls (by omega) ev38i ev32 (by omega) (by omega) hS33 (lv_sub hl [0, 2, 3] rfl)
            · refine lv_iload_n hx hb dX12_unlike_38 rfl (lv_at hl 2 rfl) ?_
              refine lv_aload_n hx hb dX12_unlike_39 rfl (lv_at hl 3 rfl) ?_
              refine lv_iload_n hx hb dX12_unlike_40 rfl (lv_at hl 0 rfl) ?_
              refine lv_iload_n hx hb dX12_unlike_41 rfl (lv_at hl 1 rfl) ?_
              refine q_goIp (q_runS (As := [.int v31, .int v25]) (rest := [.ref h0, .int v32]) E hS33 (m_X12_at2 l X Γ H23 hC23 v31 (a0 := z31) ev31 v25 (a1 := z25) ev25 (by omega) (by omega) (by omega) (by omega)) cw_X12_at2 cl_RX12_292 rfl hl.1 rfl (show _ ≤ _ from by simp [Value.category]) (by decide) dX12_unlike_42) hS33 (fun v39 locs39 hr39 hS39 => ?_)
              have f39_0 := hr39
              refine q_goIp (q_runV (As := [.int v39]) (rest := [.int v32]) E hC23 hS39 (m_X12_topOf l X Γ H23 hC23 h0 g0 v39 (a1 := v39.toInt) rfl ca gca uc (by omega) (by omega)) cw_X12_topOf cl_RX12_359 g0 ⟨rfl, rfl⟩ rfl hl.1 rfl (show _ ≤ _ from by simp [Value.category]) (by decide) dX12_unlike_45) hS39 (fun v40 locs40 hr40 hS40 => ?_)
              obtain ⟨f40_0, f40_1, f40_2⟩ := hr40
              refine lv_aload_n hx hb dX12_unlike_48 rfl (lv_at hl 3 rfl) ?_
              refine lv_aload_n hx hb dX12_unlike_49 rfl (lv_at hl 3 rfl) ?_
              refine lv_iload_n hx hb dX12_unlike_50 rfl (lv_at hl 0 rfl) ?_
              refine lv_iload_n hx hb dX12_unlike_51 rfl (lv_at hl 1 rfl) ?_
              refine q_goIp (q_runS (As := [.int v31, .int v25]) (rest := [.ref h0, .ref h0, .int v40, .int v32]) E hS40 (m_X12_at2 l X Γ H23 hC23 v31 (a0 := z31) ev31 v25 (a1 := z25) ev25 (by omega) (by omega) (by omega) (by omega)) cw_X12_at2 cl_RX12_292 rfl hl.1 rfl (show _ ≤ _ from by simp [Value.category]) (by decide) dX12_unlike_52) hS40 (fun v41 locs41 hr41 hS41 => ?_)
              have f41_0 := hr41
              refine q_goIp (q_runV (As := [.int v41]) (rest := [.ref h0, .int v40, .int v32]) E hC23 hS41 (m_X12_acrossOf l X Γ H23 hC23 h0 g0 v41 (a1 := v41.toInt) rfl ca gca uc (by omega) (by omega)) cw_X12_acrossOf cl_RX12_329 g0 ⟨rfl, rfl⟩ rfl hl.1 rfl (show _ ≤ _ from by simp [Value.category]) (by decide) dX12_unlike_55) hS41 (fun v42 locs42 hr42 hS42 => ?_)
              obtain ⟨f42_0, f42_1, f42_2⟩ := hr42
              refine q_goIp (q_runV (As := [.int v42]) (rest := [.int v40, .int v32]) E hC23 hS42 (m_X12_topOf l X Γ H23 hC23 h0 g0 v42 (a1 := v42.toInt) rfl ca gca uc (by omega) (by omega)) cw_X12_topOf cl_RX12_359 g0 ⟨rfl, rfl⟩ rfl hl.1 rfl (show _ ≤ _ from by simp [Value.category]) (by decide) dX12_unlike_58) hS42 (fun v43 locs43 hr43 hS43 => ?_)
              obtain ⟨f43_0, f43_1, f43_2⟩ := hr43
              refine q_icmp_eq hx hb (a := v40.toInt) (b := v43.toInt) rfl rfl (tgt := 68) dX12_unlike_61 rfl (fun c44 => ?_) (fun c44 => ?_)
              · refine lv_iconst (v := 0) hx hb dX12_unlike_68 rfl ?_
                refine lv_iadd hx hb dX12_unlike_69 (lv_topi (fun v45 ev45 => ?_))
                have c46 := i_rng v32; rw [show v32.toInt = z32 from ev32] at c46
                have ev45i : v45.toInt = (z32 + 0) := i_add ev45 ev32 (by decide) (by omega) (by omega)
                refine lv_istore_n hx hb dX12_unlike_70 rfl hl (by decide) rfl (fun ls hl => ?_)
                have hl : lv_has ls 4 [(1, .int v45), (3, .int v31), (2, .int v25), (0, .ref h0)] := hl
                obtain ⟨v47, ev47⟩ : ∃ z, z = v31 + Int32.ofInt 1 := ⟨_, rfl⟩
                have ev47i : v47.toInt = (z31 + 1) := i_add ev47 ev31 (by decide) (by omega) (by omega)
                refine lv_iinc hx hb dX12_unlike_71 hl (k := 1) rfl ev47.symm (by decide) rfl (fun ls hl => ?_)
                have hl : lv_has ls 4 [(3, .int v47), (1, .int v45), (2, .int v25), (0, .ref h0)] := hl
                refine lv_goto (tgt := 26) hx hb dX12_unlike_74 rfl ?_
                exact ih33 locs43 v47 ((z31 + 1)) v45 ((z32 + 0)) ls (by omega) ev47i ev45i (by omega) (by omega) hS43 (lv_sub hl [0, 2, 1, 3] rfl)
              · refine lv_iconst (v := 1) hx hb dX12_unlike_64 rfl ?_
                refine lv_goto (tgt := 69) hx hb dX12_unlike_65 rfl ?_
                refine lv_iadd hx hb dX12_unlike_69 (lv_topi (fun v48 ev48 => ?_))
                refine lv_istore_n hx hb dX12_unlike_70 rfl hl (by decide) rfl (fun ls hl => ?_)
                have hl : lv_has ls 4 [(1, .int v48), (3, .int v31), (2, .int v25), (0, .ref h0)] := hl
                obtain ⟨v49, ev49⟩ : ∃ z, z = v31 + Int32.ofInt 1 := ⟨_, rfl⟩
                have ev49i : v49.toInt = (z31 + 1) := i_add ev49 ev31 (by decide) (by omega) (by omega)
                refine lv_iinc hx hb dX12_unlike_71 hl (k := 1) rfl ev49.symm (by decide) rfl (fun ls hl => ?_)
                have hl : lv_has ls 4 [(3, .int v49), (1, .int v48), (2, .int v25), (0, .ref h0)] := hl
                refine lv_goto (tgt := 26) hx hb dX12_unlike_74 rfl ?_
                exact ih33 locs43 v49 ((z31 + 1)) v48 (v48.toInt) ls (by omega) ev49i rfl (by omega) (by omega) hS43 (lv_sub hl [0, 2, 1, 3] rfl)
        exact L26 _ locs27 0 0 v26 z26 ls (Nat.lt_succ_self _) (by decide) ev26 (by omega) (by omega) hS27 hl
  exact L14 _ locs23 0 0 0 0 ls (Nat.lt_succ_self _) (by decide) (by decide) (by omega) (by omega) hS23 hl
set_option maxRecDepth 100000 in
set_option maxHeartbeats 4000000 in
theorem m_X12_mayBe (l : Launch) (X : xW) (Γ : Nat → Option Nat) (H0 : Heap) (hC0 : Conf X Γ H0) (h0 : Nat) (g0 : Γ h0 = some 11) (p1 : Int32) {a1 : Int} (e1 : p1.toInt = a1) (p2 : Int32) {a2 : Int} (e2 : p2.toInt = a2) (ca : Nat) (gca : Γ ca = some 64) (uc : ∀ a, Γ a = some 64 → a = ca) (r0 : 0 ≤ a1) (r1 : a1 ≤ 35) : Ctr l X Γ yX12_mayBe cX12_mayBe 3 (some .boolean) 1 [.ref h0, .int p1, .int p2] H0 (QI X Γ (fun v H1 => H1 = H0 ∧ (v = 0 ∨ v = 1))) := by
  refine q_enterZ (own := "SnowFortsModel") (by decide) rfl (Nat.le_of_ble_eq_true rfl) ?_
  intro p e s m args below meth c ls Qz E hl ret hS0
  have hx := E.1; have hb := E.2.1
  have hl : lv_has ls 3 [(0, .ref h0), (1, .int p1), (2, .int p2)] := hl
  refine lv_iload_n hx hb dX12_mayBe_0 rfl (lv_at hl 2 rfl) ?_
  refine lv_aload_n hx hb dX12_mayBe_1 rfl (lv_at hl 0 rfl) ?_
  refine q_getC E hC0 g0 fa_RX12_35 uc dX12_mayBe_2 ?_
  refine lv_bipush (v := 62) hx hb dX12_mayBe_5 rfl ?_
  refine lv_iload_n hx hb dX12_mayBe_7 rfl (lv_at hl 1 rfl) ?_
  refine lv_iadd hx hb dX12_mayBe_8 (lv_topi (fun v21 ev21 => ?_))
  have ev21i : v21.toInt = (62 + a1) := i_add ev21 (by decide) e1 (by omega) (by omega)
  refine q_cald E hC0 (lo := 0) (hi := 99) gca (a := (62 + a1)) ev21i (by omega) (by omega) (cr_c26 (by omega) (by omega)) dX12_mayBe_9 (fun v22 ev22 lv22 uv22 => ?_)
  refine lv_isub hx hb dX12_mayBe_10 (lv_topi (fun v23 ev23 => ?_))
  refine lv_i2l (v := v23.toInt64) hx hb dX12_mayBe_11 rfl (lv_topl (fun v24 ev24 => ?_))
  have ev24i : v24.toInt = v23.toInt := l_ofi ev24.symm rfl
  refine lv_lconst (v := 0) hx hb dX12_mayBe_12 rfl ?_
  refine lv_ldc2 (v := 99) hx hb E.2.2.2.1 (E.2.2.2.2.1 _ w_1835) dX12_mayBe_13 ?_
  refine q_goIp (q_runS (As := [.long v24, .long 0, .long 99]) (rest := []) E hS0 (m_X12_isIn l X Γ H0 hC0 v24 (a0 := v23.toInt) ev24i 0 (a1 := 0) (show (0 : Int64).toInt = 0 from by decide) 99 (a2 := 99) (show (99 : Int64).toInt = 99 from by decide)) cw_X12_isIn cl_RX12_104 rfl hl.1 rfl (Nat.zero_le _) (by decide) dX12_mayBe_16) hS0 (fun v25 locs25 hr25 hS25 => ?_)
  rcases hr25 with ⟨rfl, f25a0, f25a1⟩ | ⟨rfl, f25b⟩
  · exact ret 1 H0 locs25 _ _ dX12_mayBe_19 (Or.inr rfl) ⟨rfl, Or.inr rfl⟩ hC0 hS25
  · exact ret 0 H0 locs25 _ _ dX12_mayBe_19 (Or.inl rfl) ⟨rfl, Or.inl rfl⟩ hC0 hS25
