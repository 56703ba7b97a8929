set_option maxRecDepth 100000 in
set_option maxHeartbeats 4000000 in
theorem m_X12_beside (l : Launch) (X : xW) (Γ : Nat → Option Nat) (H0 : Heap) (hC0 : Conf X Γ H0) (h0 : Nat) (g0 : Γ h0 = some 11) (p1 : Int32) {a1 : Int} (e1 : p1.toInt = a1) (p2 : Int32) {a2 : Int} (e2 : p2.toInt = a2) (ca : Nat) (gca : Γ ca = some 64) (uc : ∀ a, Γ a = some 64 → a = ca) (r0 : 0 ≤ a1) (r1 : a1 ≤ 35) : Ctr l X Γ yX12_beside cX12_beside 5 (some .int) 2 [.ref h0, .int p1, .int p2] H0 (QI X Γ (fun v H1 => H1 = H0 ∧ ((-1 ≤ v.toInt) ∧ (v.toInt ≤ 35) ∧ (v.toInt = bs H0 ca a1 a2)))) := by
  refine q_enterI (own := "SnowFortsModel") (by decide) rfl (Nat.le_of_ble_eq_true rfl) ?_
  intro p e s m args below meth c ls Qz E hl ret hS0
  have hx := E.1; have hb := E.2.1
  have hl : lv_has ls 5 [(0, .ref h0), (1, .int p1), (2, .int p2)] := hl
  refine lv_iload_n hx hb dX12_beside_0 rfl (lv_at hl 1 rfl) ?_
  refine lv_bipush (v := 6) hx hb dX12_beside_1 rfl ?_
  refine lv_irem hx hb dX12_beside_3 (by decide) (lv_topi (fun v21 ev21 => ?_))
  have ev21i : v21.toInt = (a1 % 6) := i_rem ev21 e1 (by decide) (by omega) (by decide)
  refine lv_iload_n hx hb dX12_beside_4 rfl (lv_at hl 2 rfl) ?_
  refine q_if_ne hx hb (a := a2) e2 (tgt := 12) dX12_beside_5 rfl (fun c22 => ?_) (fun c22 => ?_)
  · refine lv_iload_n hx hb dX12_beside_12 rfl (lv_at hl 2 rfl) ?_
    refine lv_iconst (v := 3) hx hb dX12_beside_13 rfl ?_
    refine q_icmp_ne hx hb (a := a2) (b := 3) e2 (by decide) (tgt := 21) dX12_beside_14 rfl (fun c23 => ?_) (fun c23 => ?_)
    · refine lv_iconst (v := 0) hx hb dX12_beside_21 rfl ?_
      refine lv_iadd hx hb dX12_beside_22 (lv_topi (fun v24 ev24 => ?_))
      have ev24i : v24.toInt = ((a1 % 6) + 0) := i_add ev24 ev21i (by decide) (by omega) (by omega)
      refine lv_istore_n hx hb dX12_beside_23 rfl hl (by decide) rfl (fun ls hl => ?_)
      replace hl : lv_has ls 5 [(3, .int v24), (0, .ref h0), (1, .int p1), (2, .int p2)] := hl
      refine lv_iload_n hx hb dX12_beside_24 rfl (lv_at hl 2 rfl) ?_
      refine lv_bipush (v := 6) hx hb dX12_beside_25 rfl ?_
      refine lv_idiv hx hb dX12_beside_27 (by decide) (lv_topi (fun v25 ev25 => ?_))
      have ev25i : v25.toInt = (a1 / 6) := i_div ev25 e1 (by decide) (by omega) (by decide)
      refine lv_iload_n hx hb dX12_beside_28 rfl (lv_at hl 3 rfl) ?_
      refine lv_iconst (v := 1) hx hb dX12_beside_29 rfl ?_
      refine q_icmp_ne hx hb (a := a2) (b := 1) e2 (by decide) (tgt := 37) dX12_beside_30 rfl (fun c26 => ?_) (fun c26 => ?_)
      · refine lv_iload_n hx hb dX12_beside_37 rfl (lv_at hl 3 rfl) ?_
        refine lv_iconst (v := 2) hx hb dX12_beside_38 rfl ?_
        refine q_icmp_ne hx hb (a := a2) (b := 2) e2 (by decide) (tgt := 46) dX12_beside_39 rfl (fun c27 => ?_) (fun c27 => ?_)
        · refine lv_iconst (v := 0) hx hb dX12_beside_46 rfl ?_
          refine lv_iadd hx hb dX12_beside_47 (lv_topi (fun v28 ev28 => ?_))
          have ev28i : v28.toInt = ((a1 / 6) + 0) := i_add ev28 ev25i (by decide) (by omega) (by omega)
          refine lv_istore hx hb dX12_beside_48 hl (by decide) rfl (fun ls hl => ?_)
          replace hl : lv_has ls 5 [(4, .int v28), (3, .int v24), (0, .ref h0), (1, .int p1), (2, .int p2)] := hl
          have hbx : bsX a1 a2 = ((a1 % 6) + 0) := by unfold bsX; (repeat' split) <;> omega
          have hby : bsY a1 a2 = ((a1 / 6) + 0) := by unfold bsY; (repeat' split) <;> omega
          refine lv_aload_n hx hb dX12_beside_50 rfl (lv_at hl 2 rfl) ?_
          refine lv_iload_n hx hb dX12_beside_51 rfl (lv_at hl 1 rfl) ?_
          refine lv_iload hx hb dX12_beside_52 (lv_at hl 0 rfl) ?_
          refine q_goIp (q_runV (As := [.int v24, .int v28]) (rest := []) E hC0 hS0 (m_X12_isCell l X Γ H0 hC0 h0 g0 v24 (a1 := ((a1 % 6) + 0)) ev24i v28 (a2 := ((a1 / 6) + 0)) ev28i ca gca uc) cw_X12_isCell cl_RX12_301 g0 ⟨rfl, rfl⟩ rfl hl.1 rfl (Nat.zero_le _) (by decide) dX12_beside_54) hS0 (fun v29 locs29 hr29 hS29 => ?_)
          rcases hr29 with ⟨rfl, f29a0, f29a1, f29a2, f29a3, f29a4, f29a5⟩ | ⟨rfl, f29b⟩
          · refine q_if_eq hx hb (a := 1) (by decide) (tgt := 69) dX12_beside_57 rfl (fun c30 => absurd c30 (by omega)) (fun c30 => ?_)
            refine lv_iload_n hx hb dX12_beside_60 rfl (lv_at hl 1 rfl) ?_
            refine lv_iload hx hb dX12_beside_61 (lv_at hl 0 rfl) ?_
            refine q_goIp (q_runS (As := [.int v24, .int v28]) (rest := []) E hS29 (m_X12_at2 l X Γ H0 hC0 v24 (a0 := ((a1 % 6) + 0)) ev24i v28 (a1 := ((a1 / 6) + 0)) ev28i (by omega) (by omega) (by omega) (by omega)) cw_X12_at2 cl_RX12_292 rfl hl.1 rfl (Nat.zero_le _) (by decide) dX12_beside_63) hS29 (fun v31 locs31 hr31 hS31 => ?_)
            have f31_0 := hr31
            refine lv_goto (tgt := 70) hx hb dX12_beside_66 rfl ?_
            have c32 : v31.toInt = v31.toInt := rfl
            exact ret v31 H0 locs31 _ _ dX12_beside_70 ⟨rfl, ⟨by omega, by omega, by unfold bs bsI cW cH; rw [hbx, hby]; split <;> omega⟩⟩ hC0 hS31
          · refine q_if_eq hx hb (a := 0) (by decide) (tgt := 69) dX12_beside_57 rfl (fun c33 => ?_) (fun c33 => absurd c33 (by omega))
            refine lv_iconst (v := (-1)) hx hb dX12_beside_69 rfl ?_
            have c34 : ((-1) : Int32).toInt = (-1) := (by decide)
            exact ret (-1) H0 locs29 _ _ dX12_beside_70 ⟨rfl, ⟨by omega, by omega, by unfold bs bsI cW cH; rw [hbx, hby]; split <;> omega⟩⟩ hC0 hS29
        · refine lv_iconst (v := (-1)) hx hb dX12_beside_42 rfl ?_
          refine lv_goto (tgt := 47) hx hb dX12_beside_43 rfl ?_
          refine lv_iadd hx hb dX12_beside_47 (lv_topi (fun v35 ev35 => ?_))
          have ev35i : v35.toInt = ((a1 / 6) + (-1)) := i_add ev35 ev25i (by decide) (by omega) (by omega)
          refine lv_istore hx hb dX12_beside_48 hl (by decide) rfl (fun ls hl => ?_)
          replace hl : lv_has ls 5 [(4, .int v35), (3, .int v24), (0, .ref h0), (1, .int p1), (2, .int p2)] := hl
          have hbx : bsX a1 a2 = ((a1 % 6) + 0) := by unfold bsX; (repeat' split) <;> omega
          have hby : bsY a1 a2 = ((a1 / 6) + (-1)) := by unfold bsY; (repeat' split) <;> omega
          refine lv_aload_n hx hb dX12_beside_50 rfl (lv_at hl 2 rfl) ?_
          refine lv_iload_n hx hb dX12_beside_51 rfl (lv_at hl 1 rfl) ?_
          refine lv_iload hx hb dX12_beside_52 (lv_at hl 0 rfl) ?_
          refine q_goIp (q_runV (As := [.int v24, .int v35]) (rest := []) E hC0 hS0 (m_X12_isCell l X Γ H0 hC0 h0 g0 v24 (a1 := ((a1 % 6) + 0)) ev24i v35 (a2 := ((a1 / 6) + (-1))) ev35i ca gca uc) cw_X12_isCell cl_RX12_301 g0 ⟨rfl, rfl⟩ rfl hl.1 rfl (Nat.zero_le _) (by decide) dX12_beside_54) hS0 (fun v36 locs36 hr36 hS36 => ?_)
          rcases hr36 with ⟨rfl, f36a0, f36a1, f36a2, f36a3, f36a4, f36a5⟩ | ⟨rfl, f36b⟩
          · refine q_if_eq hx hb (a := 1) (by decide) (tgt := 69) dX12_beside_57 rfl (fun c37 => absurd c37 (by omega)) (fun c37 => ?_)
            refine lv_iload_n hx hb dX12_beside_60 rfl (lv_at hl 1 rfl) ?_
            refine lv_iload hx hb dX12_beside_61 (lv_at hl 0 rfl) ?_
            refine q_goIp (q_runS (As := [.int v24, .int v35]) (rest := []) E hS36 (m_X12_at2 l X Γ H0 hC0 v24 (a0 := ((a1 % 6) + 0)) ev24i v35 (a1 := ((a1 / 6) + (-1))) ev35i (by omega) (by omega) (by omega) (by omega)) cw_X12_at2 cl_RX12_292 rfl hl.1 rfl (Nat.zero_le _) (by decide) dX12_beside_63) hS36 (fun v38 locs38 hr38 hS38 => ?_)
            have f38_0 := hr38
            refine lv_goto (tgt := 70) hx hb dX12_beside_66 rfl ?_
            have c39 : v38.toInt = v38.toInt := rfl
            exact ret v38 H0 locs38 _ _ dX12_beside_70 ⟨rfl, ⟨by omega, by omega, by unfold bs bsI cW cH; rw [hbx, hby]; split <;> omega⟩⟩ hC0 hS38
          · refine q_if_eq hx hb (a := 0) (by decide) (tgt := 69) dX12_beside_57 rfl (fun c40 => ?_) (fun c40 => absurd c40 (by omega))
            refine lv_iconst (v := (-1)) hx hb dX12_beside_69 rfl ?_
            have c41 : ((-1) : Int32).toInt = (-1) := (by decide)
            exact ret (-1) H0 locs36 _ _ dX12_beside_70 ⟨rfl, ⟨by omega, by omega, by unfold bs bsI cW cH; rw [hbx, hby]; split <;> omega⟩⟩ hC0 hS36
      · refine lv_iconst (v := 1) hx hb dX12_beside_33 rfl ?_
        refine lv_goto (tgt := 47) hx hb dX12_beside_34 rfl ?_
        refine lv_iadd hx hb dX12_beside_47 (lv_topi (fun v42 ev42 => ?_))
        have ev42i : v42.toInt = ((a1 / 6) + 1) := i_add ev42 ev25i (by decide) (by omega) (by omega)
        refine lv_istore hx hb dX12_beside_48 hl (by decide) rfl (fun ls hl => ?_)
        replace hl : lv_has ls 5 [(4, .int v42), (3, .int v24), (0, .ref h0), (1, .int p1), (2, .int p2)] := hl
        have hbx : bsX a1 a2 = ((a1 % 6) + 0) := by unfold bsX; (repeat' split) <;> omega
        have hby : bsY a1 a2 = ((a1 / 6) + 1) := by unfold bsY; (repeat' split) <;> omega
        refine lv_aload_n hx hb dX12_beside_50 rfl (lv_at hl 2 rfl) ?_
        refine lv_iload_n hx hb dX12_beside_51 rfl (lv_at hl 1 rfl) ?_
        refine lv_iload hx hb dX12_beside_52 (lv_at hl 0 rfl) ?_
        refine q_goIp (q_runV (As := [.int v24, .int v42]) (rest := []) E hC0 hS0 (m_X12_isCell l X Γ H0 hC0 h0 g0 v24 (a1 := ((a1 % 6) + 0)) ev24i v42 (a2 := ((a1 / 6) + 1)) ev42i ca gca uc) cw_X12_isCell cl_RX12_301 g0 ⟨rfl, rfl⟩ rfl hl.1 rfl (Nat.zero_le _) (by decide) dX12_beside_54) hS0 (fun v43 locs43 hr43 hS43 => ?_)
        rcases hr43 with ⟨rfl, f43a0, f43a1, f43a2, f43a3, f43a4, f43a5⟩ | ⟨rfl, f43b⟩
        · refine q_if_eq hx hb (a := 1) (by decide) (tgt := 69) dX12_beside_57 rfl (fun c44 => absurd c44 (by omega)) (fun c44 => ?_)
          refine lv_iload_n hx hb dX12_beside_60 rfl (lv_at hl 1 rfl) ?_
          refine lv_iload hx hb dX12_beside_61 (lv_at hl 0 rfl) ?_
          refine q_goIp (q_runS (As := [.int v24, .int v42]) (rest := []) E hS43 (m_X12_at2 l X Γ H0 hC0 v24 (a0 := ((a1 % 6) + 0)) ev24i v42 (a1 := ((a1 / 6) + 1)) ev42i (by omega) (by omega) (by omega) (by omega)) cw_X12_at2 cl_RX12_292 rfl hl.1 rfl (Nat.zero_le _) (by decide) dX12_beside_63) hS43 (fun v45 locs45 hr45 hS45 => ?_)
          have f45_0 := hr45
          refine lv_goto (tgt := 70) hx hb dX12_beside_66 rfl ?_
          have c46 : v45.toInt = v45.toInt := rfl
          exact ret v45 H0 locs45 _ _ dX12_beside_70 ⟨rfl, ⟨by omega, by omega, by unfold bs bsI cW cH; rw [hbx, hby]; split <;> omega⟩⟩ hC0 hS45
        · refine q_if_eq hx hb (a := 0) (by decide) (tgt := 69) dX12_beside_57 rfl (fun c47 => ?_) (fun c47 => absurd c47 (by omega))
          refine lv_iconst (v := (-1)) hx hb dX12_beside_69 rfl ?_
          have c48 : ((-1) : Int32).toInt = (-1) := (by decide)
          exact ret (-1) H0 locs43 _ _ dX12_beside_70 ⟨rfl, ⟨by omega, by omega, by unfold bs bsI cW cH; rw [hbx, hby]; split <;> omega⟩⟩ hC0 hS43
    · refine lv_iconst (v := (-1)) hx hb dX12_beside_17 rfl ?_
      refine lv_goto (tgt := 22) hx hb dX12_beside_18 rfl ?_
      refine lv_iadd hx hb dX12_beside_22 (lv_topi (fun v49 ev49 => ?_))
      have ev49i : v49.toInt = ((a1 % 6) + (-1)) := i_add ev49 ev21i (by decide) (by omega) (by omega)
      refine lv_istore_n hx hb dX12_beside_23 rfl hl (by decide) rfl (fun ls hl => ?_)
      replace hl : lv_has ls 5 [(3, .int v49), (0, .ref h0), (1, .int p1), (2, .int p2)] := hl
      refine lv_iload_n hx hb dX12_beside_24 rfl (lv_at hl 2 rfl) ?_
      refine lv_bipush (v := 6) hx hb dX12_beside_25 rfl ?_
      refine lv_idiv hx hb dX12_beside_27 (by decide) (lv_topi (fun v50 ev50 => ?_))
      have ev50i : v50.toInt = (a1 / 6) := i_div ev50 e1 (by decide) (by omega) (by decide)
      refine lv_iload_n hx hb dX12_beside_28 rfl (lv_at hl 3 rfl) ?_
      refine lv_iconst (v := 1) hx hb dX12_beside_29 rfl ?_
      refine q_icmp_ne hx hb (a := a2) (b := 1) e2 (by decide) (tgt := 37) dX12_beside_30 rfl (fun c51 => ?_) (fun c51 => absurd c51 (by omega))
      refine lv_iload_n hx hb dX12_beside_37 rfl (lv_at hl 3 rfl) ?_
      refine lv_iconst (v := 2) hx hb dX12_beside_38 rfl ?_
      refine q_icmp_ne hx hb (a := a2) (b := 2) e2 (by decide) (tgt := 46) dX12_beside_39 rfl (fun c52 => ?_) (fun c52 => absurd c52 (by omega))
      refine lv_iconst (v := 0) hx hb dX12_beside_46 rfl ?_
      refine lv_iadd hx hb dX12_beside_47 (lv_topi (fun v53 ev53 => ?_))
      have ev53i : v53.toInt = ((a1 / 6) + 0) := i_add ev53 ev50i (by decide) (by omega) (by omega)
      refine lv_istore hx hb dX12_beside_48 hl (by decide) rfl (fun ls hl => ?_)
      replace hl : lv_has ls 5 [(4, .int v53), (3, .int v49), (0, .ref h0), (1, .int p1), (2, .int p2)] := hl
      have hbx : bsX a1 a2 = ((a1 % 6) + (-1)) := by unfold bsX; (repeat' split) <;> omega
      have hby : bsY a1 a2 = ((a1 / 6) + 0) := by unfold bsY; (repeat' split) <;> omega
      refine lv_aload_n hx hb dX12_beside_50 rfl (lv_at hl 2 rfl) ?_
      refine lv_iload_n hx hb dX12_beside_51 rfl (lv_at hl 1 rfl) ?_
      refine lv_iload hx hb dX12_beside_52 (lv_at hl 0 rfl) ?_
      refine q_goIp (q_runV (As := [.int v49, .int v53]) (rest := []) E hC0 hS0 (m_X12_isCell l X Γ H0 hC0 h0 g0 v49 (a1 := ((a1 % 6) + (-1))) ev49i v53 (a2 := ((a1 / 6) + 0)) ev53i ca gca uc) cw_X12_isCell cl_RX12_301 g0 ⟨rfl, rfl⟩ rfl hl.1 rfl (Nat.zero_le _) (by decide) dX12_beside_54) hS0 (fun v54 locs54 hr54 hS54 => ?_)
      rcases hr54 with ⟨rfl, f54a0, f54a1, f54a2, f54a3, f54a4, f54a5⟩ | ⟨rfl, f54b⟩
      · refine q_if_eq hx hb (a := 1) (by decide) (tgt := 69) dX12_beside_57 rfl (fun c55 => absurd c55 (by omega)) (fun c55 => ?_)
        refine lv_iload_n hx hb dX12_beside_60 rfl (lv_at hl 1 rfl) ?_
        refine lv_iload hx hb dX12_beside_61 (lv_at hl 0 rfl) ?_
        refine q_goIp (q_runS (As := [.int v49, .int v53]) (rest := []) E hS54 (m_X12_at2 l X Γ H0 hC0 v49 (a0 := ((a1 % 6) + (-1))) ev49i v53 (a1 := ((a1 / 6) + 0)) ev53i (by omega) (by omega) (by omega) (by omega)) cw_X12_at2 cl_RX12_292 rfl hl.1 rfl (Nat.zero_le _) (by decide) dX12_beside_63) hS54 (fun v56 locs56 hr56 hS56 => ?_)
        have f56_0 := hr56
        refine lv_goto (tgt := 70) hx hb dX12_beside_66 rfl ?_
        have c57 : v56.toInt = v56.toInt := rfl
        exact ret v56 H0 locs56 _ _ dX12_beside_70 ⟨rfl, ⟨by omega, by omega, by unfold bs bsI cW cH; rw [hbx, hby]; split <;> omega⟩⟩ hC0 hS56
      · refine q_if_eq hx hb (a := 0) (by decide) (tgt := 69) dX12_beside_57 rfl (fun c58 => ?_) (fun c58 => absurd c58 (by omega))
        refine lv_iconst (v := (-1)) hx hb dX12_beside_69 rfl ?_
        have c59 : ((-1) : Int32).toInt = (-1) := (by decide)
        exact ret (-1) H0 locs54 _ _ dX12_beside_70 ⟨rfl, ⟨by omega, by omega, by unfold bs bsI cW cH; rw [hbx, hby]; split <;> omega⟩⟩ hC0 hS54
  · refine lv_iconst (v := 1) hx hb dX12_beside_8 rfl ?_
    refine lv_goto (tgt := 22) hx hb dX12_beside_9 rfl ?_
    refine lv_iadd hx hb dX12_beside_22 (lv_topi (fun v60 ev60 => ?_))
    have ev60i : v60.toInt = ((a1 % 6) + 1) := i_add ev60 ev21i (by decide) (by omega) (by omega)
    refine lv_istore_n hx hb dX12_beside_23 rfl hl (by decide) rfl (fun ls hl => ?_)
    replace hl : lv_has ls 5 [(3, .int v60), (0, .ref h0), (1, .int p1), (2, .int p2)] := hl
    refine lv_iload_n hx hb dX12_beside_24 rfl (lv_at hl 2 rfl) ?_
    refine lv_bipush (v := 6) hx hb dX12_beside_25 rfl ?_
    refine lv_idiv hx hb dX12_beside_27 (by decide) (lv_topi (fun v61 ev61 => ?_))
    have ev61i : v61.toInt = (a1 / 6) := i_div ev61 e1 (by decide) (by omega) (by decide)
    refine lv_iload_n hx hb dX12_beside_28 rfl (lv_at hl 3 rfl) ?_
    refine lv_iconst (v := 1) hx hb dX12_beside_29 rfl ?_
    refine q_icmp_ne hx hb (a := a2) (b := 1) e2 (by decide) (tgt := 37) dX12_beside_30 rfl (fun c62 => ?_) (fun c62 => absurd c62 (by omega))
    refine lv_iload_n hx hb dX12_beside_37 rfl (lv_at hl 3 rfl) ?_
    refine lv_iconst (v := 2) hx hb dX12_beside_38 rfl ?_
    refine q_icmp_ne hx hb (a := a2) (b := 2) e2 (by decide) (tgt := 46) dX12_beside_39 rfl (fun c63 => ?_) (fun c63 => absurd c63 (by omega))
    refine lv_iconst (v := 0) hx hb dX12_beside_46 rfl ?_
    refine lv_iadd hx hb dX12_beside_47 (lv_topi (fun v64 ev64 => ?_))
    have ev64i : v64.toInt = ((a1 / 6) + 0) := i_add ev64 ev61i (by decide) (by omega) (by omega)
    refine lv_istore hx hb dX12_beside_48 hl (by decide) rfl (fun ls hl => ?_)
    replace hl : lv_has ls 5 [(4, .int v64), (3, .int v60), (0, .ref h0), (1, .int p1), (2, .int p2)] := hl
    have hbx : bsX a1 a2 = ((a1 % 6) + 1) := by unfold bsX; (repeat' split) <;> omega
    have hby : bsY a1 a2 = ((a1 / 6) + 0) := by unfold bsY; (repeat' split) <;> omega
    refine lv_aload_n hx hb dX12_beside_50 rfl (lv_at hl 2 rfl) ?_
    refine lv_iload_n hx hb dX12_beside_51 rfl (lv_at hl 1 rfl) ?_
    refine lv_iload hx hb dX12_beside_52 (lv_at hl 0 rfl) ?_
    refine q_goIp (q_runV (As := [.int v60, .int v64]) (rest := []) E hC0 hS0 (m_X12_isCell l X Γ H0 hC0 h0 g0 v60 (a1 := ((a1 % 6) + 1)) ev60i v64 (a2 := ((a1 / 6) + 0)) ev64i ca gca uc) cw_X12_isCell cl_RX12_301 g0 ⟨rfl, rfl⟩ rfl hl.1 rfl (Nat.zero_le _) (by decide) dX12_beside_54) hS0 (fun v65 locs65 hr65 hS65 => ?_)
    rcases hr65 with ⟨rfl, f65a0, f65a1, f65a2, f65a3, f65a4, f65a5⟩ | ⟨rfl, f65b⟩
    · refine q_if_eq hx hb (a := 1) (by decide) (tgt := 69) dX12_beside_57 rfl (fun c66 => absurd c66 (by omega)) (fun c66 => ?_)
      refine lv_iload_n hx hb dX12_beside_60 rfl (lv_at hl 1 rfl) ?_
      refine lv_iload hx hb dX12_beside_61 (lv_at hl 0 rfl) ?_
      refine q_goIp (q_runS (As := [.int v60, .int v64]) (rest := []) E hS65 (m_X12_at2 l X Γ H0 hC0 v60 (a0 := ((a1 % 6) + 1)) ev60i v64 (a1 := ((a1 / 6) + 0)) ev64i (by omega) (by omega) (by omega) (by omega)) cw_X12_at2 cl_RX12_292 rfl hl.1 rfl (Nat.zero_le _) (by decide) dX12_beside_63) hS65 (fun v67 locs67 hr67 hS67 => ?_)
      have f67_0 := hr67
      refine lv_goto (tgt := 70) hx hb dX12_beside_66 rfl ?_
      have c68 : v67.toInt = v67.toInt := rfl
      exact ret v67 H0 locs67 _ _ dX12_beside_70 ⟨rfl, ⟨by omega, by omega, by unfold bs bsI cW cH; rw [hbx, hby]; split <;> omega⟩⟩ hC0 hS67
    · refine q_if_eq hx hb (a := 0) (by decide) (tgt := 69) dX12_beside_57 rfl (fun c69 => ?_) (fun c69 => absurd c69 (by omega))
      refine lv_iconst (v := (-1)) hx hb dX12_beside_69 rfl ?_
      have c70 : ((-1) : Int32).toInt = (-1) := (by decide)
      exact ret (-1) H0 locs65 _ _ dX12_beside_70 ⟨rfl, ⟨by omega, by omega, by unfold bs bsI cW cH; rw [hbx, hby]; split <;> omega⟩⟩ hC0 hS65
set_option maxRecDepth 100000 in
set_option maxHeartbeats 4000000 in
theorem m_X12_step (l : Launch) (X : xW) (Γ : Nat → Option Nat) (H0 : Heap) (hC0 : Conf X Γ H0) (p0 : Int32) {a0 : Int} (e0 : p0.toInt = a0) (p1 : Int32) {a1 : Int} (e1 : p1.toInt = a1) (r0 : 0 ≤ a0) (r1 : a0 ≤ 198) (r2 : 0 ≤ a1) (r3 : a1 ≤ 198) : Ctr l X Γ yX12_step cX12_step 2 (some .int) 0 [.int p0, .int p1] H0 (QI X Γ (fun v H1 => H1 = H0 ∧ ((0 ≤ v.toInt) ∧ (v.toInt ≤ 198) ∧ (v.toInt = stI a0 a1)))) := by
  refine q_enterI (own := "SnowFortsModel") (by decide) rfl (Nat.le_of_ble_eq_true rfl) ?_
  intro p e s m args below meth c ls Qz E hl ret hS0
  have hx := E.1; have hb := E.2.1
  have hl : lv_has ls 2 [(0, .int p0), (1, .int p1)] := hl
  refine lv_iload_n hx hb dX12_step_0 rfl (lv_at hl 1 rfl) ?_
  refine lv_iload_n hx hb dX12_step_1 rfl (lv_at hl 0 rfl) ?_
  refine q_icmp_le hx hb (a := a1) (b := a0) e1 e0 (tgt := 11) dX12_step_2 rfl (fun c21 => ?_) (fun c21 => ?_)
  · refine lv_iload_n hx hb dX12_step_11 rfl (lv_at hl 0 rfl) ?_
    refine lv_iload_n hx hb dX12_step_12 rfl (lv_at hl 1 rfl) ?_
    refine lv_isub hx hb dX12_step_13 (lv_topi (fun v22 ev22 => ?_))
    have ev22i : v22.toInt = (a0 - a1) := i_sub ev22 e0 e1 (by omega) (by omega)
    refine lv_iconst (v := 3) hx hb dX12_step_14 rfl ?_
    refine q_icmp_le hx hb (a := (a0 - a1)) (b := 3) ev22i (by decide) (tgt := 22) dX12_step_15 rfl (fun c23 => ?_) (fun c23 => ?_)
    · refine lv_iconst (v := 0) hx hb dX12_step_22 rfl ?_
      have c24 : (0 : Int32).toInt = 0 := (by decide)
      exact ret 0 H0 [] _ _ dX12_step_23 ⟨rfl, ⟨by omega, by omega, by unfold stI; (repeat' split) <;> omega⟩⟩ hC0 hS0
    · refine lv_iconst (v := 2) hx hb dX12_step_18 rfl ?_
      refine lv_goto (tgt := 23) hx hb dX12_step_19 rfl ?_
      have c25 : (2 : Int32).toInt = 2 := (by decide)
      exact ret 2 H0 [] _ _ dX12_step_23 ⟨rfl, ⟨by omega, by omega, by unfold stI; (repeat' split) <;> omega⟩⟩ hC0 hS0
  · refine lv_iload_n hx hb dX12_step_5 rfl (lv_at hl 1 rfl) ?_
    refine lv_iload_n hx hb dX12_step_6 rfl (lv_at hl 0 rfl) ?_
    refine lv_isub hx hb dX12_step_7 (lv_topi (fun v26 ev26 => ?_))
    have ev26i : v26.toInt = (a1 - a0) := i_sub ev26 e1 e0 (by omega) (by omega)
    refine lv_goto (tgt := 23) hx hb dX12_step_8 rfl ?_
    have c27 : v26.toInt = (a1 - a0) := ev26i
    exact ret v26 H0 [] _ _ dX12_step_23 ⟨rfl, ⟨by omega, by omega, by unfold stI; (repeat' split) <;> omega⟩⟩ hC0 hS0
set_option maxRecDepth 100000 in
set_option maxHeartbeats 4000000 in
theorem m_X12_goesBy (l : Launch) (X : xW) (Γ : Nat → Option Nat) (H0 : Heap) (hC0 : Conf X Γ H0) (h0 : Nat) (g0 : Γ h0 = some 11) (p1 : Int32) {a1 : Int} (e1 : p1.toInt = a1) (p2 : Int32) {a2 : Int} (e2 : p2.toInt = a2) (ca : Nat) (gca : Γ ca = some 64) (uc : ∀ a, Γ a = some 64 → a = ca) (oa : Nat) (goa : Γ oa = some 68) (uo : ∀ a, Γ a = some 68 → a = oa) (r0 : 0 ≤ a1) (r1 : a1 ≤ 35) : Ctr l X Γ yX12_goesBy cX12_goesBy 4 (some .int) 3 [.ref h0, .int p1, .int p2] H0 (QI X Γ (fun v H1 => H1 = H0 ∧ ((1 ≤ v.toInt) ∧ (v.toInt ≤ 1200000) ∧ (v.toInt = gb H0 H0 ca oa a1 a2)))) := by
  refine q_enterI (own := "SnowFortsModel") (by decide) rfl (Nat.le_of_ble_eq_true rfl) ?_
  intro p e s m args below meth c ls Qz E hl ret hS0
  have hx := E.1; have hb := E.2.1
  have hl : lv_has ls 4 [(0, .ref h0), (1, .int p1), (2, .int p2)] := hl
  refine lv_aload_n hx hb dX12_goesBy_0 rfl (lv_at hl 0 rfl) ?_
  refine lv_iload_n hx hb dX12_goesBy_1 rfl (lv_at hl 1 rfl) ?_
  refine lv_iload_n hx hb dX12_goesBy_2 rfl (lv_at hl 2 rfl) ?_
  refine q_goIp (q_runV (As := [.int p1, .int p2]) (rest := []) E hC0 hS0 (m_X12_beside l X Γ H0 hC0 h0 g0 p1 (a1 := a1) e1 p2 (a2 := a2) e2 ca gca uc (by omega) (by omega)) cw_X12_beside cl_RX12_374 g0 ⟨rfl, rfl⟩ rfl hl.1 rfl (Nat.zero_le _) (by decide) dX12_goesBy_3) hS0 (fun v21 locs21 hr21 hS21 => ?_)
  obtain ⟨f21_0, f21_1, f21_2⟩ := hr21
  have hb0 := f21_2
  refine lv_istore_n hx hb dX12_goesBy_6 rfl hl (by decide) rfl (fun ls hl => ?_)
  replace hl : lv_has ls 4 [(3, .int v21), (0, .ref h0), (1, .int p1), (2, .int p2)] := hl
  refine lv_iload_n hx hb dX12_goesBy_7 rfl (lv_at hl 0 rfl) ?_
  refine q_if_ge hx hb (a := v21.toInt) rfl (tgt := 37) dX12_goesBy_8 rfl (fun c22 => ?_) (fun c22 => ?_)
  · refine lv_sipush (v := 1000) hx hb dX12_goesBy_37 rfl ?_
    refine lv_aload_n hx hb dX12_goesBy_40 rfl (lv_at hl 1 rfl) ?_
    refine lv_iload_n hx hb dX12_goesBy_41 rfl (lv_at hl 2 rfl) ?_
    refine q_goIp (q_runV (As := [.int p1]) (rest := [.int 1000]) E hC0 hS21 (m_X12_topOf l X Γ H0 hC0 h0 g0 p1 (a1 := a1) e1 ca gca uc (by omega) (by omega)) cw_X12_topOf cl_RX12_359 g0 ⟨rfl, rfl⟩ rfl hl.1 rfl (show _ ≤ _ from by simp [Value.category]) (by decide) dX12_goesBy_42) hS21 (fun v23 locs23 hr23 hS23 => ?_)
    obtain ⟨f23_0, f23_1, f23_2⟩ := hr23
    have ht0 := f23_2
    refine lv_aload_n hx hb dX12_goesBy_45 rfl (lv_at hl 1 rfl) ?_
    refine lv_iload_n hx hb dX12_goesBy_46 rfl (lv_at hl 0 rfl) ?_
    refine q_goIp (q_runV (As := [.int v21]) (rest := [.int v23, .int 1000]) E hC0 hS23 (m_X12_topOf l X Γ H0 hC0 h0 g0 v21 (a1 := v21.toInt) rfl ca gca uc (by omega) (by omega)) cw_X12_topOf cl_RX12_359 g0 ⟨rfl, rfl⟩ rfl hl.1 rfl (show _ ≤ _ from by simp [Value.category]) (by decide) dX12_goesBy_47) hS23 (fun v24 locs24 hr24 hS24 => ?_)
    obtain ⟨f24_0, f24_1, f24_2⟩ := hr24
    have ht1 := f24_2
    refine q_goIp (q_runS (As := [.int v23, .int v24]) (rest := [.int 1000]) E hS24 (m_X12_step l X Γ H0 hC0 v23 (a0 := v23.toInt) rfl v24 (a1 := v24.toInt) rfl (by omega) (by omega) (by omega) (by omega)) cw_X12_step cl_RX12_377 rfl hl.1 rfl (show _ ≤ _ from by simp [Value.category]) (by decide) dX12_goesBy_50) hS24 (fun v25 locs25 hr25 hS25 => ?_)
    obtain ⟨f25_0, f25_1, f25_2⟩ := hr25
    have hs0 := f25_2
    refine lv_imul hx hb dX12_goesBy_53 (lv_topi (fun v26 ev26 => ?_))
    have ev26i : v26.toInt = (1000 * v25.toInt) := i_mul ev26 (by decide) rfl (by omega) (by omega)
    refine lv_iconst (v := 1) hx hb dX12_goesBy_54 rfl ?_
    refine lv_iadd hx hb dX12_goesBy_55 (lv_topi (fun v27 ev27 => ?_))
    have ev27i : v27.toInt = ((1000 * v25.toInt) + 1) := i_add ev27 ev26i (by decide) (by omega) (by omega)
    refine lv_aload_n hx hb dX12_goesBy_56 rfl (lv_at hl 1 rfl) ?_
    refine q_getU E hC0 g0 fa_RX12_47 uo dX12_goesBy_57 ?_
    refine lv_iload_n hx hb dX12_goesBy_60 rfl (lv_at hl 0 rfl) ?_
    refine q_oald E hC0 goa (a := v21.toInt) rfl (by omega) (by omega) dX12_goesBy_61 (fun v28 ev28 lv28 uv28 => ?_)
    have m29 : oI H0 oa (v21.toInt) = v28.toInt := congrArg Int32.toInt ev28
    refine lv_iadd hx hb dX12_goesBy_62 (lv_topi (fun v30 ev30 => ?_))
    have ev30i : v30.toInt = (((1000 * v25.toInt) + 1) + v28.toInt) := i_add ev30 ev27i rfl (by omega) (by omega)
    have hgb : (v30 : Int32).toInt = gb H0 H0 ca oa a1 a2 := ev30i.trans (by unfold gb; rw [← hb0, if_neg (by omega), ← ht0, ← ht1, ← hs0]; omega)
    have c31 : v30.toInt = (((1000 * v25.toInt) + 1) + v28.toInt) := ev30i
    exact ret v30 H0 locs25 _ _ dX12_goesBy_63 ⟨rfl, ⟨by omega, by omega, hgb⟩⟩ hC0 hS25
  · refine lv_iload_n hx hb dX12_goesBy_11 rfl (lv_at hl 3 rfl) ?_
    refine q_if_ne hx hb (a := a2) e2 (tgt := 33) dX12_goesBy_12 rfl (fun c32 => ?_) (fun c32 => ?_)
    · refine lv_ldcw (v := 1000000) hx hb E.2.2.2.1 (E.2.2.2.2.1 _ w_1801) dX12_goesBy_33 ?_
      have hgb : (1000000 : Int32).toInt = gb H0 H0 ca oa a1 a2 := (show (1000000 : Int32).toInt = 1000000 from by decide).trans (by unfold gb; rw [← hb0, if_pos (show _ < (0 : Int) from by omega)]; first | rw [if_pos (show a2 = 0 from by omega), ← ht0, ← hs0] | rw [if_neg (show ¬ a2 = 0 from by omega)])
      have c33 : (1000000 : Int32).toInt = 1000000 := (by decide)
      exact ret 1000000 H0 locs21 _ _ dX12_goesBy_36 ⟨rfl, ⟨by omega, by omega, hgb⟩⟩ hC0 hS21
    · refine lv_sipush (v := 1000) hx hb dX12_goesBy_15 rfl ?_
      refine lv_aload_n hx hb dX12_goesBy_18 rfl (lv_at hl 1 rfl) ?_
      refine lv_iload_n hx hb dX12_goesBy_19 rfl (lv_at hl 2 rfl) ?_
      refine q_goIp (q_runV (As := [.int p1]) (rest := [.int 1000]) E hC0 hS21 (m_X12_topOf l X Γ H0 hC0 h0 g0 p1 (a1 := a1) e1 ca gca uc (by omega) (by omega)) cw_X12_topOf cl_RX12_359 g0 ⟨rfl, rfl⟩ rfl hl.1 rfl (show _ ≤ _ from by simp [Value.category]) (by decide) dX12_goesBy_20) hS21 (fun v34 locs34 hr34 hS34 => ?_)
      obtain ⟨f34_0, f34_1, f34_2⟩ := hr34
      have ht0 := f34_2
      refine lv_iconst (v := 0) hx hb dX12_goesBy_23 rfl ?_
      refine q_goIp (q_runS (As := [.int v34, .int 0]) (rest := [.int 1000]) E hS34 (m_X12_step l X Γ H0 hC0 v34 (a0 := v34.toInt) rfl 0 (a1 := 0) (by decide) (by omega) (by omega) (by omega) (by omega)) cw_X12_step cl_RX12_377 rfl hl.1 rfl (show _ ≤ _ from by simp [Value.category]) (by decide) dX12_goesBy_24) hS34 (fun v35 locs35 hr35 hS35 => ?_)
      obtain ⟨f35_0, f35_1, f35_2⟩ := hr35
      have hs0 := f35_2
      refine lv_imul hx hb dX12_goesBy_27 (lv_topi (fun v36 ev36 => ?_))
      have ev36i : v36.toInt = (1000 * v35.toInt) := i_mul ev36 (by decide) rfl (by omega) (by omega)
      refine lv_iconst (v := 1) hx hb dX12_goesBy_28 rfl ?_
      refine lv_iadd hx hb dX12_goesBy_29 (lv_topi (fun v37 ev37 => ?_))
      have ev37i : v37.toInt = ((1000 * v35.toInt) + 1) := i_add ev37 ev36i (by decide) (by omega) (by omega)
      refine lv_goto (tgt := 36) hx hb dX12_goesBy_30 rfl ?_
      have hgb : (v37 : Int32).toInt = gb H0 H0 ca oa a1 a2 := ev37i.trans (by unfold gb; rw [← hb0, if_pos (show _ < (0 : Int) from by omega)]; first | rw [if_pos (show a2 = 0 from by omega), ← ht0, ← hs0] | rw [if_neg (show ¬ a2 = 0 from by omega)])
      have c38 : v37.toInt = ((1000 * v35.toInt) + 1) := ev37i
      exact ret v37 H0 locs35 _ _ dX12_goesBy_36 ⟨rfl, ⟨by omega, by omega, hgb⟩⟩ hC0 hS35
set_option maxRecDepth 100000 in
set_option maxHeartbeats 4000000 in
theorem m_X12_ways (l : Launch) (X : xW) (Γ : Nat → Option Nat) (H0 : Heap) (hC0 : Conf X Γ H0) (h0 : Nat) (g0 : Γ h0 = some 11) (ca : Nat) (gca : Γ ca = some 64) (uc : ∀ a, Γ a = some 64 → a = ca) (oa : Nat) (goa : Γ oa = some 68) (uo : ∀ a, Γ a = some 68 → a = oa) : Ctr l X Γ yX12_ways cX12_ways 6 (some .int) 4 [.ref h0] H0 (QI X Γ (fun v H1 => Kp X Γ [1, 6, 7, 8, 9, 10, 11, 14, 15, 16, 17, 19, 22, 24, 26, 28] H0 H1 ∧ ((0 ≤ v.toInt) ∧ (v.toInt ≤ 1000000) ∧ (WY H0 H1 ca oa v.toInt)))) := by
  refine q_enterI (own := "SnowFortsModel") (by decide) rfl (Nat.le_of_ble_eq_true rfl) ?_
  intro p e s m args below meth c ls Qz E hl ret hS0
  have hx := E.1; have hb := E.2.1
  have hKp0 : Kp X Γ [1, 6, 7, 8, 9, 10, 11, 14, 15, 16, 17, 19, 22, 24, 26, 28] H0 H0 := Kp.rf
  have hl : lv_has ls 6 [(0, .ref h0)] := hl
  have hTP := TP.mk hC0 gca
  have hcW : cW H0 ca = (sI H0 ca (0 : Int).toNat).toInt := rfl
  have hcH : cH H0 ca = (sI H0 ca (1 : Int).toNat).toInt := rfl
  obtain ⟨hTP1, hTP2, hTP3, hTP4, hTP5⟩ := hTP
  refine lv_iconst (v := 0) hx hb dX12_ways_0 rfl ?_
  refine lv_istore_n hx hb dX12_ways_1 rfl hl (by decide) rfl (fun ls hl => ?_)
  replace hl : lv_has ls 6 [(1, .int 0), (0, .ref h0)] := hl
  have L2 : ∀ (n22 : Nat) (H22 : Heap) (locs22 : List Loc) (v21 : Int32) (z21 : Int) (ls : Array Slot), (36 - z21).toNat < n22 → v21.toInt = z21 → z21 ≤ 36 → 0 ≤ z21 → OF H22 oa z21 → Conf X Γ H22 → va_S (AΓ Γ) H0 H22 locs22 → Kp X Γ [1, 6, 7, 8, 9, 10, 11, 14, 15, 16, 17, 19, 22, 24, 26, 28] H0 H22 → lv_has ls 6 [(1, .int v21), (0, .ref h0)] → W p l e (rmL 4) s m args below meth c H22 locs22 0 0 Qz (F0 m 2 ls []) := by
    intro n22
    induction n22 with
    | zero => intro H22 locs22 v21 z21 ls hm22 ev21 iv22_0 iv22_1 iv22_2 hC22 hS22 hKp22 hl; exact absurd hm22 (Nat.not_lt_zero _)
    | succ n22 ih22 =>
      intro H22 locs22 v21 z21 ls hm22 ev21 iv22_0 iv22_1 iv22_2 hC22 hS22 hKp22 hl
      have off := iv22_2
      refine lv_iload_n hx hb dX12_ways_2 rfl (lv_at hl 0 rfl) ?_
      refine lv_bipush (v := 36) hx hb dX12_ways_3 rfl ?_
      refine q_icmp_ge hx hb (a := z21) (b := 36) ev21 (by decide) (tgt := 23) dX12_ways_5 rfl (fun c23 => ?_) (fun c23 => ?_)
      · refine lv_iconst (v := 1) hx hb dX12_ways_23 rfl ?_
        refine lv_istore_n hx hb dX12_ways_24 rfl hl (by decide) rfl (fun ls hl => ?_)
        replace hl : lv_has ls 6 [(1, .int 1), (0, .ref h0)] := hl
        have L25 : ∀ (n25 : Nat) (H25 : Heap) (locs25 : List Loc) (v24 : Int32) (z24 : Int) (ls : Array Slot), (2 * SOn H25 oa 36 + (z24).toNat) < n25 → v24.toInt = z24 → 0 ≤ z24 → z24 ≤ 1 → Att H0 H25 ca oa → (z24 = 0 → FX H0 H25 ca oa (cH H0 ca) 0 0) → Conf X Γ H25 → va_S (AΓ Γ) H0 H25 locs25 → Kp X Γ [1, 6, 7, 8, 9, 10, 11, 14, 15, 16, 17, 19, 22, 24, 26, 28] H0 H25 → lv_has ls 6 [(1, .int v24), (0, .ref h0)] → W p l e (rmL 4) s m args below meth c H25 locs25 0 0 Qz (F0 m 25 ls []) := by
          intro n25
          induction n25 with
          | zero => intro H25 locs25 v24 z24 ls hm25 ev24 iv25_0 iv25_1 iv25_2 iv25_3 hC25 hS25 hKp25 hl; exact absurd hm25 (Nat.not_lt_zero _)
          | succ n25 ih25 =>
            intro H25 locs25 v24 z24 ls hm25 ev24 iv25_0 iv25_1 iv25_2 iv25_3 hC25 hS25 hKp25 hl
            have att := iv25_2
            have fxo := iv25_3
            obtain ⟨S0, hS0⟩ : ∃ z : Int, (SOn H25 oa 36 : Int) = z := ⟨_, rfl⟩
            refine lv_iload_n hx hb dX12_ways_25 rfl (lv_at hl 0 rfl) ?_
            refine q_if_eq hx hb (a := z24) ev24 (tgt := 130) dX12_ways_26 rfl (fun c26 => ?_) (fun c26 => ?_)
            · have hfix := fxo (by omega)
              refine lv_ldcw (v := 1000000) hx hb E.2.2.2.1 (E.2.2.2.2.1 _ w_1801) dX12_ways_130 ?_
              refine lv_istore_n hx hb dX12_ways_133 rfl hl (by decide) rfl (fun ls hl => ?_)
              replace hl : lv_has ls 6 [(2, .int 1000000), (1, .int v24), (0, .ref h0)] := hl
              refine lv_iconst (v := 0) hx hb dX12_ways_134 rfl ?_
              refine lv_istore_n hx hb dX12_ways_135 rfl hl (by decide) rfl (fun ls hl => ?_)
              replace hl : lv_has ls 6 [(3, .int 0), (2, .int 1000000), (1, .int v24), (0, .ref h0)] := hl
              have L136 : ∀ (n29 : Nat) (locs29 : List Loc) (v27 : Int32) (z27 : Int) (v28 : Int32) (z28 : Int) (ls : Array Slot), (6 - z27).toNat < n29 → v27.toInt = z27 → v28.toInt = z28 → z27 ≤ 6 → 0 ≤ z27 → 0 ≤ z28 → z28 ≤ 1000000 → z27 ≤ cH H0 ca → BB H0 H25 ca oa z27 z28 → va_S (AΓ Γ) H0 H25 locs29 → lv_has ls 6 [(3, .int v27), (2, .int v28), (1, .int v24), (0, .ref h0)] → W p l e (rmL 4) s m args below meth c H25 locs29 0 0 Qz (F0 m 136 ls []) := by
                intro n29
                induction n29 with
                | zero => intro locs29 v27 z27 v28 z28 ls hm29 ev27 ev28 iv29_0 iv29_1 iv29_2 iv29_3 iv29_4 iv29_5 hS29 hl; exact absurd hm29 (Nat.not_lt_zero _)
                | succ n29 ih29 =>
                  intro locs29 v27 z27 v28 z28 ls hm29 ev27 ev28 iv29_0 iv29_1 iv29_2 iv29_3 iv29_4 iv29_5 hS29 hl
                  have bb := iv29_5
                  refine lv_iload_n hx hb dX12_ways_136 rfl (lv_at hl 0 rfl) ?_
                  have hc1 := congrArg Int32.toInt (kp_c (j := (1 : Int).toNat) hKp25 gca rfl)
                  refine lv_aload_n hx hb dX12_ways_137 rfl (lv_at hl 3 rfl) ?_
                  refine q_getC E hC25 g0 fa_RX12_35 uc dX12_ways_138 ?_
                  refine lv_iconst (v := 1) hx hb dX12_ways_141 rfl ?_
                  refine q_cald E hC25 (lo := 0) (hi := 6) gca (a := 1) (show (1 : Int32).toInt = 1 from by decide) (by omega) (by omega) (cr_c0 (by omega) (by omega)) dX12_ways_142 (fun v30 ev30 lv30 uv30 => ?_)
                  have m31 : (sI H25 ca (1 : Int).toNat).toInt = v30.toInt := congrArg Int32.toInt ev30
                  refine q_icmp_ge hx hb (a := z27) (b := v30.toInt) ev27 rfl (tgt := 185) dX12_ways_143 rfl (fun c32 => ?_) (fun c32 => ?_)
                  · refine lv_iload_n hx hb dX12_ways_185 rfl (lv_at hl 1 rfl) ?_
                    have hwy : WY H0 H25 ca oa v28.toInt := ⟨(fun j => kp_c (j := j) hKp25 gca rfl), hfix, att, by rw [ev28]; exact BB.eq bb (by omega)⟩
                    have c33 : v28.toInt = z28 := ev28
                    exact ret v28 H25 locs29 _ _ dX12_ways_186 ⟨hKp25, ⟨by omega, by omega, hwy⟩⟩ hC25 hS29
                  · refine lv_iload_n hx hb dX12_ways_146 rfl (lv_at hl 1 rfl) ?_
                    refine lv_sipush (v := 1000) hx hb dX12_ways_147 rfl ?_
                    refine lv_iconst (v := 0) hx hb dX12_ways_150 rfl ?_
                    refine lv_aload_n hx hb dX12_ways_151 rfl (lv_at hl 3 rfl) ?_
                    refine lv_iconst (v := 0) hx hb dX12_ways_152 rfl ?_
                    refine lv_iload_n hx hb dX12_ways_153 rfl (lv_at hl 0 rfl) ?_
                    refine q_goIp (q_runS (As := [.int 0, .int v27]) (rest := [.ref h0, .int 0, .int 1000, .int v28]) E hS29 (m_X12_at2 l X Γ H25 hC25 0 (a0 := 0) (by decide) v27 (a1 := z27) ev27 (by omega) (by omega) (by omega) (by omega)) cw_X12_at2 cl_RX12_292 rfl hl.1 rfl (show _ ≤ _ from by simp [Value.category]) (by decide) dX12_ways_154) hS29 (fun v34 locs34 hr34 hS34 => ?_)
                    have f34_0 := hr34
                    have hx1 := f34_0
                    refine q_goIp (q_runV (As := [.int v34]) (rest := [.int 0, .int 1000, .int v28]) E hC25 hS34 (m_X12_topOf l X Γ H25 hC25 h0 g0 v34 (a1 := v34.toInt) rfl ca gca uc (by omega) (by omega)) cw_X12_topOf cl_RX12_359 g0 ⟨rfl, rfl⟩ rfl hl.1 rfl (show _ ≤ _ from by simp [Value.category]) (by decide) dX12_ways_157) hS34 (fun v35 locs35 hr35 hS35 => ?_)
                    obtain ⟨f35_0, f35_1, f35_2⟩ := hr35
                    have ht1 : v35.toInt = tpI H0 ca (6 * z27) := by rw [f35_2, tpEq (Hc := H0) (fun j => kp_c (j := j) hKp25 gca rfl), hx1, Int.add_zero]
                    refine q_goIp (q_runS (As := [.int 0, .int v35]) (rest := [.int 1000, .int v28]) E hS35 (m_X12_step l X Γ H25 hC25 0 (a0 := 0) (by decide) v35 (a1 := v35.toInt) rfl (by omega) (by omega) (by omega) (by omega)) cw_X12_step cl_RX12_377 rfl hl.1 rfl (show _ ≤ _ from by simp [Value.category]) (by decide) dX12_ways_160) hS35 (fun v36 locs36 hr36 hS36 => ?_)
                    obtain ⟨f36_0, f36_1, f36_2⟩ := hr36
                    have hs1 := f36_2
                    refine lv_imul hx hb dX12_ways_163 (lv_topi (fun v37 ev37 => ?_))
                    have ev37i : v37.toInt = (1000 * v36.toInt) := i_mul ev37 (by decide) rfl (by omega) (by omega)
                    refine lv_aload_n hx hb dX12_ways_164 rfl (lv_at hl 3 rfl) ?_
                    refine q_getU E hC25 g0 fa_RX12_47 uo dX12_ways_165 ?_
                    refine lv_iconst (v := 0) hx hb dX12_ways_168 rfl ?_
                    refine lv_iload_n hx hb dX12_ways_169 rfl (lv_at hl 0 rfl) ?_
                    refine q_goIp (q_runS (As := [.int 0, .int v27]) (rest := [.ref oa, .int v37, .int v28]) E hS36 (m_X12_at2 l X Γ H25 hC25 0 (a0 := 0) (by decide) v27 (a1 := z27) ev27 (by omega) (by omega) (by omega) (by omega)) cw_X12_at2 cl_RX12_292 rfl hl.1 rfl (show _ ≤ _ from by simp [Value.category]) (by decide) dX12_ways_170) hS36 (fun v38 locs38 hr38 hS38 => ?_)
                    have f38_0 := hr38
                    have hx2 : 6 * z27 = v38.toInt := by omega
                    refine q_oald E hC25 goa (a := v38.toInt) rfl (by omega) (by omega) dX12_ways_173 (fun v39 ev39 lv39 uv39 => ?_)
                    have m40 : oI H25 oa (v38.toInt) = v39.toInt := congrArg Int32.toInt ev39
                    have ho1 : oI H25 oa (6 * z27) = v39.toInt := by rw [hx2]; assumption
                    refine lv_iadd hx hb dX12_ways_174 (lv_topi (fun v41 ev41 => ?_))
                    have ev41i : v41.toInt = ((1000 * v36.toInt) + v39.toInt) := i_add ev41 ev37i rfl (by omega) (by omega)
                    refine q_mmin E hl.1 w_1740 mathw_min (a := z28) (b := ((1000 * v36.toInt) + v39.toInt)) ev28 ev41i (by decide) (Nat.zero_le _) dX12_ways_175 (fun v42 mv42a mv42b mv42c => ?_)
                    have bbn : BB H0 H25 ca oa (z27 + 1) v42.toInt := BB.step bb mv42a mv42b mv42c (by unfold en; rw [← ht1, ← hs1, ho1]) (by omega)
                    refine lv_istore_n hx hb dX12_ways_178 rfl hl (by decide) rfl (fun ls hl => ?_)
                    replace hl : lv_has ls 6 [(2, .int v42), (3, .int v27), (1, .int v24), (0, .ref h0)] := hl
                    obtain ⟨v43, ev43⟩ : ∃ z, z = v27 + Int32.ofInt 1 := ⟨_, rfl⟩
                    have ev43i : v43.toInt = (z27 + 1) := i_add ev43 ev27 (by decide) (by omega) (by omega)
                    refine lv_iinc hx hb dX12_ways_179 hl (k := 1) rfl ev43.symm (by decide) rfl (fun ls hl => ?_)
                    replace hl : lv_has ls 6 [(3, .int v43), (2, .int v42), (1, .int v24), (0, .ref h0)] := hl
                    refine lv_goto (tgt := 136) hx hb dX12_ways_182 rfl ?_
                    exact ih29 locs38 v43 ((z27 + 1)) v42 (v42.toInt) ls (by omega) ev43i rfl (by omega) (by omega) (by omega) (by omega) (by omega) (bbn) hS38 hl
              exact L136 _ locs25 0 0 1000000 1000000 ls (Nat.lt_succ_self _) (by decide) (by decide) (by omega) (by omega) (by omega) (by omega) (by omega) (BB.nil) hS25 hl
            · refine lv_iconst (v := 0) hx hb dX12_ways_29 rfl ?_
              refine lv_istore_n hx hb dX12_ways_30 rfl hl (by decide) rfl (fun ls hl => ?_)
              replace hl : lv_has ls 6 [(1, .int 0), (0, .ref h0)] := hl
              refine lv_iconst (v := 0) hx hb dX12_ways_31 rfl ?_
              refine lv_istore_n hx hb dX12_ways_32 rfl hl (by decide) rfl (fun ls hl => ?_)
              replace hl : lv_has ls 6 [(2, .int 0), (1, .int 0), (0, .ref h0)] := hl
              have L33 : ∀ (n46 : Nat) (H46 : Heap) (locs46 : List Loc) (v44 : Int32) (z44 : Int) (v45 : Int32) (z45 : Int) (ls : Array Slot), (6 - z44).toNat < n46 → v44.toInt = z44 → v45.toInt = z45 → z44 ≤ 6 → 0 ≤ z44 → 0 ≤ z45 → z45 ≤ 1 → (SOn H46 oa 36 : Int) + z45 ≤ S0 → Att H0 H46 ca oa → (z45 = 0 → FX H0 H46 ca oa z44 0 0) → Conf X Γ H46 → va_S (AΓ Γ) H0 H46 locs46 → Kp X Γ [1, 6, 7, 8, 9, 10, 11, 14, 15, 16, 17, 19, 22, 24, 26, 28] H0 H46 → lv_has ls 6 [(2, .int v44), (1, .int v45), (0, .ref h0)] → W p l e (rmL 4) s m args below meth c H46 locs46 0 0 Qz (F0 m 33 ls []) := by
                intro n46
                induction n46 with
                | zero => intro H46 locs46 v44 z44 v45 z45 ls hm46 ev44 ev45 iv46_0 iv46_1 iv46_2 iv46_3 iv46_4 iv46_5 iv46_6 hC46 hS46 hKp46 hl; exact absurd hm46 (Nat.not_lt_zero _)
                | succ n46 ih46 =>
                  intro H46 locs46 v44 z44 v45 z45 ls hm46 ev44 ev45 iv46_0 iv46_1 iv46_2 iv46_3 iv46_4 iv46_5 iv46_6 hC46 hS46 hKp46 hl
                  have att := iv46_5
                  have fxy := iv46_6
                  refine lv_iload_n hx hb dX12_ways_33 rfl (lv_at hl 0 rfl) ?_
                  have hc1 := congrArg Int32.toInt (kp_c (j := (1 : Int).toNat) hKp46 gca rfl)
                  refine lv_aload_n hx hb dX12_ways_34 rfl (lv_at hl 2 rfl) ?_
                  refine q_getC E hC46 g0 fa_RX12_35 uc dX12_ways_35 ?_
                  refine lv_iconst (v := 1) hx hb dX12_ways_38 rfl ?_
                  refine q_cald E hC46 (lo := 0) (hi := 6) gca (a := 1) (show (1 : Int32).toInt = 1 from by decide) (by omega) (by omega) (cr_c0 (by omega) (by omega)) dX12_ways_39 (fun v47 ev47 lv47 uv47 => ?_)
                  have m48 : (sI H46 ca (1 : Int).toNat).toInt = v47.toInt := congrArg Int32.toInt ev47
                  refine q_icmp_ge hx hb (a := z44) (b := v47.toInt) ev44 rfl (tgt := 127) dX12_ways_40 rfl (fun c49 => ?_) (fun c49 => ?_)
                  · have fxon : z45 = 0 → FX H0 H46 ca oa (cH H0 ca) 0 0 := fun hz => FX.le (fxy hz) (by omega)
                    refine lv_goto (tgt := 25) hx hb dX12_ways_127 rfl ?_
                    exact ih25 H46 locs46 v45 (z45) ls (by omega) ev45 (by omega) (by omega) (att) (fxon) hC46 hS46 hKp46 (lv_sub hl [1, 2] rfl)
                  · refine lv_iconst (v := 0) hx hb dX12_ways_43 rfl ?_
                    refine lv_istore_n hx hb dX12_ways_44 rfl hl (by decide) rfl (fun ls hl => ?_)
                    replace hl : lv_has ls 6 [(3, .int 0), (2, .int v44), (1, .int v45), (0, .ref h0)] := hl
                    have L45 : ∀ (n52 : Nat) (H52 : Heap) (locs52 : List Loc) (v50 : Int32) (z50 : Int) (v51 : Int32) (z51 : Int) (ls : Array Slot), (6 - z50).toNat < n52 → v50.toInt = z50 → v51.toInt = z51 → z50 ≤ 6 → 0 ≤ z50 → 0 ≤ z51 → z51 ≤ 1 → (SOn H52 oa 36 : Int) + z51 ≤ S0 → Att H0 H52 ca oa → (z51 = 0 → FX H0 H52 ca oa z44 z50 0) → Conf X Γ H52 → va_S (AΓ Γ) H0 H52 locs52 → Kp X Γ [1, 6, 7, 8, 9, 10, 11, 14, 15, 16, 17, 19, 22, 24, 26, 28] H0 H52 → lv_has ls 6 [(3, .int v50), (2, .int v44), (1, .int v51), (0, .ref h0)] → W p l e (rmL 4) s m args below meth c H52 locs52 0 0 Qz (F0 m 45 ls []) := by
                      intro n52
                      induction n52 with
                      | zero => intro H52 locs52 v50 z50 v51 z51 ls hm52 ev50 ev51 iv52_0 iv52_1 iv52_2 iv52_3 iv52_4 iv52_5 iv52_6 hC52 hS52 hKp52 hl; exact absurd hm52 (Nat.not_lt_zero _)
                      | succ n52 ih52 =>
                        intro H52 locs52 v50 z50 v51 z51 ls hm52 ev50 ev51 iv52_0 iv52_1 iv52_2 iv52_3 iv52_4 iv52_5 iv52_6 hC52 hS52 hKp52 hl
                        have att := iv52_5
                        have fxx := iv52_6
                        refine lv_iload_n hx hb dX12_ways_45 rfl (lv_at hl 0 rfl) ?_
                        have hc0 := congrArg Int32.toInt (kp_c (j := (0 : Int).toNat) hKp52 gca rfl)
                        refine lv_aload_n hx hb dX12_ways_46 rfl (lv_at hl 3 rfl) ?_
                        refine q_getC E hC52 g0 fa_RX12_35 uc dX12_ways_47 ?_
                        refine lv_iconst (v := 0) hx hb dX12_ways_50 rfl ?_
                        refine q_cald E hC52 (lo := 0) (hi := 6) gca (a := 0) (show (0 : Int32).toInt = 0 from by decide) (by omega) (by omega) (cr_c0 (by omega) (by omega)) dX12_ways_51 (fun v53 ev53 lv53 uv53 => ?_)
                        have m54 : (sI H52 ca (0 : Int).toNat).toInt = v53.toInt := congrArg Int32.toInt ev53
                        refine q_icmp_ge hx hb (a := z50) (b := v53.toInt) ev50 rfl (tgt := 121) dX12_ways_52 rfl (fun c55 => ?_) (fun c55 => ?_)
                        · have fxyn : z51 = 0 → FX H0 H52 ca oa (z44 + 1) 0 0 := fun hz => FX.ay (fxx hz) (by omega)
                          obtain ⟨v56, ev56⟩ : ∃ z, z = v44 + Int32.ofInt 1 := ⟨_, rfl⟩
                          have ev56i : v56.toInt = (z44 + 1) := i_add ev56 ev44 (by decide) (by omega) (by omega)
                          refine lv_iinc hx hb dX12_ways_121 hl (k := 1) rfl ev56.symm (by decide) rfl (fun ls hl => ?_)
                          replace hl : lv_has ls 6 [(2, .int v56), (3, .int v50), (1, .int v51), (0, .ref h0)] := hl
                          refine lv_goto (tgt := 33) hx hb dX12_ways_124 rfl ?_
                          exact ih46 H52 locs52 v56 ((z44 + 1)) v51 (z51) ls (by omega) ev56i ev51 (by omega) (by omega) (by omega) (by omega) (by omega) (att) (fxyn) hC52 hS52 hKp52 (lv_sub hl [0, 2, 3] rfl)
                        · refine lv_iload_n hx hb dX12_ways_55 rfl (lv_at hl 0 rfl) ?_
                          refine lv_iload_n hx hb dX12_ways_56 rfl (lv_at hl 1 rfl) ?_
                          refine q_goIp (q_runS (As := [.int v50, .int v44]) (rest := []) E hS52 (m_X12_at2 l X Γ H52 hC52 v50 (a0 := z50) ev50 v44 (a1 := z44) ev44 (by omega) (by omega) (by omega) (by omega)) cw_X12_at2 cl_RX12_292 rfl hl.1 rfl (Nat.zero_le _) (by decide) dX12_ways_57) hS52 (fun v57 locs57 hr57 hS57 => ?_)
                          have f57_0 := hr57
                          have hk4 := f57_0
                          refine lv_istore hx hb dX12_ways_60 hl (by decide) rfl (fun ls hl => ?_)
                          replace hl : lv_has ls 6 [(4, .int v57), (3, .int v50), (2, .int v44), (1, .int v51), (0, .ref h0)] := hl
                          refine lv_iconst (v := 0) hx hb dX12_ways_62 rfl ?_
                          refine lv_istore hx hb dX12_ways_63 hl (by decide) rfl (fun ls hl => ?_)
                          replace hl : lv_has ls 6 [(5, .int 0), (4, .int v57), (3, .int v50), (2, .int v44), (1, .int v51), (0, .ref h0)] := hl
                          have L65 : ∀ (n60 : Nat) (H60 : Heap) (locs60 : List Loc) (v58 : Int32) (z58 : Int) (v59 : Int32) (z59 : Int) (ls : Array Slot), (4 - z58).toNat < n60 → v58.toInt = z58 → v59.toInt = z59 → z58 ≤ 4 → 0 ≤ z58 → 0 ≤ z59 → z59 ≤ 1 → (SOn H60 oa 36 : Int) + z59 ≤ S0 → Att H0 H60 ca oa → (z59 = 0 → FX H0 H60 ca oa z44 z50 z58) → Conf X Γ H60 → va_S (AΓ Γ) H0 H60 locs60 → Kp X Γ [1, 6, 7, 8, 9, 10, 11, 14, 15, 16, 17, 19, 22, 24, 26, 28] H0 H60 → lv_has ls 6 [(5, .int v58), (4, .int v57), (3, .int v50), (2, .int v44), (1, .int v59), (0, .ref h0)] → W p l e (rmL 4) s m args below meth c H60 locs60 0 0 Qz (F0 m 65 ls []) := by
                            intro n60
                            induction n60 with
                            | zero => intro H60 locs60 v58 z58 v59 z59 ls hm60 ev58 ev59 iv60_0 iv60_1 iv60_2 iv60_3 iv60_4 iv60_5 iv60_6 hC60 hS60 hKp60 hl; exact absurd hm60 (Nat.not_lt_zero _)
                            | succ n60 ih60 =>
                              intro H60 locs60 v58 z58 v59 z59 ls hm60 ev58 ev59 iv60_0 iv60_1 iv60_2 iv60_3 iv60_4 iv60_5 iv60_6 hC60 hS60 hKp60 hl
                              have att := iv60_5
                              have fxi := iv60_6
                              refine lv_iload hx hb dX12_ways_65 (lv_at hl 0 rfl) ?_
                              refine lv_iconst (v := 4) hx hb dX12_ways_67 rfl ?_
                              refine q_icmp_ge hx hb (a := z58) (b := 4) ev58 (by decide) (tgt := 115) dX12_ways_68 rfl (fun c61 => ?_) (fun c61 => ?_)
                              · have fxxn : z59 = 0 → FX H0 H60 ca oa z44 (z50 + 1) 0 := fun hz => FX.ax (fxi hz) (by omega)
                                obtain ⟨v62, ev62⟩ : ∃ z, z = v50 + Int32.ofInt 1 := ⟨_, rfl⟩
                                have ev62i : v62.toInt = (z50 + 1) := i_add ev62 ev50 (by decide) (by omega) (by omega)
                                refine lv_iinc hx hb dX12_ways_115 hl (k := 2) rfl ev62.symm (by decide) rfl (fun ls hl => ?_)
                                replace hl : lv_has ls 6 [(3, .int v62), (5, .int v58), (4, .int v57), (2, .int v44), (1, .int v59), (0, .ref h0)] := hl
                                refine lv_goto (tgt := 45) hx hb dX12_ways_118 rfl ?_
                                exact ih52 H60 locs60 v62 ((z50 + 1)) v59 (z59) ls (by omega) ev62i ev59 (by omega) (by omega) (by omega) (by omega) (by omega) (att) (fxxn) hC60 hS60 hKp60 (lv_sub hl [0, 3, 4, 5] rfl)
                              · refine lv_aload_n hx hb dX12_ways_71 rfl (lv_at hl 5 rfl) ?_
                                refine lv_iload hx hb dX12_ways_72 (lv_at hl 1 rfl) ?_
                                refine lv_iload hx hb dX12_ways_74 (lv_at hl 0 rfl) ?_
                                refine q_goIp (q_runV (As := [.int v57, .int v58]) (rest := []) E hC60 hS60 (m_X12_goesBy l X Γ H60 hC60 h0 g0 v57 (a1 := v57.toInt) rfl v58 (a2 := z58) ev58 ca gca uc oa goa uo (by omega) (by omega)) cw_X12_goesBy cl_RX12_380 g0 ⟨rfl, rfl⟩ rfl hl.1 rfl (Nat.zero_le _) (by decide) dX12_ways_76) hS60 (fun v63 locs63 hr63 hS63 => ?_)
                                obtain ⟨f63_0, f63_1, f63_2⟩ := hr63
                                have hgv := f63_2.trans (gbEq (Hc := H0) (fun j => kp_c (j := j) hKp60 gca rfl))
                                refine lv_aload_n hx hb dX12_ways_79 rfl (lv_at hl 5 rfl) ?_
                                refine q_getU E hC60 g0 fa_RX12_47 uo dX12_ways_80 ?_
                                refine lv_iload hx hb dX12_ways_83 (lv_at hl 1 rfl) ?_
                                refine q_oald E hC60 goa (a := v57.toInt) rfl (by omega) (by omega) dX12_ways_85 (fun v64 ev64 lv64 uv64 => ?_)
                                have m65 : oI H60 oa (v57.toInt) = v64.toInt := congrArg Int32.toInt ev64
                                refine q_icmp_lt hx hb (a := v63.toInt) (b := v64.toInt) rfl rfl (tgt := 92) dX12_ways_86 rfl (fun c66 => ?_) (fun c66 => ?_)
                                · refine lv_aload_n hx hb dX12_ways_92 rfl (lv_at hl 5 rfl) ?_
                                  refine q_getU E hC60 g0 fa_RX12_47 uo dX12_ways_93 ?_
                                  refine lv_iload hx hb dX12_ways_96 (lv_at hl 1 rfl) ?_
                                  refine lv_aload_n hx hb dX12_ways_98 rfl (lv_at hl 5 rfl) ?_
                                  refine lv_iload hx hb dX12_ways_99 (lv_at hl 1 rfl) ?_
                                  refine lv_iload hx hb dX12_ways_101 (lv_at hl 0 rfl) ?_
                                  refine q_goIp (q_runV (As := [.int v57, .int v58]) (rest := [.int v57, .ref oa]) E hC60 hS63 (m_X12_goesBy l X Γ H60 hC60 h0 g0 v57 (a1 := v57.toInt) rfl v58 (a2 := z58) ev58 ca gca uc oa goa uo (by omega) (by omega)) cw_X12_goesBy cl_RX12_380 g0 ⟨rfl, rfl⟩ rfl hl.1 rfl (show _ ≤ _ from by simp [Value.category]) (by decide) dX12_ways_103) hS63 (fun v67 locs67 hr67 hS67 => ?_)
                                  obtain ⟨f67_0, f67_1, f67_2⟩ := hr67
                                  have hgv := f67_2.trans (gbEq (Hc := H0) (fun j => kp_c (j := j) hKp60 gca rfl))
                                  refine q_oast E hC60 hS67 goa (a := v57.toInt) rfl (by omega) (by omega) (tv_I rfl (by omega) (by omega)) dX12_ways_106 (fun H68 locs68 hC68 hS68 U68 => ?_)
                                  have hKp68 := Kp.upA goa rfl (by decide) rfl U68 hKp60
                                  have hlt0 : v67.toInt < oI H60 oa v57.toInt := by omega
                                  have att : Att H0 H68 ca oa := Att.up att U68 hgv (by omega) (by omega) (by omega) (by omega) (by omega) (by omega)
                                  have hso := SOn.lt U68 (show (v67).toInt.toNat < (oI H60 oa v57.toInt).toNat from by omega) 36 (by omega)
                                  have fxj : (1 : Int) = 0 → FX H0 H68 ca oa z44 z50 (z58 + 1) := fun h => absurd h (by decide)
                                  refine lv_iconst (v := 1) hx hb dX12_ways_107 rfl ?_
                                  refine lv_istore_n hx hb dX12_ways_108 rfl hl (by decide) rfl (fun ls hl => ?_)
                                  replace hl : lv_has ls 6 [(1, .int 1), (5, .int v58), (4, .int v57), (3, .int v50), (2, .int v44), (0, .ref h0)] := hl
                                  obtain ⟨v69, ev69⟩ : ∃ z, z = v58 + Int32.ofInt 1 := ⟨_, rfl⟩
                                  have ev69i : v69.toInt = (z58 + 1) := i_add ev69 ev58 (by decide) (by omega) (by omega)
                                  refine lv_iinc hx hb dX12_ways_109 hl (k := 1) rfl ev69.symm (by decide) rfl (fun ls hl => ?_)
                                  replace hl : lv_has ls 6 [(5, .int v69), (1, .int 1), (4, .int v57), (3, .int v50), (2, .int v44), (0, .ref h0)] := hl
                                  refine lv_goto (tgt := 65) hx hb dX12_ways_112 rfl ?_
                                  exact ih60 H68 locs68 v69 ((z58 + 1)) 1 (1) ls (by omega) ev69i (by decide) (by omega) (by omega) (by omega) (by omega) (by omega) (att) (fxj) hC68 hS68 hKp68 (lv_sub hl [0, 2, 3, 4, 1, 5] rfl)
                                · have fxj : z59 = 0 → FX H0 H60 ca oa z44 z50 (z58 + 1) := fun hz => FX.aw (fxi hz) hk4 (by omega)
                                  refine lv_goto (tgt := 109) hx hb dX12_ways_89 rfl ?_
                                  obtain ⟨v70, ev70⟩ : ∃ z, z = v58 + Int32.ofInt 1 := ⟨_, rfl⟩
                                  have ev70i : v70.toInt = (z58 + 1) := i_add ev70 ev58 (by decide) (by omega) (by omega)
                                  refine lv_iinc hx hb dX12_ways_109 hl (k := 0) rfl ev70.symm (by decide) rfl (fun ls hl => ?_)
                                  replace hl : lv_has ls 6 [(5, .int v70), (4, .int v57), (3, .int v50), (2, .int v44), (1, .int v59), (0, .ref h0)] := hl
                                  refine lv_goto (tgt := 65) hx hb dX12_ways_112 rfl ?_
                                  exact ih60 H60 locs63 v70 ((z58 + 1)) v59 (z59) ls (by omega) ev70i ev59 (by omega) (by omega) (by omega) (by omega) (by omega) (att) (fxj) hC60 hS63 hKp60 hl
                          exact L65 _ H52 locs57 0 0 v51 z51 ls (Nat.lt_succ_self _) (by decide) ev51 (by omega) (by omega) (by omega) (by omega) (by omega) (att) (fxx) hC52 hS57 hKp52 hl
                    exact L45 _ H46 locs46 0 0 v45 z45 ls (Nat.lt_succ_self _) (by decide) ev45 (by omega) (by omega) (by omega) (by omega) (by omega) (att) (fxy) hC46 hS46 hKp46 hl
              exact L33 _ H25 locs25 0 0 0 0 ls (Nat.lt_succ_self _) (by decide) (by decide) (by omega) (by omega) (by omega) (by omega) (by omega) (att) (fun _ => FX.nil) hC25 hS25 hKp25 hl
        exact L25 _ H22 locs22 1 1 ls (Nat.lt_succ_self _) (by decide) (by omega) (by omega) (Att.far (fun k h0 h1 => off k h0 (by omega))) (fun h => absurd h (by decide)) hC22 hS22 hKp22 hl
      · refine lv_aload_n hx hb dX12_ways_8 rfl (lv_at hl 1 rfl) ?_
        refine q_getU E hC22 g0 fa_RX12_47 uo dX12_ways_9 ?_
        refine lv_iload_n hx hb dX12_ways_12 rfl (lv_at hl 0 rfl) ?_
        refine lv_ldcw (v := 1000000) hx hb E.2.2.2.1 (E.2.2.2.2.1 _ w_1801) dX12_ways_13 ?_
        refine q_oast E hC22 hS22 goa (a := z21) ev21 (by omega) (by omega) (tv_I (show (1000000 : Int32).toInt = 1000000 from by decide) (by omega) (by omega)) dX12_ways_16 (fun H71 locs71 hC71 hS71 U71 => ?_)
        have hKp71 := Kp.upA goa rfl (by decide) rfl U71 hKp22
        have off : OF H71 oa (z21 + 1) := OF.step off U71 (show (1000000 : Int32).toInt = 1000000 from by decide) rfl (by omega)
        obtain ⟨v72, ev72⟩ : ∃ z, z = v21 + Int32.ofInt 1 := ⟨_, rfl⟩
        have ev72i : v72.toInt = (z21 + 1) := i_add ev72 ev21 (by decide) (by omega) (by omega)
        refine lv_iinc hx hb dX12_ways_17 hl (k := 0) rfl ev72.symm (by decide) rfl (fun ls hl => ?_)
        replace hl : lv_has ls 6 [(1, .int v72), (0, .ref h0)] := hl
        refine lv_goto (tgt := 2) hx hb dX12_ways_20 rfl ?_
        exact ih22 H71 locs71 v72 ((z21 + 1)) ls (by omega) ev72i (by omega) (by omega) (off) hC71 hS71 hKp71 hl
  exact L2 _ H0 [] 0 0 ls (Nat.lt_succ_self _) (by decide) (by omega) (by omega) (OF.nil) hC0 hS0 hKp0 hl
set_option maxRecDepth 100000 in
set_option maxHeartbeats 4000000 in
theorem m_X12_way (l : Launch) (X : xW) (Γ : Nat → Option Nat) (H0 : Heap) (hC0 : Conf X Γ H0) (h0 : Nat) (g0 : Γ h0 = some 11) (ca : Nat) (gca : Γ ca = some 64) (uc : ∀ a, Γ a = some 64 → a = ca) (oa : Nat) (goa : Γ oa = some 68) (uo : ∀ a, Γ a = some 68 → a = oa) (hm0 : 2 ≤ (sI H0 ca (0 : Int).toNat).toInt) (hm1 : 1 ≤ (sI H0 ca (1 : Int).toNat).toInt) : Ctr l X Γ yX12_way cX12_way 5 (some .int) 5 [.ref h0] H0 (QI X Γ (fun v H1 => Kp X Γ [1, 6, 7, 8, 9, 10, 11, 14, 15, 16, 17, 19, 22, 24, 26, 28] H0 H1 ∧ (True))) := by
  refine q_enterI (own := "SnowFortsModel") (by decide) rfl (Nat.le_of_ble_eq_true rfl) ?_
  intro p e s m args below meth c ls Qz E hl ret hS0
  have hx := E.1; have hb := E.2.1
  have hKp0 : Kp X Γ [1, 6, 7, 8, 9, 10, 11, 14, 15, 16, 17, 19, 22, 24, 26, 28] H0 H0 := Kp.rf
  have hl : lv_has ls 5 [(0, .ref h0)] := hl
  refine lv_aload_n hx hb dX12_way_0 rfl (lv_at hl 0 rfl) ?_
  refine lv_iconst (v := 0) hx hb dX12_way_1 rfl ?_
  refine q_put E hC0 hS0 g0 fp_RX12_69 tv_F rfl rfl dX12_way_2 (fun H21 locs21 hC21 hS21 U21 => ?_)
  have hKp21 := Kp.upO E g0 fp_RX12_69 rfl U21 hKp0
  have e22 := up_I U21
  have m23 : (sI H21 h0 (X.1.2 11 28)).toInt = (sI H0 h0 (X.1.2 11 28)).toInt := congrArg Int32.toInt (up_nI U21 (ne_f E 11 28 1 rfl (by decide) (by decide) (by decide)))
  refine lv_aload_n hx hb dX12_way_5 rfl (lv_at hl 0 rfl) ?_
  refine lv_iconst (v := 0) hx hb dX12_way_6 rfl ?_
  refine q_put E hC21 hS21 g0 fp_RX12_72 tv_F rfl rfl dX12_way_7 (fun H24 locs24 hC24 hS24 U24 => ?_)
  have hKp24 := Kp.upO E g0 fp_RX12_72 rfl U24 hKp21
  have e25 := up_I U24
  have m26 : (sI H24 h0 (X.1.2 11 28)).toInt = (sI H21 h0 (X.1.2 11 28)).toInt := congrArg Int32.toInt (up_nI U24 (ne_f E 11 28 0 rfl (by decide) (by decide) (by decide)))
  refine lv_aload_n hx hb dX12_way_10 rfl (lv_at hl 0 rfl) ?_
  have hk0 := congrArg Int32.toInt (kp_c (j := (0 : Int).toNat) hKp24 gca rfl)
  have hk1 := congrArg Int32.toInt (kp_c (j := (1 : Int).toNat) hKp24 gca rfl)
  have hTP := TP.mk hC24 gca
  have hcW : cW H24 ca = (sI H24 ca (0 : Int).toNat).toInt := rfl
  have hcH : cH H24 ca = (sI H24 ca (1 : Int).toNat).toInt := rfl
  have hTW := hTP.2
  refine q_goI (q_runV (As := []) (rest := []) E hC24 hS24 (m_X12_ways l X Γ H24 hC24 h0 g0 ca gca uc oa goa uo) cw_X12_ways cl_RX12_383 g0 ⟨rfl, rfl⟩ rfl hl.1 rfl (Nat.zero_le _) (by decide) dX12_way_11) hS24 (fun v27 H27 locs27 hr27 hC27 hS27 => ?_)
  obtain ⟨hp27, hr27⟩ := hr27
  have hKp27 := hKp24.tr (hp27.mono rfl)
  obtain ⟨f27_0, f27_1, f27_2⟩ := hr27
  have wy : WY H24 H27 ca oa v27.toInt := f27_2
  obtain ⟨y0, hy0, hy1, hy2⟩ := WY.row f27_2 hTP (by omega) (by omega)
  refine lv_istore_n hx hb dX12_way_14 rfl hl (by decide) rfl (fun ls hl => ?_)
  replace hl : lv_has ls 5 [(1, .int v27), (0, .ref h0)] := hl
  refine lv_iconst (v := 0) hx hb dX12_way_15 rfl ?_
  refine lv_istore_n hx hb dX12_way_16 rfl hl (by decide) rfl (fun ls hl => ?_)
  replace hl : lv_has ls 5 [(2, .int 0), (1, .int v27), (0, .ref h0)] := hl
  have L17 : ∀ (n29 : Nat) (locs29 : List Loc) (v28 : Int32) (z28 : Int) (ls : Array Slot), (y0 - z28).toNat < n29 → v28.toInt = z28 → 0 ≤ z28 → z28 ≤ y0 → va_S (AΓ Γ) H0 H27 locs29 → lv_has ls 5 [(2, .int v28), (1, .int v27), (0, .ref h0)] → W p l e (rmL 5) s m args below meth c H27 locs29 0 0 Qz (F0 m 17 ls []) := by
    intro n29
    induction n29 with
    | zero => intro locs29 v28 z28 ls hm29 ev28 iv29_0 iv29_1 hS29 hl; exact absurd hm29 (Nat.not_lt_zero _)
    | succ n29 ih29 =>
      intro locs29 v28 z28 ls hm29 ev28 iv29_0 iv29_1 hS29 hl
      refine lv_sipush (v := 1000) hx hb dX12_way_17 rfl ?_
      refine lv_iconst (v := 0) hx hb dX12_way_20 rfl ?_
      refine lv_aload_n hx hb dX12_way_21 rfl (lv_at hl 2 rfl) ?_
      refine lv_iconst (v := 0) hx hb dX12_way_22 rfl ?_
      refine lv_iload_n hx hb dX12_way_23 rfl (lv_at hl 0 rfl) ?_
      refine q_goIp (q_runS (As := [.int 0, .int v28]) (rest := [.ref h0, .int 0, .int 1000]) E hS29 (m_X12_at2 l X Γ H27 hC27 0 (a0 := 0) (by decide) v28 (a1 := z28) ev28 (by omega) (by omega) (by omega) (by omega)) cw_X12_at2 cl_RX12_292 rfl hl.1 rfl (show _ ≤ _ from by simp [Value.category]) (by decide) dX12_way_24) hS29 (fun v30 locs30 hr30 hS30 => ?_)
      have f30_0 := hr30
      have hx1 := f30_0
      refine q_goIp (q_runV (As := [.int v30]) (rest := [.int 0, .int 1000]) E hC27 hS30 (m_X12_topOf l X Γ H27 hC27 h0 g0 v30 (a1 := v30.toInt) rfl ca gca uc (by omega) (by omega)) cw_X12_topOf cl_RX12_359 g0 ⟨rfl, rfl⟩ rfl hl.1 rfl (show _ ≤ _ from by simp [Value.category]) (by decide) dX12_way_27) hS30 (fun v31 locs31 hr31 hS31 => ?_)
      obtain ⟨f31_0, f31_1, f31_2⟩ := hr31
      have ht1 := f31_2.trans (tpEq wy.1)
      rw [hx1, Int.add_zero] at ht1
      refine q_goIp (q_runS (As := [.int 0, .int v31]) (rest := [.int 1000]) E hS31 (m_X12_step l X Γ H27 hC27 0 (a0 := 0) (by decide) v31 (a1 := v31.toInt) rfl (by omega) (by omega) (by omega) (by omega)) cw_X12_step cl_RX12_377 rfl hl.1 rfl (show _ ≤ _ from by simp [Value.category]) (by decide) dX12_way_30) hS31 (fun v32 locs32 hr32 hS32 => ?_)
      obtain ⟨f32_0, f32_1, f32_2⟩ := hr32
      have hs1 := f32_2
      refine lv_imul hx hb dX12_way_33 (lv_topi (fun v33 ev33 => ?_))
      have ev33i : v33.toInt = (1000 * v32.toInt) := i_mul ev33 (by decide) rfl (by omega) (by omega)
      refine lv_aload_n hx hb dX12_way_34 rfl (lv_at hl 2 rfl) ?_
      refine q_getU E hC27 g0 fa_RX12_47 uo dX12_way_35 ?_
      refine lv_iconst (v := 0) hx hb dX12_way_38 rfl ?_
      refine lv_iload_n hx hb dX12_way_39 rfl (lv_at hl 0 rfl) ?_
      refine q_goIp (q_runS (As := [.int 0, .int v28]) (rest := [.ref oa, .int v33]) E hS32 (m_X12_at2 l X Γ H27 hC27 0 (a0 := 0) (by decide) v28 (a1 := z28) ev28 (by omega) (by omega) (by omega) (by omega)) cw_X12_at2 cl_RX12_292 rfl hl.1 rfl (show _ ≤ _ from by simp [Value.category]) (by decide) dX12_way_40) hS32 (fun v34 locs34 hr34 hS34 => ?_)
      have f34_0 := hr34
      have hx2 : 6 * z28 = v34.toInt := by omega
      refine q_oald E hC27 goa (a := v34.toInt) rfl (by omega) (by omega) dX12_way_43 (fun v35 ev35 lv35 uv35 => ?_)
      have m36 : oI H27 oa (v34.toInt) = v35.toInt := congrArg Int32.toInt ev35
      have ho1 : oI H27 oa (6 * z28) = v35.toInt := by rw [hx2]; assumption
      refine lv_iadd hx hb dX12_way_44 (lv_topi (fun v37 ev37 => ?_))
      have ev37i : v37.toInt = ((1000 * v32.toInt) + v35.toInt) := i_add ev37 ev33i rfl (by omega) (by omega)
      refine lv_iload_n hx hb dX12_way_45 rfl (lv_at hl 1 rfl) ?_
      refine q_icmp_eq hx hb (a := ((1000 * v32.toInt) + v35.toInt)) (b := v27.toInt) ev37i rfl (tgt := 55) dX12_way_46 rfl (fun c38 => ?_) (fun c38 => ?_)
      · refine lv_iconst (v := 0) hx hb dX12_way_55 rfl ?_
        refine lv_iload_n hx hb dX12_way_56 rfl (lv_at hl 0 rfl) ?_
        refine q_goIp (q_runS (As := [.int 0, .int v28]) (rest := []) E hS34 (m_X12_at2 l X Γ H27 hC27 0 (a0 := 0) (by decide) v28 (a1 := z28) ev28 (by omega) (by omega) (by omega) (by omega)) cw_X12_at2 cl_RX12_292 rfl hl.1 rfl (Nat.zero_le _) (by decide) dX12_way_57) hS34 (fun v39 locs39 hr39 hS39 => ?_)
        have f39_0 := hr39
        refine lv_istore_n hx hb dX12_way_60 rfl hl (by decide) rfl (fun ls hl => ?_)
        replace hl : lv_has ls 5 [(3, .int v39), (2, .int v28), (1, .int v27), (0, .ref h0)] := hl
        refine lv_aload_n hx hb dX12_way_61 rfl (lv_at hl 3 rfl) ?_
        refine lv_iconst (v := 0) hx hb dX12_way_62 rfl ?_
        refine q_put E hC27 hS39 g0 fp_RX12_386 (tv_I (show (0 : Int32).toInt = 0 from by decide) (by omega) (by omega)) rfl rfl dX12_way_63 (fun H40 locs40 hC40 hS40 U40 => ?_)
        have hKp40 := Kp.upO E g0 fp_RX12_386 rfl U40 hKp27
        have e41 := up_I U40
        have m42 : (sI H40 h0 (X.1.2 11 28)).toInt = 0 := (congrArg Int32.toInt e41).trans (show (0 : Int32).toInt = 0 from by decide)
        replace wy : WY H24 H40 ca oa v27.toInt := WY.ne wy U40 (nek g0 gca (by decide)) (nek g0 goa (by decide))
        have L66 : ∀ (n44 : Nat) (H44 : Heap) (locs44 : List Loc) (v43 : Int32) (z43 : Int) (ls : Array Slot), mz H44 oa z43 < n44 → v43.toInt = z43 → -1 ≤ z43 → z43 ≤ 35 → z43 < 0 ∨ (z43 % 6 < (sI H0 ca (0 : Int).toNat).toInt ∧ z43 / 6 < (sI H0 ca (1 : Int).toNat).toInt) → CN H44 oa z43 (sI H44 h0 (X.1.2 11 28)).toInt → Conf X Γ H44 → va_S (AΓ Γ) H0 H44 locs44 → Kp X Γ [1, 6, 7, 8, 9, 10, 11, 14, 15, 16, 17, 19, 22, 24, 26, 28] H0 H44 → (WY H24 H44 ca oa v27.toInt) → lv_has ls 5 [(3, .int v43), (2, .int v28), (1, .int v27), (0, .ref h0)] → W p l e (rmL 5) s m args below meth c H44 locs44 0 0 Qz (F0 m 66 ls []) := by
          intro n44
          induction n44 with
          | zero => intro H44 locs44 v43 z43 ls hm44 ev43 iv44_0 iv44_1 iv44_2 iv44_3 hC44 hS44 hKp44 wy hl; exact absurd hm44 (Nat.not_lt_zero _)
          | succ n44 ih44 =>
            intro H44 locs44 v43 z43 ls hm44 ev43 iv44_0 iv44_1 iv44_2 iv44_3 hC44 hS44 hKp44 wy hl
            have cn := iv44_3
            have hwm := f_bd hC44 g0 (ci := 11) (k := 28) rfl rfl
            have mzt : MZ H44 oa z43 (mz H44 oa z43) := rfl
            refine lv_iload_n hx hb dX12_way_66 rfl (lv_at hl 0 rfl) ?_
            refine q_if_lt hx hb (a := z43) ev43 (tgt := 126) dX12_way_67 rfl (fun c45 => ?_) (fun c45 => ?_)
            · refine lv_iload_n hx hb dX12_way_126 rfl (lv_at hl 2 rfl) ?_
              refine lv_sipush (v := 1000) hx hb dX12_way_127 rfl ?_
              refine lv_idiv hx hb dX12_way_130 (by decide) (lv_topi (fun v46 ev46 => ?_))
              have ev46i : v46.toInt = (v27.toInt / 1000) := i_div ev46 rfl (by decide) (by omega) (by decide)
              exact ret v46 H44 locs44 _ _ dX12_way_131 ⟨hKp44, trivial⟩ hC44 hS44
            · have cnl := CN.lt cn (by omega) (by omega)
              refine lv_aload_n hx hb dX12_way_70 rfl (lv_at hl 3 rfl) ?_
              refine q_getR E hC44 g0 fa_RX12_50 dX12_way_71 (fun q47 eq47 gq47 => ?_)
              refine lv_aload_n hx hb dX12_way_74 rfl (lv_at hl 3 rfl) ?_
              refine q_getI E hC44 g0 fa_RX12_386 dX12_way_75 (fun v48 ev48 lv48 uv48 => ?_)
              have m49 : (sI H44 h0 (X.1.2 11 28)).toInt = v48.toInt := (congrArg Int32.toInt ev48).trans rfl
              refine lv_iload_n hx hb dX12_way_78 rfl (lv_at hl 0 rfl) ?_
              refine q_iast E hC44 hS44 gq47 (by decide) rfl rfl (i_in (a := v48.toInt) rfl (by omega) (by omega)) (tv_I ev43 (by omega) (by omega)) dX12_way_79 (fun H50 locs50 hC50 hS50 U50 => ?_)
              have hKp50 := Kp.upA gq47 rfl (by decide) rfl U50 hKp44
              replace wy : WY H24 H50 ca oa v27.toInt := WY.ne wy U50 (nek gq47 gca (by decide)) (nek gq47 goa (by decide))
              replace mzt : MZ H50 oa z43 (mz H44 oa z43) := MZ.ne mzt U50 (nek gq47 goa (by decide))
              have m51 : (sI H50 h0 (X.1.2 11 28)).toInt = (sI H44 h0 (X.1.2 11 28)).toInt := congrArg Int32.toInt (up_nI U50 (ne_k g0 gq47 (by decide)))
              have cn := CN.ne cn U50 (nek gq47 goa (by decide))
              refine lv_aload_n hx hb dX12_way_80 rfl (lv_at hl 3 rfl) ?_
              refine lv_dup hx hb dX12_way_81 rfl ?_
              have e53 := (up_nI U50 (ne_k g0 gq47 (by decide))).trans ev48
              refine q_getI E hC50 g0 fa_RX12_386 dX12_way_82 (fun v52 ev52 lv52 uv52 => ?_)
              have qv52 := e53.symm.trans ev52; subst qv52
              have m54 : (sI H50 h0 (X.1.2 11 28)).toInt = v48.toInt := (congrArg Int32.toInt ev52).trans rfl
              refine lv_iconst (v := 1) hx hb dX12_way_85 rfl ?_
              refine lv_iadd hx hb dX12_way_86 (lv_topi (fun v55 ev55 => ?_))
              have ev55i : v55.toInt = (v48.toInt + 1) := i_add ev55 rfl (by decide) (by omega) (by omega)
              refine q_put E hC50 hS50 g0 fp_RX12_386 (tv_I ev55i (by omega) (by omega)) rfl rfl dX12_way_87 (fun H56 locs56 hC56 hS56 U56 => ?_)
              have hKp56 := Kp.upO E g0 fp_RX12_386 rfl U56 hKp50
              have e57 := up_I U56
              have m58 : (sI H56 h0 (X.1.2 11 28)).toInt = (v48.toInt + 1) := (congrArg Int32.toInt e57).trans ev55i
              replace wy : WY H24 H56 ca oa v27.toInt := WY.ne wy U56 (nek g0 gca (by decide)) (nek g0 goa (by decide))
              replace mzt : MZ H56 oa z43 (mz H44 oa z43) := MZ.ne mzt U56 (nek g0 goa (by decide))
              have cn := CN.ne cn U56 (nek g0 goa (by decide))
              obtain ⟨w0, hw0, hw1, hw2⟩ := WY.on wy hTP (k := z43) (by omega) (by omega) (by omega) (by omega)
              refine lv_iconst (v := 0) hx hb dX12_way_90 rfl ?_
              refine lv_istore hx hb dX12_way_91 hl (by decide) rfl (fun ls hl => ?_)
              replace hl : lv_has ls 5 [(4, .int 0), (3, .int v43), (2, .int v28), (1, .int v27), (0, .ref h0)] := hl
              have L93 : ∀ (n60 : Nat) (locs60 : List Loc) (v59 : Int32) (z59 : Int) (ls : Array Slot), (w0 - z59).toNat < n60 → v59.toInt = z59 → 0 ≤ z59 → z59 ≤ w0 → va_S (AΓ Γ) H0 H56 locs60 → lv_has ls 5 [(4, .int v59), (3, .int v43), (2, .int v28), (1, .int v27), (0, .ref h0)] → W p l e (rmL 5) s m args below meth c H56 locs60 0 0 Qz (F0 m 93 ls []) := by
                intro n60
                induction n60 with
                | zero => intro locs60 v59 z59 ls hm60 ev59 iv60_0 iv60_1 hS60 hl; exact absurd hm60 (Nat.not_lt_zero _)
                | succ n60 ih60 =>
                  intro locs60 v59 z59 ls hm60 ev59 iv60_0 iv60_1 hS60 hl
                  refine lv_aload_n hx hb dX12_way_93 rfl (lv_at hl 4 rfl) ?_
                  refine lv_iload_n hx hb dX12_way_94 rfl (lv_at hl 1 rfl) ?_
                  refine lv_iload hx hb dX12_way_95 (lv_at hl 0 rfl) ?_
                  refine q_goIp (q_runV (As := [.int v43, .int v59]) (rest := []) E hC56 hS60 (m_X12_goesBy l X Γ H56 hC56 h0 g0 v43 (a1 := z43) ev43 v59 (a2 := z59) ev59 ca gca uc oa goa uo (by omega) (by omega)) cw_X12_goesBy cl_RX12_380 g0 ⟨rfl, rfl⟩ rfl hl.1 rfl (Nat.zero_le _) (by decide) dX12_way_97) hS60 (fun v61 locs61 hr61 hS61 => ?_)
                  obtain ⟨f61_0, f61_1, f61_2⟩ := hr61
                  have hgv := f61_2.trans (gbEq wy.1)
                  refine lv_aload_n hx hb dX12_way_100 rfl (lv_at hl 4 rfl) ?_
                  refine q_getU E hC56 g0 fa_RX12_47 uo dX12_way_101 ?_
                  refine lv_iload_n hx hb dX12_way_104 rfl (lv_at hl 1 rfl) ?_
                  refine q_oald E hC56 goa (a := z43) ev43 (by omega) (by omega) dX12_way_105 (fun v62 ev62 lv62 uv62 => ?_)
                  have m63 : oI H56 oa z43 = v62.toInt := congrArg Int32.toInt ev62
                  refine q_icmp_eq hx hb (a := v61.toInt) (b := v62.toInt) rfl rfl (tgt := 115) dX12_way_106 rfl (fun c64 => ?_) (fun c64 => ?_)
                  · have hnx := WY.next wy hTP (k := z43) (w := z59) (by omega) (by omega) (by omega) (by omega) (by omega)
                    refine lv_aload_n hx hb dX12_way_115 rfl (lv_at hl 4 rfl) ?_
                    refine lv_iload_n hx hb dX12_way_116 rfl (lv_at hl 1 rfl) ?_
                    refine lv_iload hx hb dX12_way_117 (lv_at hl 0 rfl) ?_
                    refine q_goIp (q_runV (As := [.int v43, .int v59]) (rest := []) E hC56 hS61 (m_X12_beside l X Γ H56 hC56 h0 g0 v43 (a1 := z43) ev43 v59 (a2 := z59) ev59 ca gca uc (by omega) (by omega)) cw_X12_beside cl_RX12_374 g0 ⟨rfl, rfl⟩ rfl hl.1 rfl (Nat.zero_le _) (by decide) dX12_way_119) hS61 (fun v65 locs65 hr65 hS65 => ?_)
                    obtain ⟨f65_0, f65_1, f65_2⟩ := hr65
                    have hbv := f65_2.trans (bsEq wy.1)
                    rw [← hbv] at hnx
                    have hnl : v65.toInt = -1 ∨ (0 ≤ v65.toInt ∧ oI H56 oa v65.toInt < oI H56 oa z43) := by omega
                    have mzl := mz_lt (k := z43) (by omega) (o_bd hC56 goa (by omega) (by omega)).1 (fun h => (o_bd hC56 goa h (by omega)).1) hnl
                    have cnf : CN H56 oa v65.toInt (sI H56 h0 (X.1.2 11 28)).toInt := CN.eq (CN.next cn (by omega) (by omega) hnl) (by omega)
                    have mzt : mz H56 oa z43 = _ := mzt
                    refine lv_istore_n hx hb dX12_way_122 rfl hl (by decide) rfl (fun ls hl => ?_)
                    replace hl : lv_has ls 5 [(3, .int v65), (4, .int v59), (2, .int v28), (1, .int v27), (0, .ref h0)] := hl
                    refine lv_goto (tgt := 66) hx hb dX12_way_123 rfl ?_
                    exact ih44 H56 locs65 v65 (v65.toInt) ls (by omega) rfl (by omega) (by omega) (by omega) (cnf) hC56 hS65 hKp56 wy (lv_sub hl [0, 2, 3, 4] rfl)
                  · have hww : z59 ≠ w0 := fun h => by rw [h] at hgv; omega
                    obtain ⟨v66, ev66⟩ : ∃ z, z = v59 + Int32.ofInt 1 := ⟨_, rfl⟩
                    have ev66i : v66.toInt = (z59 + 1) := i_add ev66 ev59 (by decide) (by omega) (by omega)
                    refine lv_iinc hx hb dX12_way_109 hl (k := 0) rfl ev66.symm (by decide) rfl (fun ls hl => ?_)
                    replace hl : lv_has ls 5 [(4, .int v66), (3, .int v43), (2, .int v28), (1, .int v27), (0, .ref h0)] := hl
                    refine lv_goto (tgt := 93) hx hb dX12_way_112 rfl ?_
                    exact ih60 locs61 v66 ((z59 + 1)) ls (by omega) ev66i (by omega) (by omega) hS61 hl
              exact L93 _ locs56 0 0 ls (Nat.lt_succ_self _) (by decide) (by omega) (by omega) hS56 hl
        exact L66 _ H40 locs40 v39 v39.toInt ls (Nat.lt_succ_self _) rfl (by omega) (by omega) (by omega) (fun _ => by omega) hC40 hS40 hKp40 wy hl
      · have hyy : z28 ≠ y0 := fun h => by rw [← h] at hy2; unfold en at hy2; rw [← ht1, ← hs1, ho1] at hy2; omega
        obtain ⟨v67, ev67⟩ : ∃ z, z = v28 + Int32.ofInt 1 := ⟨_, rfl⟩
        have ev67i : v67.toInt = (z28 + 1) := i_add ev67 ev28 (by decide) (by omega) (by omega)
        refine lv_iinc hx hb dX12_way_49 hl (k := 0) rfl ev67.symm (by decide) rfl (fun ls hl => ?_)
        replace hl : lv_has ls 5 [(2, .int v67), (1, .int v27), (0, .ref h0)] := hl
        refine lv_goto (tgt := 17) hx hb dX12_way_52 rfl ?_
        exact ih29 locs34 v67 ((z28 + 1)) ls (by omega) ev67i (by omega) (by omega) hS34 hl
  exact L17 _ locs27 0 0 ls (Nat.lt_succ_self _) (by decide) (by omega) (by omega) hS27 hl
set_option maxRecDepth 100000 in
set_option maxHeartbeats 4000000 in
theorem m_X12_wayAt (l : Launch) (X : xW) (Γ : Nat → Option Nat) (H0 : Heap) (hC0 : Conf X Γ H0) (h0 : Nat) (g0 : Γ h0 = some 11) (p1 : Int32) {a1 : Int} (e1 : p1.toInt = a1) (p2 : Int32) {a2 : Int} (e2 : p2.toInt = a2) (ca : Nat) (gca : Γ ca = some 64) (uc : ∀ a, Γ a = some 64 → a = ca) : Ctr l X Γ yX12_wayAt cX12_wayAt 3 (some .int) 1 [.ref h0, .int p1, .int p2] H0 (QI X Γ (fun v H1 => Kp X Γ [1, 6, 7, 8, 9, 10, 11, 12, 14, 15, 16, 17, 19, 22, 24, 26, 28] H0 H1 ∧ (True))) := by
  refine q_enterI (own := "SnowFortsModel") (by decide) rfl (Nat.le_of_ble_eq_true rfl) ?_
  intro p e s m args below meth c ls Qz E hl ret hS0
  have hx := E.1; have hb := E.2.1
  have hKp0 : Kp X Γ [1, 6, 7, 8, 9, 10, 11, 12, 14, 15, 16, 17, 19, 22, 24, 26, 28] H0 H0 := Kp.rf
  have hl : lv_has ls 3 [(0, .ref h0), (1, .int p1), (2, .int p2)] := hl
  refine lv_aload_n hx hb dX12_wayAt_0 rfl (lv_at hl 0 rfl) ?_
  refine lv_iconst (v := 0) hx hb dX12_wayAt_1 rfl ?_
  refine q_put E hC0 hS0 g0 fp_RX12_69 tv_F rfl rfl dX12_wayAt_2 (fun H21 locs21 hC21 hS21 U21 => ?_)
  have hKp21 := Kp.upO E g0 fp_RX12_69 rfl U21 hKp0
  have e22 := up_I U21
  refine lv_aload_n hx hb dX12_wayAt_5 rfl (lv_at hl 0 rfl) ?_
  refine lv_iconst (v := 0) hx hb dX12_wayAt_6 rfl ?_
  refine q_put E hC21 hS21 g0 fp_RX12_72 tv_F rfl rfl dX12_wayAt_7 (fun H23 locs23 hC23 hS23 U23 => ?_)
  have hKp23 := Kp.upO E g0 fp_RX12_72 rfl U23 hKp21
  have e24 := up_I U23
  refine lv_iload_n hx hb dX12_wayAt_10 rfl (lv_at hl 2 rfl) ?_
  refine lv_i2l (v := p2.toInt64) hx hb dX12_wayAt_11 rfl (lv_topl (fun v25 ev25 => ?_))
  have ev25i : v25.toInt = a2 := l_ofi ev25.symm e2
  refine lv_lconst (v := 0) hx hb dX12_wayAt_12 rfl ?_
  refine lv_lconst (v := 1) hx hb dX12_wayAt_13 rfl ?_
  refine q_goIp (q_runS (As := [.long v25, .long 0, .long 1]) (rest := []) E hS23 (m_X12_isIn l X Γ H23 hC23 v25 (a0 := a2) ev25i 0 (a1 := 0) (show (0 : Int64).toInt = 0 from by decide) 1 (a2 := 1) (show (1 : Int64).toInt = 1 from by decide)) cw_X12_isIn cl_RX12_104 rfl hl.1 rfl (Nat.zero_le _) (by decide) dX12_wayAt_14) hS23 (fun v26 locs26 hr26 hS26 => ?_)
  rcases hr26 with ⟨rfl, f26a0, f26a1⟩ | ⟨rfl, f26b⟩
  · refine q_if_ne hx hb (a := 1) (by decide) (tgt := 26) dX12_wayAt_17 rfl (fun c27 => ?_) (fun c27 => absurd c27 (by omega))
    refine lv_iload_n hx hb dX12_wayAt_26 rfl (lv_at hl 1 rfl) ?_
    refine lv_i2l (v := p1.toInt64) hx hb dX12_wayAt_27 rfl (lv_topl (fun v28 ev28 => ?_))
    have ev28i : v28.toInt = a1 := l_ofi ev28.symm e1
    refine lv_lconst (v := 0) hx hb dX12_wayAt_28 rfl ?_
    refine lv_aload_n hx hb dX12_wayAt_29 rfl (lv_at hl 0 rfl) ?_
    refine q_getI E hC23 g0 fa_RX12_386 dX12_wayAt_30 (fun v29 ev29 lv29 uv29 => ?_)
    refine lv_iconst (v := 1) hx hb dX12_wayAt_33 rfl ?_
    refine lv_isub hx hb dX12_wayAt_34 (lv_topi (fun v30 ev30 => ?_))
    have ev30i : v30.toInt = (v29.toInt - 1) := i_sub ev30 rfl (by decide) (by omega) (by omega)
    refine lv_i2l (v := v30.toInt64) hx hb dX12_wayAt_35 rfl (lv_topl (fun v31 ev31 => ?_))
    have ev31i : v31.toInt = (v29.toInt - 1) := l_ofi ev31.symm ev30i
    refine q_goIp (q_runS (As := [.long v28, .long 0, .long v31]) (rest := []) E hS26 (m_X12_isIn l X Γ H23 hC23 v28 (a0 := a1) ev28i 0 (a1 := 0) (show (0 : Int64).toInt = 0 from by decide) v31 (a2 := (v29.toInt - 1)) ev31i) cw_X12_isIn cl_RX12_104 rfl hl.1 rfl (Nat.zero_le _) (by decide) dX12_wayAt_36) hS26 (fun v32 locs32 hr32 hS32 => ?_)
    rcases hr32 with ⟨rfl, f32a0, f32a1⟩ | ⟨rfl, f32b⟩
    · refine q_if_ne hx hb (a := 1) (by decide) (tgt := 49) dX12_wayAt_39 rfl (fun c33 => ?_) (fun c33 => absurd c33 (by omega))
      refine lv_iload_n hx hb dX12_wayAt_49 rfl (lv_at hl 2 rfl) ?_
      refine q_if_ne hx hb (a := a2) e2 (tgt := 65) dX12_wayAt_50 rfl (fun c34 => ?_) (fun c34 => ?_)
      · refine lv_aload_n hx hb dX12_wayAt_65 rfl (lv_at hl 0 rfl) ?_
        refine q_getR E hC23 g0 fa_RX12_50 dX12_wayAt_66 (fun q35 eq35 gq35 => ?_)
        refine lv_iload_n hx hb dX12_wayAt_69 rfl (lv_at hl 1 rfl) ?_
        refine q_iald E hC23 gq35 rfl rfl (fun _ h => h) (i_in (a := a1) e1 (by omega) (by omega)) dX12_wayAt_70 (fun v36 ev36 lv36 uv36 => ?_)
        refine lv_bipush (v := 6) hx hb dX12_wayAt_71 rfl ?_
        refine lv_idiv hx hb dX12_wayAt_73 (by decide) (lv_topi (fun v37 ev37 => ?_))
        have ev37i : v37.toInt = (v36.toInt / 6) := i_div ev37 rfl (by decide) (by omega) (by decide)
        exact ret v37 H23 locs32 _ _ dX12_wayAt_74 ⟨hKp23, trivial⟩ hC23 hS32
      · refine lv_aload_n hx hb dX12_wayAt_53 rfl (lv_at hl 0 rfl) ?_
        refine q_getR E hC23 g0 fa_RX12_50 dX12_wayAt_54 (fun q38 eq38 gq38 => ?_)
        refine lv_iload_n hx hb dX12_wayAt_57 rfl (lv_at hl 1 rfl) ?_
        refine q_iald E hC23 gq38 rfl rfl (fun _ h => h) (i_in (a := a1) e1 (by omega) (by omega)) dX12_wayAt_58 (fun v39 ev39 lv39 uv39 => ?_)
        refine lv_bipush (v := 6) hx hb dX12_wayAt_59 rfl ?_
        refine lv_irem hx hb dX12_wayAt_61 (by decide) (lv_topi (fun v40 ev40 => ?_))
        have ev40i : v40.toInt = (v39.toInt % 6) := i_rem ev40 rfl (by decide) (by omega) (by decide)
        refine lv_goto (tgt := 74) hx hb dX12_wayAt_62 rfl ?_
        exact ret v40 H23 locs32 _ _ dX12_wayAt_74 ⟨hKp23, trivial⟩ hC23 hS32
    · refine q_if_ne hx hb (a := 0) (by decide) (tgt := 49) dX12_wayAt_39 rfl (fun c41 => absurd c41 (by omega)) (fun c41 => ?_)
      refine lv_aload_n hx hb dX12_wayAt_42 rfl (lv_at hl 0 rfl) ?_
      refine lv_bipush (v := 8) hx hb dX12_wayAt_43 rfl ?_
      refine q_goI (q_runV (As := [.int 8]) (rest := []) E hC23 hS32 (m_X12_refuse l X Γ H23 hC23 h0 g0 8 (a1 := 8) (by decide) ca gca uc) cw_X12_refuse cl_RX12_298 g0 ⟨rfl, rfl⟩ rfl hl.1 rfl (Nat.zero_le _) (by decide) dX12_wayAt_45) hS32 (fun v42 H42 locs42 hr42 hC42 hS42 => ?_)
      obtain ⟨hp42, hr42⟩ := hr42
      have hKp42 := hKp23.tr (hp42.mono rfl)
      have f42_0 := hr42
      exact ret v42 H42 locs42 _ _ dX12_wayAt_48 ⟨hKp42, trivial⟩ hC42 hS42
  · refine q_if_ne hx hb (a := 0) (by decide) (tgt := 26) dX12_wayAt_17 rfl (fun c43 => absurd c43 (by omega)) (fun c43 => ?_)
    refine lv_aload_n hx hb dX12_wayAt_20 rfl (lv_at hl 0 rfl) ?_
    refine lv_iconst (v := 5) hx hb dX12_wayAt_21 rfl ?_
    refine q_goI (q_runV (As := [.int 5]) (rest := []) E hC23 hS26 (m_X12_refuse l X Γ H23 hC23 h0 g0 5 (a1 := 5) (by decide) ca gca uc) cw_X12_refuse cl_RX12_298 g0 ⟨rfl, rfl⟩ rfl hl.1 rfl (Nat.zero_le _) (by decide) dX12_wayAt_22) hS26 (fun v44 H44 locs44 hr44 hC44 hS44 => ?_)
    obtain ⟨hp44, hr44⟩ := hr44
    have hKp44 := hKp23.tr (hp44.mono rfl)
    have f44_0 := hr44
    exact ret v44 H44 locs44 _ _ dX12_wayAt_25 ⟨hKp44, trivial⟩ hC44 hS44
set_option maxRecDepth 100000 in
set_option maxHeartbeats 4000000 in
theorem m_X12_peace (l : Launch) (X : xW) (Γ : Nat → Option Nat) (H0 : Heap) (hC0 : Conf X Γ H0) (h0 : Nat) (g0 : Γ h0 = some 11) (ca : Nat) (gca : Γ ca = some 64) (uc : ∀ a, Γ a = some 64 → a = ca) (oa : Nat) (goa : Γ oa = some 68) (uo : ∀ a, Γ a = some 68 → a = oa) : Ctr l X Γ yX12_peace cX12_peace 1 (some .int) 5 [.ref h0] H0 (QI X Γ (fun v H1 => Kp X Γ [1, 6, 7, 8, 9, 10, 11, 14, 15, 16, 17, 19, 22, 24, 26, 28] H0 H1 ∧ (True))) := by
  refine q_enterI (own := "SnowFortsModel") (by decide) rfl (Nat.le_of_ble_eq_true rfl) ?_
  intro p e s m args below meth c ls Qz E hl ret hS0
  have hx := E.1; have hb := E.2.1
  have hKp0 : Kp X Γ [1, 6, 7, 8, 9, 10, 11, 14, 15, 16, 17, 19, 22, 24, 26, 28] H0 H0 := Kp.rf
  have hl : lv_has ls 1 [(0, .ref h0)] := hl
  refine lv_aload_n hx hb dX12_peace_0 rfl (lv_at hl 0 rfl) ?_
  refine lv_iconst (v := 0) hx hb dX12_peace_1 rfl ?_
  refine q_put E hC0 hS0 g0 fp_RX12_69 tv_F rfl rfl dX12_peace_2 (fun H21 locs21 hC21 hS21 U21 => ?_)
  have hKp21 := Kp.upO E g0 fp_RX12_69 rfl U21 hKp0
  have e22 := up_I U21
  refine lv_aload_n hx hb dX12_peace_5 rfl (lv_at hl 0 rfl) ?_
  refine lv_iconst (v := 0) hx hb dX12_peace_6 rfl ?_
  refine q_put E hC21 hS21 g0 fp_RX12_72 tv_F rfl rfl dX12_peace_7 (fun H23 locs23 hC23 hS23 U23 => ?_)
  have hKp23 := Kp.upO E g0 fp_RX12_72 rfl U23 hKp21
  have e24 := up_I U23
  refine lv_aload_n hx hb dX12_peace_10 rfl (lv_at hl 0 rfl) ?_
  refine q_goI (q_runV (As := []) (rest := []) E hC23 hS23 (m_X12_ways l X Γ H23 hC23 h0 g0 ca gca uc oa goa uo) cw_X12_ways cl_RX12_383 g0 ⟨rfl, rfl⟩ rfl hl.1 rfl (Nat.zero_le _) (by decide) dX12_peace_11) hS23 (fun v25 H25 locs25 hr25 hC25 hS25 => ?_)
  obtain ⟨hp25, hr25⟩ := hr25
  have hKp25 := hKp23.tr (hp25.mono rfl)
  obtain ⟨f25_0, f25_1, f25_2⟩ := hr25
  refine lv_sipush (v := 1000) hx hb dX12_peace_14 rfl ?_
  refine lv_idiv hx hb dX12_peace_17 (by decide) (lv_topi (fun v26 ev26 => ?_))
  have ev26i : v26.toInt = (v25.toInt / 1000) := i_div ev26 rfl (by decide) (by omega) (by decide)
  refine lv_iconst (v := 4) hx hb dX12_peace_18 rfl ?_
  refine q_icmp_gt hx hb (a := (v25.toInt / 1000)) (b := 4) ev26i (by decide) (tgt := 26) dX12_peace_19 rfl (fun c27 => ?_) (fun c27 => ?_)
  · refine lv_iconst (v := 0) hx hb dX12_peace_26 rfl ?_
    exact ret 0 H25 locs25 _ _ dX12_peace_27 ⟨hKp25, trivial⟩ hC25 hS25
  · refine lv_iconst (v := 1) hx hb dX12_peace_22 rfl ?_
    refine lv_goto (tgt := 27) hx hb dX12_peace_23 rfl ?_
    exact ret 1 H25 locs25 _ _ dX12_peace_27 ⟨hKp25, trivial⟩ hC25 hS25
set_option maxRecDepth 100000 in
set_option maxHeartbeats 4000000 in
theorem m_X12_look (l : Launch) (X : xW) (Γ : Nat → Option Nat) (H0 : Heap) (hC0 : Conf X Γ H0) (h0 : Nat) (g0 : Γ h0 = some 11) (p1 : Int32) {a1 : Int} (e1 : p1.toInt = a1) (p2 : Int32) {a2 : Int} (e2 : p2.toInt = a2) (ca : Nat) (gca : Γ ca = some 64) (uc : ∀ a, Γ a = some 64 → a = ca) : Ctr l X Γ yX12_look cX12_look 3 (some .int) 2 [.ref h0, .int p1, .int p2] H0 (QI X Γ (fun v H1 => Kp X Γ [1, 6, 7, 8, 9, 10, 11, 12, 14, 16, 17, 19, 22, 24, 26, 28] H0 H1 ∧ (True))) := by
  refine q_enterI (own := "SnowFortsModel") (by decide) rfl (Nat.le_of_ble_eq_true rfl) ?_
  intro p e s m args below meth c ls Qz E hl ret hS0
  have hx := E.1; have hb := E.2.1
  have hKp0 : Kp X Γ [1, 6, 7, 8, 9, 10, 11, 12, 14, 16, 17, 19, 22, 24, 26, 28] H0 H0 := Kp.rf
  have hl : lv_has ls 3 [(0, .ref h0), (1, .int p1), (2, .int p2)] := hl
  refine lv_aload_n hx hb dX12_look_0 rfl (lv_at hl 0 rfl) ?_
  refine lv_iconst (v := 0) hx hb dX12_look_1 rfl ?_
  refine q_put E hC0 hS0 g0 fp_RX12_69 tv_F rfl rfl dX12_look_2 (fun H21 locs21 hC21 hS21 U21 => ?_)
  have hKp21 := Kp.upO E g0 fp_RX12_69 rfl U21 hKp0
  have e22 := up_I U21
  refine lv_aload_n hx hb dX12_look_5 rfl (lv_at hl 0 rfl) ?_
  refine lv_iconst (v := 0) hx hb dX12_look_6 rfl ?_
  refine q_put E hC21 hS21 g0 fp_RX12_72 tv_F rfl rfl dX12_look_7 (fun H23 locs23 hC23 hS23 U23 => ?_)
  have hKp23 := Kp.upO E g0 fp_RX12_72 rfl U23 hKp21
  have e24 := up_I U23
  refine lv_aload_n hx hb dX12_look_10 rfl (lv_at hl 0 rfl) ?_
  refine lv_iload_n hx hb dX12_look_11 rfl (lv_at hl 1 rfl) ?_
  refine lv_iload_n hx hb dX12_look_12 rfl (lv_at hl 2 rfl) ?_
  refine q_goIp (q_runV (As := [.int p1, .int p2]) (rest := []) E hC23 hS23 (m_X12_isCell l X Γ H23 hC23 h0 g0 p1 (a1 := a1) e1 p2 (a2 := a2) e2 ca gca uc) cw_X12_isCell cl_RX12_301 g0 ⟨rfl, rfl⟩ rfl hl.1 rfl (Nat.zero_le _) (by decide) dX12_look_13) hS23 (fun v25 locs25 hr25 hS25 => ?_)
  rcases hr25 with ⟨rfl, f25a0, f25a1, f25a2, f25a3, f25a4, f25a5⟩ | ⟨rfl, f25b⟩
  · refine q_if_ne hx hb (a := 1) (by decide) (tgt := 25) dX12_look_16 rfl (fun c26 => ?_) (fun c26 => absurd c26 (by omega))
    refine lv_aload_n hx hb dX12_look_25 rfl (lv_at hl 0 rfl) ?_
    refine q_getC E hC23 g0 fa_RX12_35 uc dX12_look_26 ?_
    refine lv_sipush (v := 206) hx hb dX12_look_29 rfl ?_
    refine lv_iload_n hx hb dX12_look_32 rfl (lv_at hl 1 rfl) ?_
    refine lv_iload_n hx hb dX12_look_33 rfl (lv_at hl 2 rfl) ?_
    refine q_goIp (q_runS (As := [.int p1, .int p2]) (rest := [.int 206, .ref ca]) E hS25 (m_X12_at2 l X Γ H23 hC23 p1 (a0 := a1) e1 p2 (a1 := a2) e2 (by omega) (by omega) (by omega) (by omega)) cw_X12_at2 cl_RX12_292 rfl hl.1 rfl (show _ ≤ _ from by simp [Value.category]) (by decide) dX12_look_34) hS25 (fun v27 locs27 hr27 hS27 => ?_)
    have f27_0 := hr27
    refine lv_iadd hx hb dX12_look_37 (lv_topi (fun v28 ev28 => ?_))
    have ev28i : v28.toInt = (206 + v27.toInt) := i_add ev28 (by decide) rfl (by omega) (by omega)
    refine lv_iconst (v := 1) hx hb dX12_look_38 rfl ?_
    refine q_cast E hC23 hS27 gca (a := (206 + v27.toInt)) ev28i (by omega) (by omega) (cs_c134 (a := (206 + v27.toInt)) (by omega) (by omega)) dX12_look_39 (fun H29 locs29 hC29 hS29 U29 => ?_)
    have hKp29 := Kp.upD gca rfl rfl (fun _ => ⟨fun _ => nd2 (by omega) (by omega), fun _ => by unfold dpu; omega, fun _ => by unfold dpn; omega⟩) U29 hKp23
    have e30 := up_I U29
    refine lv_aload_n hx hb dX12_look_40 rfl (lv_at hl 0 rfl) ?_
    refine q_getC E hC29 g0 fa_RX12_35 uc dX12_look_41 ?_
    refine lv_sipush (v := 170) hx hb dX12_look_44 rfl ?_
    refine lv_iload_n hx hb dX12_look_47 rfl (lv_at hl 1 rfl) ?_
    refine lv_iload_n hx hb dX12_look_48 rfl (lv_at hl 2 rfl) ?_
    refine q_goIp (q_runS (As := [.int p1, .int p2]) (rest := [.int 170, .ref ca]) E hS29 (m_X12_at2 l X Γ H29 hC29 p1 (a0 := a1) e1 p2 (a1 := a2) e2 (by omega) (by omega) (by omega) (by omega)) cw_X12_at2 cl_RX12_292 rfl hl.1 rfl (show _ ≤ _ from by simp [Value.category]) (by decide) dX12_look_49) hS29 (fun v31 locs31 hr31 hS31 => ?_)
    have f31_0 := hr31
    refine lv_iadd hx hb dX12_look_52 (lv_topi (fun v32 ev32 => ?_))
    have ev32i : v32.toInt = (170 + v31.toInt) := i_add ev32 (by decide) rfl (by omega) (by omega)
    refine q_cald E hC29 (lo := -2147483648) (hi := 2147483647) gca (a := (170 + v31.toInt)) ev32i (by omega) (by omega) (cr_c134 (by omega) (by omega)) dX12_look_53 (fun v33 ev33 _ _ => ?_)
    exact ret v33 H29 locs31 _ _ dX12_look_54 ⟨hKp29, trivial⟩ hC29 hS31
  · refine q_if_ne hx hb (a := 0) (by decide) (tgt := 25) dX12_look_16 rfl (fun c34 => absurd c34 (by omega)) (fun c34 => ?_)
    refine lv_aload_n hx hb dX12_look_19 rfl (lv_at hl 0 rfl) ?_
    refine lv_iconst (v := 2) hx hb dX12_look_20 rfl ?_
    refine q_goI (q_runV (As := [.int 2]) (rest := []) E hC23 hS25 (m_X12_refuse l X Γ H23 hC23 h0 g0 2 (a1 := 2) (by decide) ca gca uc) cw_X12_refuse cl_RX12_298 g0 ⟨rfl, rfl⟩ rfl hl.1 rfl (Nat.zero_le _) (by decide) dX12_look_21) hS25 (fun v35 H35 locs35 hr35 hC35 hS35 => ?_)
    obtain ⟨hp35, hr35⟩ := hr35
    have hKp35 := hKp23.tr (hp35.mono rfl)
    have f35_0 := hr35
    exact ret v35 H35 locs35 _ _ dX12_look_24 ⟨hKp35, trivial⟩ hC35 hS35
set_option maxRecDepth 100000 in
set_option maxHeartbeats 4000000 in
theorem m_X12_hidingOf (l : Launch) (X : xW) (Γ : Nat → Option Nat) (H0 : Heap) (hC0 : Conf X Γ H0) (h0 : Nat) (g0 : Γ h0 = some 11) (p1 : Int32) {a1 : Int} (e1 : p1.toInt = a1) (ca : Nat) (gca : Γ ca = some 64) (uc : ∀ a, Γ a = some 64 → a = ca) : Ctr l X Γ yX12_hidingOf cX12_hidingOf 5 (some .int) 1 [.ref h0, .int p1] H0 (QI X Γ (fun v H1 => H1 = H0 ∧ (True))) := by
  refine q_enterI (own := "SnowFortsModel") (by decide) rfl (Nat.le_of_ble_eq_true rfl) ?_
  intro p e s m args below meth c ls Qz E hl ret hS0
  have hx := E.1; have hb := E.2.1
  have hl : lv_has ls 5 [(0, .ref h0), (1, .int p1)] := hl
  refine lv_iconst (v := 0) hx hb dX12_hidingOf_0 rfl ?_
  refine lv_istore_n hx hb dX12_hidingOf_1 rfl hl (by decide) rfl (fun ls hl => ?_)
  replace hl : lv_has ls 5 [(2, .int 0), (0, .ref h0), (1, .int p1)] := hl
  refine lv_iconst (v := 0) hx hb dX12_hidingOf_2 rfl ?_
  refine lv_istore_n hx hb dX12_hidingOf_3 rfl hl (by decide) rfl (fun ls hl => ?_)
  replace hl : lv_has ls 5 [(3, .int 0), (2, .int 0), (0, .ref h0), (1, .int p1)] := hl
  have L4 : ∀ (n23 : Nat) (locs23 : List Loc) (v21 : Int32) (z21 : Int) (v22 : Int32) (z22 : Int) (ls : Array Slot), (6 - z21).toNat < n23 → v21.toInt = z21 → v22.toInt = z22 → z21 ≤ 6 → 0 ≤ z21 → va_S (AΓ Γ) H0 H0 locs23 → lv_has ls 5 [(3, .int v21), (2, .int v22), (0, .ref h0), (1, .int p1)] → W p l e (rmL 1) s m args below meth c H0 locs23 0 0 Qz (F0 m 4 ls []) := by
    intro n23
    induction n23 with
    | zero => intro locs23 v21 z21 v22 z22 ls hm23 ev21 ev22 iv23_0 iv23_1 hS23 hl; exact absurd hm23 (Nat.not_lt_zero _)
    | succ n23 ih23 =>
      intro locs23 v21 z21 v22 z22 ls hm23 ev21 ev22 iv23_0 iv23_1 hS23 hl
      refine lv_iload_n hx hb dX12_hidingOf_4 rfl (lv_at hl 0 rfl) ?_
      refine lv_aload_n hx hb dX12_hidingOf_5 rfl (lv_at hl 2 rfl) ?_
      refine q_getC E hC0 g0 fa_RX12_35 uc dX12_hidingOf_6 ?_
      refine lv_iconst (v := 1) hx hb dX12_hidingOf_9 rfl ?_
      refine q_cald E hC0 (lo := 0) (hi := 6) gca (a := 1) (show (1 : Int32).toInt = 1 from by decide) (by omega) (by omega) (cr_c0 (by omega) (by omega)) dX12_hidingOf_10 (fun v24 ev24 lv24 uv24 => ?_)
      refine q_icmp_ge hx hb (a := z21) (b := v24.toInt) ev21 rfl (tgt := 93) dX12_hidingOf_11 rfl (fun c25 => ?_) (fun c25 => ?_)
      · refine lv_iload_n hx hb dX12_hidingOf_93 rfl (lv_at hl 1 rfl) ?_
        exact ret v22 H0 locs23 _ _ dX12_hidingOf_94 ⟨rfl, trivial⟩ hC0 hS23
      · refine lv_iconst (v := 0) hx hb dX12_hidingOf_14 rfl ?_
        refine lv_istore hx hb dX12_hidingOf_15 hl (by decide) rfl (fun ls hl => ?_)
        replace hl : lv_has ls 5 [(4, .int 0), (3, .int v21), (2, .int v22), (0, .ref h0), (1, .int p1)] := hl
        have L17 : ∀ (n28 : Nat) (locs28 : List Loc) (v26 : Int32) (z26 : Int) (v27 : Int32) (z27 : Int) (ls : Array Slot), (6 - z26).toNat < n28 → v26.toInt = z26 → v27.toInt = z27 → z26 ≤ 6 → 0 ≤ z26 → va_S (AΓ Γ) H0 H0 locs28 → lv_has ls 5 [(4, .int v26), (3, .int v21), (2, .int v27), (0, .ref h0), (1, .int p1)] → W p l e (rmL 1) s m args below meth c H0 locs28 0 0 Qz (F0 m 17 ls []) := by
          intro n28
          induction n28 with
          | zero => intro locs28 v26 z26 v27 z27 ls hm28 ev26 ev27 iv28_0 iv28_1 hS28 hl; exact absurd hm28 (Nat.not_lt_zero _)
          | succ n28 ih28 =>
            intro locs28 v26 z26 v27 z27 ls hm28 ev26 ev27 iv28_0 iv28_1 hS28 hl
            refine lv_iload hx hb dX12_hidingOf_17 (lv_at hl 0 rfl) ?_
            refine lv_aload_n hx hb dX12_hidingOf_19 rfl (lv_at hl 3 rfl) ?_
            refine q_getC E hC0 g0 fa_RX12_35 uc dX12_hidingOf_20 ?_
            refine lv_iconst (v := 0) hx hb dX12_hidingOf_23 rfl ?_
            refine q_cald E hC0 (lo := 0) (hi := 6) gca (a := 0) (show (0 : Int32).toInt = 0 from by decide) (by omega) (by omega) (cr_c0 (by omega) (by omega)) dX12_hidingOf_24 (fun v29 ev29 lv29 uv29 => ?_)
            refine q_icmp_ge hx hb (a := z26) (b := v29.toInt) ev26 rfl (tgt := 87) dX12_hidingOf_25 rfl (fun c30 => ?_) (fun c30 => ?_)
            · obtain ⟨v31, ev31⟩ : ∃ z, z = v21 + Int32.ofInt 1 := ⟨_, rfl⟩
              have ev31i : v31.toInt = (z21 + 1) := i_add ev31 ev21 (by decide) (by omega) (by omega)
              refine lv_iinc hx hb dX12_hidingOf_87 hl (k := 1) rfl ev31.symm (by decide) rfl (fun ls hl => ?_)
              replace hl : lv_has ls 5 [(3, .int v31), (4, .int v26), (2, .int v27), (0, .ref h0), (1, .int p1)] := hl
              refine lv_goto (tgt := 4) hx hb dX12_hidingOf_90 rfl ?_
              exact ih23 locs28 v31 ((z21 + 1)) v27 (z27) ls (by omega) ev31i ev27 (by omega) (by omega) hS28 (lv_sub hl [0, 2, 3, 4] rfl)
            · refine lv_iload_n hx hb dX12_hidingOf_28 rfl (lv_at hl 2 rfl) ?_
              refine lv_aload_n hx hb dX12_hidingOf_29 rfl (lv_at hl 3 rfl) ?_
              refine lv_iload hx hb dX12_hidingOf_30 (lv_at hl 0 rfl) ?_
              refine q_goIp (q_runV (As := [.int v26]) (rest := [.int v27]) E hC0 hS28 (m_X12_halfOf l X Γ H0 hC0 h0 g0 v26 (a1 := z26) ev26 ca gca uc) cw_X12_halfOf cl_RX12_270 g0 ⟨rfl, rfl⟩ rfl hl.1 rfl (show _ ≤ _ from by simp [Value.category]) (by decide) dX12_hidingOf_32) hS28 (fun v32 locs32 hr32 hS32 => ?_)
              obtain ⟨f32_0, f32_1⟩ := hr32
              refine lv_iload_n hx hb dX12_hidingOf_35 rfl (lv_at hl 4 rfl) ?_
              have c33 := i_rng p1; rw [show p1.toInt = a1 from e1] at c33
              refine q_icmp_ne hx hb (a := v32.toInt) (b := a1) rfl e1 (tgt := 78) dX12_hidingOf_36 rfl (fun c34 => ?_) (fun c34 => ?_)
              · refine lv_iconst (v := 0) hx hb dX12_hidingOf_78 rfl ?_
                refine lv_iadd hx hb dX12_hidingOf_79 (lv_topi (fun v35 ev35 => ?_))
                have c36 := i_rng v27; rw [show v27.toInt = z27 from ev27] at c36
                have ev35i : v35.toInt = (z27 + 0) := i_add ev35 ev27 (by decide) (by omega) (by omega)
                refine lv_istore_n hx hb dX12_hidingOf_80 rfl hl (by decide) rfl (fun ls hl => ?_)
                replace hl : lv_has ls 5 [(2, .int v35), (4, .int v26), (3, .int v21), (0, .ref h0), (1, .int p1)] := hl
                obtain ⟨v37, ev37⟩ : ∃ z, z = v26 + Int32.ofInt 1 := ⟨_, rfl⟩
                have ev37i : v37.toInt = (z26 + 1) := i_add ev37 ev26 (by decide) (by omega) (by omega)
                refine lv_iinc hx hb dX12_hidingOf_81 hl (k := 1) rfl ev37.symm (by decide) rfl (fun ls hl => ?_)
                replace hl : lv_has ls 5 [(4, .int v37), (2, .int v35), (3, .int v21), (0, .ref h0), (1, .int p1)] := hl
                refine lv_goto (tgt := 17) hx hb dX12_hidingOf_84 rfl ?_
                exact ih28 locs32 v37 ((z26 + 1)) v35 ((z27 + 0)) ls (by omega) ev37i ev35i (by omega) (by omega) hS32 (lv_sub hl [0, 2, 1, 3, 4] rfl)
              · refine lv_aload_n hx hb dX12_hidingOf_39 rfl (lv_at hl 3 rfl) ?_
                refine q_getC E hC0 g0 fa_RX12_35 uc dX12_hidingOf_40 ?_
                refine lv_bipush (v := 62) hx hb dX12_hidingOf_43 rfl ?_
                refine lv_iload hx hb dX12_hidingOf_45 (lv_at hl 0 rfl) ?_
                refine lv_iload_n hx hb dX12_hidingOf_47 rfl (lv_at hl 1 rfl) ?_
                refine q_goIp (q_runS (As := [.int v26, .int v21]) (rest := [.int 62, .ref ca, .int v27]) E hS32 (m_X12_at2 l X Γ H0 hC0 v26 (a0 := z26) ev26 v21 (a1 := z21) ev21 (by omega) (by omega) (by omega) (by omega)) cw_X12_at2 cl_RX12_292 rfl hl.1 rfl (show _ ≤ _ from by simp [Value.category]) (by decide) dX12_hidingOf_48) hS32 (fun v38 locs38 hr38 hS38 => ?_)
                have f38_0 := hr38
                refine lv_iadd hx hb dX12_hidingOf_51 (lv_topi (fun v39 ev39 => ?_))
                have ev39i : v39.toInt = (62 + v38.toInt) := i_add ev39 (by decide) rfl (by omega) (by omega)
                refine q_cald E hC0 (lo := 0) (hi := 99) gca (a := (62 + v38.toInt)) ev39i (by omega) (by omega) (cr_c26 (by omega) (by omega)) dX12_hidingOf_52 (fun v40 ev40 lv40 uv40 => ?_)
                refine q_if_le hx hb (a := v40.toInt) rfl (tgt := 78) dX12_hidingOf_53 rfl (fun c41 => ?_) (fun c41 => ?_)
                · refine lv_iconst (v := 0) hx hb dX12_hidingOf_78 rfl ?_
                  refine lv_iadd hx hb dX12_hidingOf_79 (lv_topi (fun v42 ev42 => ?_))
                  have c43 := i_rng v27; rw [show v27.toInt = z27 from ev27] at c43
                  have ev42i : v42.toInt = (z27 + 0) := i_add ev42 ev27 (by decide) (by omega) (by omega)
                  refine lv_istore_n hx hb dX12_hidingOf_80 rfl hl (by decide) rfl (fun ls hl => ?_)
                  replace hl : lv_has ls 5 [(2, .int v42), (4, .int v26), (3, .int v21), (0, .ref h0), (1, .int p1)] := hl
                  obtain ⟨v44, ev44⟩ : ∃ z, z = v26 + Int32.ofInt 1 := ⟨_, rfl⟩
                  have ev44i : v44.toInt = (z26 + 1) := i_add ev44 ev26 (by decide) (by omega) (by omega)
                  refine lv_iinc hx hb dX12_hidingOf_81 hl (k := 1) rfl ev44.symm (by decide) rfl (fun ls hl => ?_)
                  replace hl : lv_has ls 5 [(4, .int v44), (2, .int v42), (3, .int v21), (0, .ref h0), (1, .int p1)] := hl
                  refine lv_goto (tgt := 17) hx hb dX12_hidingOf_84 rfl ?_
                  exact ih28 locs38 v44 ((z26 + 1)) v42 ((z27 + 0)) ls (by omega) ev44i ev42i (by omega) (by omega) hS38 (lv_sub hl [0, 2, 1, 3, 4] rfl)
                · refine lv_aload_n hx hb dX12_hidingOf_56 rfl (lv_at hl 3 rfl) ?_
                  refine q_getC E hC0 g0 fa_RX12_35 uc dX12_hidingOf_57 ?_
                  refine lv_sipush (v := 206) hx hb dX12_hidingOf_60 rfl ?_
                  refine lv_iload hx hb dX12_hidingOf_63 (lv_at hl 0 rfl) ?_
                  refine lv_iload_n hx hb dX12_hidingOf_65 rfl (lv_at hl 1 rfl) ?_
                  refine q_goIp (q_runS (As := [.int v26, .int v21]) (rest := [.int 206, .ref ca, .int v27]) E hS38 (m_X12_at2 l X Γ H0 hC0 v26 (a0 := z26) ev26 v21 (a1 := z21) ev21 (by omega) (by omega) (by omega) (by omega)) cw_X12_at2 cl_RX12_292 rfl hl.1 rfl (show _ ≤ _ from by simp [Value.category]) (by decide) dX12_hidingOf_66) hS38 (fun v45 locs45 hr45 hS45 => ?_)
                  have f45_0 := hr45
                  refine lv_iadd hx hb dX12_hidingOf_69 (lv_topi (fun v46 ev46 => ?_))
                  have ev46i : v46.toInt = (206 + v45.toInt) := i_add ev46 (by decide) rfl (by omega) (by omega)
                  refine q_cald E hC0 (lo := -2147483648) (hi := 2147483647) gca (a := (206 + v45.toInt)) ev46i (by omega) (by omega) (cr_c134 (by omega) (by omega)) dX12_hidingOf_70 (fun v47 ev47 _ _ => ?_)
                  refine q_if_ne hx hb (a := v47.toInt) rfl (tgt := 78) dX12_hidingOf_71 rfl (fun c48 => ?_) (fun c48 => ?_)
                  · refine lv_iconst (v := 0) hx hb dX12_hidingOf_78 rfl ?_
                    refine lv_iadd hx hb dX12_hidingOf_79 (lv_topi (fun v49 ev49 => ?_))
                    have c50 := i_rng v27; rw [show v27.toInt = z27 from ev27] at c50
                    have ev49i : v49.toInt = (z27 + 0) := i_add ev49 ev27 (by decide) (by omega) (by omega)
                    refine lv_istore_n hx hb dX12_hidingOf_80 rfl hl (by decide) rfl (fun ls hl => ?_)
                    replace hl : lv_has ls 5 [(2, .int v49), (4, .int v26), (3, .int v21), (0, .ref h0), (1, .int p1)] := hl
                    obtain ⟨v51, ev51⟩ : ∃ z, z = v26 + Int32.ofInt 1 := ⟨_, rfl⟩
                    have ev51i : v51.toInt = (z26 + 1) := i_add ev51 ev26 (by decide) (by omega) (by omega)
                    refine lv_iinc hx hb dX12_hidingOf_81 hl (k := 1) rfl ev51.symm (by decide) rfl (fun ls hl => ?_)
                    replace hl : lv_has ls 5 [(4, .int v51), (2, .int v49), (3, .int v21), (0, .ref h0), (1, .int p1)] := hl
                    refine lv_goto (tgt := 17) hx hb dX12_hidingOf_84 rfl ?_
                    exact ih28 locs45 v51 ((z26 + 1)) v49 ((z27 + 0)) ls (by omega) ev51i ev49i (by omega) (by omega) hS45 (lv_sub hl [0, 2, 1, 3, 4] rfl)
                  · refine lv_iconst (v := 1) hx hb dX12_hidingOf_74 rfl ?_
                    refine lv_goto (tgt := 79) hx hb dX12_hidingOf_75 rfl ?_
                    refine lv_iadd hx hb dX12_hidingOf_79 (lv_topi (fun v52 ev52 => ?_))
                    refine lv_istore_n hx hb dX12_hidingOf_80 rfl hl (by decide) rfl (fun ls hl => ?_)
                    replace hl : lv_has ls 5 [(2, .int v52), (4, .int v26), (3, .int v21), (0, .ref h0), (1, .int p1)] := hl
                    obtain ⟨v53, ev53⟩ : ∃ z, z = v26 + Int32.ofInt 1 := ⟨_, rfl⟩
                    have ev53i : v53.toInt = (z26 + 1) := i_add ev53 ev26 (by decide) (by omega) (by omega)
                    refine lv_iinc hx hb dX12_hidingOf_81 hl (k := 1) rfl ev53.symm (by decide) rfl (fun ls hl => ?_)
                    replace hl : lv_has ls 5 [(4, .int v53), (2, .int v52), (3, .int v21), (0, .ref h0), (1, .int p1)] := hl
                    refine lv_goto (tgt := 17) hx hb dX12_hidingOf_84 rfl ?_
                    exact ih28 locs45 v53 ((z26 + 1)) v52 (v52.toInt) ls (by omega) ev53i rfl (by omega) (by omega) hS45 (lv_sub hl [0, 2, 1, 3, 4] rfl)
        exact L17 _ locs23 0 0 v22 z22 ls (Nat.lt_succ_self _) (by decide) ev22 (by omega) (by omega) hS23 hl
  exact L4 _ [] 0 0 0 0 ls (Nat.lt_succ_self _) (by decide) (by decide) (by omega) (by omega) hS0 hl
