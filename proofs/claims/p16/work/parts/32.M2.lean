set_option maxRecDepth 100000 in
set_option maxHeartbeats 4000000 in
theorem m_X12_opens (l : Launch) (X : xW) (Γ : Nat → Option Nat) (H0 : Heap) (hC0 : Conf X Γ H0) (h0 : Nat) (g0 : Γ h0 = some 11) (p1 : Int32) {a1 : Int} (e1 : p1.toInt = a1) (p2 : Int32) {a2 : Int} (e2 : p2.toInt = a2) (ca : Nat) (gca : Γ ca = some 64) (uc : ∀ a, Γ a = some 64 → a = ca) (tq : Nat) (htq : sR H0 h0 (X.1.2 11 7) = some tq) (gtq : Γ tq = some 63) : Ctr l X Γ yX12_opens cX12_opens 3 (some .boolean) 2 [.ref h0, .int p1, .int p2] H0 (QI X Γ (fun v H1 => Kp X Γ [1, 6, 8, 9, 10, 11, 12, 14, 15, 16, 17, 19, 22, 24, 26, 28, 30, 35, 38] H0 H1 ∧ ((v = 1 ∧ ((sI H1 h0 (X.1.2 11 12)).toInt = 0 ∧ 0 ≤ a1 ∧ a1 ≤ (sI H0 h0 (X.1.2 11 8)).toInt ∧ a1 ≤ a2 ∧ (sI H1 h0 (X.1.2 11 8)).toInt = 0 ∧ (sI H1 h0 (X.1.2 11 9)).toInt = a1 ∧ TKM (bf H0 tq) a1 0 (sI H1 h0 (X.1.2 11 15)).toInt (sI H1 h0 (X.1.2 11 16)).toInt (sI H1 h0 (X.1.2 11 14)).toInt (sI H1 h0 (X.1.2 11 17)).toInt (sI H1 h0 (X.1.2 11 18)).toInt (sJ H1 h0 (X.1.2 11 19)).toInt)) ∨ (v = 0 ∧ ((a1 < 0 ∨ (sI H0 h0 (X.1.2 11 8)).toInt < a1 ∨ a2 < a1) ∧ (sI H1 h0 (X.1.2 11 8)).toInt = (sI H0 h0 (X.1.2 11 8)).toInt))))) := by
  refine q_enterZ (own := "SnowFortsModel") (by decide) rfl (Nat.le_of_ble_eq_true rfl) ?_
  intro p e s m args below meth c ls Qz E hl ret hS0
  have hx := E.1; have hb := E.2.1
  have hKp0 : Kp X Γ [1, 6, 8, 9, 10, 11, 12, 14, 15, 16, 17, 19, 22, 24, 26, 28, 30, 35, 38] H0 H0 := Kp.rf
  have hl : lv_has ls 3 [(0, .ref h0), (1, .int p1), (2, .int p2)] := hl
  have hz1 := f_bd hC0 g0 (ci := 11) (k := 8) rfl rfl
  have tqt : ∀ j, sI H0 tq j = sI H0 tq j := fun _ => rfl
  refine lv_iload_n hx hb dX12_opens_0 rfl (lv_at hl 1 rfl) ?_
  refine q_if_lt hx hb (a := a1) e1 (tgt := 17) dX12_opens_1 rfl (fun c21 => ?_) (fun c21 => ?_)
  · refine lv_aload_n hx hb dX12_opens_17 rfl (lv_at hl 0 rfl) ?_
    refine lv_iconst (v := 5) hx hb dX12_opens_18 rfl ?_
    refine q_goI (q_runV (As := [.int 5]) (rest := []) E hC0 hS0 (m_X12_no l X Γ H0 hC0 h0 g0 5 (a1 := 5) (by decide) ca gca uc) cw_X12_no cl_RX12_84 g0 ⟨rfl, rfl⟩ rfl hl.1 rfl (Nat.zero_le _) (by decide) dX12_opens_19) hS0 (fun v22 H22 locs22 hr22 hC22 hS22 => ?_)
    obtain ⟨hp22, hr22⟩ := hr22
    have hKp22 := hKp0.tr (hp22.mono rfl)
    have tqt : ∀ j, sI H22 tq j = sI H0 tq j := fun j => (kp_aI hp22 j gtq rfl rfl).trans (tqt j)
    have m23 : (sI H22 h0 (X.1.2 11 12)).toInt = (sI H0 h0 (X.1.2 11 12)).toInt := congrArg Int32.toInt (kp_I hp22 g0 (k := 12) rfl (by decide) rfl)
    have m24 : (sI H22 h0 (X.1.2 11 14)).toInt = (sI H0 h0 (X.1.2 11 14)).toInt := congrArg Int32.toInt (kp_I hp22 g0 (k := 14) rfl (by decide) rfl)
    have m25 : (sI H22 h0 (X.1.2 11 16)).toInt = (sI H0 h0 (X.1.2 11 16)).toInt := congrArg Int32.toInt (kp_I hp22 g0 (k := 16) rfl (by decide) rfl)
    have m26 : (sI H22 h0 (X.1.2 11 8)).toInt = (sI H0 h0 (X.1.2 11 8)).toInt := congrArg Int32.toInt (kp_I hp22 g0 (k := 8) rfl (by decide) rfl)
    have m27 : (sI H22 h0 (X.1.2 11 9)).toInt = (sI H0 h0 (X.1.2 11 9)).toInt := congrArg Int32.toInt (kp_I hp22 g0 (k := 9) rfl (by decide) rfl)
    have m28 : (sI H22 h0 (X.1.2 11 15)).toInt = (sI H0 h0 (X.1.2 11 15)).toInt := congrArg Int32.toInt (kp_I hp22 g0 (k := 15) rfl (by decide) rfl)
    have m29 : (sI H22 h0 (X.1.2 11 17)).toInt = (sI H0 h0 (X.1.2 11 17)).toInt := congrArg Int32.toInt (kp_I hp22 g0 (k := 17) rfl (by decide) rfl)
    have m30 : (sI H22 h0 (X.1.2 11 18)).toInt = (sI H0 h0 (X.1.2 11 18)).toInt := congrArg Int32.toInt (kp_I hp22 g0 (k := 18) rfl (by decide) rfl)
    rcases hr22 with ⟨rfl, f22a⟩ | ⟨rfl, -⟩
    · exact absurd f22a (by decide)
    · exact ret 0 H22 locs22 _ _ dX12_opens_22 (Or.inl rfl) ⟨hKp22, Or.inr ⟨rfl, by omega, by omega⟩⟩ hC22 hS22
  · refine lv_iload_n hx hb dX12_opens_4 rfl (lv_at hl 1 rfl) ?_
    refine lv_aload_n hx hb dX12_opens_5 rfl (lv_at hl 0 rfl) ?_
    refine q_getI E hC0 g0 fa_RX12_234 dX12_opens_6 (fun v31 ev31 lv31 uv31 => ?_)
    have m32 : (sI H0 h0 (X.1.2 11 8)).toInt = v31.toInt := (congrArg Int32.toInt ev31).trans rfl
    refine q_icmp_gt hx hb (a := a1) (b := v31.toInt) e1 rfl (tgt := 17) dX12_opens_9 rfl (fun c33 => ?_) (fun c33 => ?_)
    · refine lv_aload_n hx hb dX12_opens_17 rfl (lv_at hl 0 rfl) ?_
      refine lv_iconst (v := 5) hx hb dX12_opens_18 rfl ?_
      refine q_goI (q_runV (As := [.int 5]) (rest := []) E hC0 hS0 (m_X12_no l X Γ H0 hC0 h0 g0 5 (a1 := 5) (by decide) ca gca uc) cw_X12_no cl_RX12_84 g0 ⟨rfl, rfl⟩ rfl hl.1 rfl (Nat.zero_le _) (by decide) dX12_opens_19) hS0 (fun v34 H34 locs34 hr34 hC34 hS34 => ?_)
      obtain ⟨hp34, hr34⟩ := hr34
      have hKp34 := hKp0.tr (hp34.mono rfl)
      have tqt : ∀ j, sI H34 tq j = sI H0 tq j := fun j => (kp_aI hp34 j gtq rfl rfl).trans (tqt j)
      have m35 : (sI H34 h0 (X.1.2 11 12)).toInt = (sI H0 h0 (X.1.2 11 12)).toInt := congrArg Int32.toInt (kp_I hp34 g0 (k := 12) rfl (by decide) rfl)
      have m36 : (sI H34 h0 (X.1.2 11 14)).toInt = (sI H0 h0 (X.1.2 11 14)).toInt := congrArg Int32.toInt (kp_I hp34 g0 (k := 14) rfl (by decide) rfl)
      have m37 : (sI H34 h0 (X.1.2 11 16)).toInt = (sI H0 h0 (X.1.2 11 16)).toInt := congrArg Int32.toInt (kp_I hp34 g0 (k := 16) rfl (by decide) rfl)
      have m38 : (sI H34 h0 (X.1.2 11 8)).toInt = (sI H0 h0 (X.1.2 11 8)).toInt := congrArg Int32.toInt (kp_I hp34 g0 (k := 8) rfl (by decide) rfl)
      have m39 : (sI H34 h0 (X.1.2 11 9)).toInt = (sI H0 h0 (X.1.2 11 9)).toInt := congrArg Int32.toInt (kp_I hp34 g0 (k := 9) rfl (by decide) rfl)
      have m40 : (sI H34 h0 (X.1.2 11 15)).toInt = (sI H0 h0 (X.1.2 11 15)).toInt := congrArg Int32.toInt (kp_I hp34 g0 (k := 15) rfl (by decide) rfl)
      have m41 : (sI H34 h0 (X.1.2 11 17)).toInt = (sI H0 h0 (X.1.2 11 17)).toInt := congrArg Int32.toInt (kp_I hp34 g0 (k := 17) rfl (by decide) rfl)
      have m42 : (sI H34 h0 (X.1.2 11 18)).toInt = (sI H0 h0 (X.1.2 11 18)).toInt := congrArg Int32.toInt (kp_I hp34 g0 (k := 18) rfl (by decide) rfl)
      rcases hr34 with ⟨rfl, f34a⟩ | ⟨rfl, -⟩
      · exact absurd f34a (by decide)
      · have e43 := (kp_I hp34 g0 (k := 8) rfl (by decide) rfl).trans ev31
        have m44 : (sI H34 h0 (X.1.2 11 8)).toInt = v31.toInt := (congrArg Int32.toInt e43).trans rfl
        exact ret 0 H34 locs34 _ _ dX12_opens_22 (Or.inl rfl) ⟨hKp34, Or.inr ⟨rfl, by omega, by omega⟩⟩ hC34 hS34
    · refine lv_iload_n hx hb dX12_opens_12 rfl (lv_at hl 1 rfl) ?_
      refine lv_iload_n hx hb dX12_opens_13 rfl (lv_at hl 2 rfl) ?_
      have c45 := i_rng p2; rw [show p2.toInt = a2 from e2] at c45
      refine q_icmp_le hx hb (a := a1) (b := a2) e1 e2 (tgt := 23) dX12_opens_14 rfl (fun c46 => ?_) (fun c46 => ?_)
      · refine lv_aload_n hx hb dX12_opens_23 rfl (lv_at hl 0 rfl) ?_
        refine lv_iload_n hx hb dX12_opens_24 rfl (lv_at hl 1 rfl) ?_
        refine q_put E hC0 hS0 g0 fp_RX12_108 (tv_I e1 (by omega) (by omega)) rfl rfl dX12_opens_25 (fun H47 locs47 hC47 hS47 U47 => ?_)
        have hKp47 := Kp.upO E g0 fp_RX12_108 rfl U47 hKp0
        have e48 := up_I U47
        have m49 : (sI H47 h0 (X.1.2 11 9)).toInt = a1 := (congrArg Int32.toInt e48).trans e1
        have tqt : ∀ j, sI H47 tq j = sI H0 tq j := fun j => (up_nI U47 (ne_k gtq g0 (by decide))).trans (tqt j)
        have m50 : (sI H47 h0 (X.1.2 11 12)).toInt = (sI H0 h0 (X.1.2 11 12)).toInt := congrArg Int32.toInt (up_nI U47 (ne_f E 11 12 9 rfl (by decide) (by decide) (by decide)))
        have m51 : (sI H47 h0 (X.1.2 11 14)).toInt = (sI H0 h0 (X.1.2 11 14)).toInt := congrArg Int32.toInt (up_nI U47 (ne_f E 11 14 9 rfl (by decide) (by decide) (by decide)))
        have m52 := congrArg tk m51
        have m53 : (sI H47 h0 (X.1.2 11 16)).toInt = (sI H0 h0 (X.1.2 11 16)).toInt := congrArg Int32.toInt (up_nI U47 (ne_f E 11 16 9 rfl (by decide) (by decide) (by decide)))
        have m54 : (sI H47 h0 (X.1.2 11 8)).toInt = (sI H0 h0 (X.1.2 11 8)).toInt := congrArg Int32.toInt (up_nI U47 (ne_f E 11 8 9 rfl (by decide) (by decide) (by decide)))
        have m55 : (sI H47 h0 (X.1.2 11 15)).toInt = (sI H0 h0 (X.1.2 11 15)).toInt := congrArg Int32.toInt (up_nI U47 (ne_f E 11 15 9 rfl (by decide) (by decide) (by decide)))
        have m56 : (sI H47 h0 (X.1.2 11 17)).toInt = (sI H0 h0 (X.1.2 11 17)).toInt := congrArg Int32.toInt (up_nI U47 (ne_f E 11 17 9 rfl (by decide) (by decide) (by decide)))
        have m57 : (sI H47 h0 (X.1.2 11 18)).toInt = (sI H0 h0 (X.1.2 11 18)).toInt := congrArg Int32.toInt (up_nI U47 (ne_f E 11 18 9 rfl (by decide) (by decide) (by decide)))
        refine lv_aload_n hx hb dX12_opens_28 rfl (lv_at hl 0 rfl) ?_
        refine lv_iconst (v := 0) hx hb dX12_opens_29 rfl ?_
        refine q_put E hC47 hS47 g0 fp_RX12_234 (tv_I (show (0 : Int32).toInt = 0 from by decide) (by omega) (by omega)) rfl rfl dX12_opens_30 (fun H58 locs58 hC58 hS58 U58 => ?_)
        have hKp58 := Kp.upO E g0 fp_RX12_234 rfl U58 hKp47
        have e59 := up_I U58
        have m60 : (sI H58 h0 (X.1.2 11 8)).toInt = 0 := (congrArg Int32.toInt e59).trans (show (0 : Int32).toInt = 0 from by decide)
        have tqt : ∀ j, sI H58 tq j = sI H0 tq j := fun j => (up_nI U58 (ne_k gtq g0 (by decide))).trans (tqt j)
        have m61 : (sI H58 h0 (X.1.2 11 12)).toInt = (sI H47 h0 (X.1.2 11 12)).toInt := congrArg Int32.toInt (up_nI U58 (ne_f E 11 12 8 rfl (by decide) (by decide) (by decide)))
        have m62 : (sI H58 h0 (X.1.2 11 14)).toInt = (sI H47 h0 (X.1.2 11 14)).toInt := congrArg Int32.toInt (up_nI U58 (ne_f E 11 14 8 rfl (by decide) (by decide) (by decide)))
        have m63 := congrArg tk m62
        have m64 : (sI H58 h0 (X.1.2 11 16)).toInt = (sI H47 h0 (X.1.2 11 16)).toInt := congrArg Int32.toInt (up_nI U58 (ne_f E 11 16 8 rfl (by decide) (by decide) (by decide)))
        have m65 : (sI H58 h0 (X.1.2 11 9)).toInt = (sI H47 h0 (X.1.2 11 9)).toInt := congrArg Int32.toInt (up_nI U58 (ne_f E 11 9 8 rfl (by decide) (by decide) (by decide)))
        have m66 : (sI H58 h0 (X.1.2 11 15)).toInt = (sI H47 h0 (X.1.2 11 15)).toInt := congrArg Int32.toInt (up_nI U58 (ne_f E 11 15 8 rfl (by decide) (by decide) (by decide)))
        have m67 : (sI H58 h0 (X.1.2 11 17)).toInt = (sI H47 h0 (X.1.2 11 17)).toInt := congrArg Int32.toInt (up_nI U58 (ne_f E 11 17 8 rfl (by decide) (by decide) (by decide)))
        have m68 : (sI H58 h0 (X.1.2 11 18)).toInt = (sI H47 h0 (X.1.2 11 18)).toInt := congrArg Int32.toInt (up_nI U58 (ne_f E 11 18 8 rfl (by decide) (by decide) (by decide)))
        refine lv_aload_n hx hb dX12_opens_33 rfl (lv_at hl 0 rfl) ?_
        refine lv_iconst (v := 0) hx hb dX12_opens_34 rfl ?_
        refine q_put E hC58 hS58 g0 fp_RX12_111 (tv_I (show (0 : Int32).toInt = 0 from by decide) (by omega) (by omega)) rfl rfl dX12_opens_35 (fun H69 locs69 hC69 hS69 U69 => ?_)
        have hKp69 := Kp.upO E g0 fp_RX12_111 rfl U69 hKp58
        have e70 := up_I U69
        have m71 : (sI H69 h0 (X.1.2 11 16)).toInt = 0 := (congrArg Int32.toInt e70).trans (show (0 : Int32).toInt = 0 from by decide)
        have tqt : ∀ j, sI H69 tq j = sI H0 tq j := fun j => (up_nI U69 (ne_k gtq g0 (by decide))).trans (tqt j)
        have m72 : (sI H69 h0 (X.1.2 11 12)).toInt = (sI H58 h0 (X.1.2 11 12)).toInt := congrArg Int32.toInt (up_nI U69 (ne_f E 11 12 16 rfl (by decide) (by decide) (by decide)))
        have m73 : (sI H69 h0 (X.1.2 11 14)).toInt = (sI H58 h0 (X.1.2 11 14)).toInt := congrArg Int32.toInt (up_nI U69 (ne_f E 11 14 16 rfl (by decide) (by decide) (by decide)))
        have m74 := congrArg tk m73
        have m75 : (sI H69 h0 (X.1.2 11 8)).toInt = (sI H58 h0 (X.1.2 11 8)).toInt := congrArg Int32.toInt (up_nI U69 (ne_f E 11 8 16 rfl (by decide) (by decide) (by decide)))
        have m76 : (sI H69 h0 (X.1.2 11 9)).toInt = (sI H58 h0 (X.1.2 11 9)).toInt := congrArg Int32.toInt (up_nI U69 (ne_f E 11 9 16 rfl (by decide) (by decide) (by decide)))
        have m77 : (sI H69 h0 (X.1.2 11 15)).toInt = (sI H58 h0 (X.1.2 11 15)).toInt := congrArg Int32.toInt (up_nI U69 (ne_f E 11 15 16 rfl (by decide) (by decide) (by decide)))
        have m78 : (sI H69 h0 (X.1.2 11 17)).toInt = (sI H58 h0 (X.1.2 11 17)).toInt := congrArg Int32.toInt (up_nI U69 (ne_f E 11 17 16 rfl (by decide) (by decide) (by decide)))
        have m79 : (sI H69 h0 (X.1.2 11 18)).toInt = (sI H58 h0 (X.1.2 11 18)).toInt := congrArg Int32.toInt (up_nI U69 (ne_f E 11 18 16 rfl (by decide) (by decide) (by decide)))
        refine lv_aload_n hx hb dX12_opens_38 rfl (lv_at hl 0 rfl) ?_
        refine lv_iconst (v := 0) hx hb dX12_opens_39 rfl ?_
        refine q_put E hC69 hS69 g0 fp_RX12_218 (tv_I (show (0 : Int32).toInt = 0 from by decide) (by omega) (by omega)) rfl rfl dX12_opens_40 (fun H80 locs80 hC80 hS80 U80 => ?_)
        have hKp80 := Kp.upO E g0 fp_RX12_218 rfl U80 hKp69
        have e81 := up_I U80
        have m82 : (sI H80 h0 (X.1.2 11 12)).toInt = 0 := (congrArg Int32.toInt e81).trans (show (0 : Int32).toInt = 0 from by decide)
        have tqt : ∀ j, sI H80 tq j = sI H0 tq j := fun j => (up_nI U80 (ne_k gtq g0 (by decide))).trans (tqt j)
        have m83 : (sI H80 h0 (X.1.2 11 14)).toInt = (sI H69 h0 (X.1.2 11 14)).toInt := congrArg Int32.toInt (up_nI U80 (ne_f E 11 14 12 rfl (by decide) (by decide) (by decide)))
        have m84 := congrArg tk m83
        have m85 : (sI H80 h0 (X.1.2 11 16)).toInt = (sI H69 h0 (X.1.2 11 16)).toInt := congrArg Int32.toInt (up_nI U80 (ne_f E 11 16 12 rfl (by decide) (by decide) (by decide)))
        have m86 : (sI H80 h0 (X.1.2 11 8)).toInt = (sI H69 h0 (X.1.2 11 8)).toInt := congrArg Int32.toInt (up_nI U80 (ne_f E 11 8 12 rfl (by decide) (by decide) (by decide)))
        have m87 : (sI H80 h0 (X.1.2 11 9)).toInt = (sI H69 h0 (X.1.2 11 9)).toInt := congrArg Int32.toInt (up_nI U80 (ne_f E 11 9 12 rfl (by decide) (by decide) (by decide)))
        have m88 : (sI H80 h0 (X.1.2 11 15)).toInt = (sI H69 h0 (X.1.2 11 15)).toInt := congrArg Int32.toInt (up_nI U80 (ne_f E 11 15 12 rfl (by decide) (by decide) (by decide)))
        have m89 : (sI H80 h0 (X.1.2 11 17)).toInt = (sI H69 h0 (X.1.2 11 17)).toInt := congrArg Int32.toInt (up_nI U80 (ne_f E 11 17 12 rfl (by decide) (by decide) (by decide)))
        have m90 : (sI H80 h0 (X.1.2 11 18)).toInt = (sI H69 h0 (X.1.2 11 18)).toInt := congrArg Int32.toInt (up_nI U80 (ne_f E 11 18 12 rfl (by decide) (by decide) (by decide)))
        refine lv_aload_n hx hb dX12_opens_43 rfl (lv_at hl 0 rfl) ?_
        have tbo := bf_eq tqt
        refine q_goV (q_runV (As := []) (rest := []) E hC80 hS80 (m_X12_next l X Γ H80 hC80 h0 g0 ca gca uc tq ((kp_R hKp80 g0 (ci := 11) (k := 7) rfl (by decide) rfl).trans htq) gtq) cw_X12_next cl_RX12_228 g0 ⟨rfl, rfl⟩ rfl hl.1 rfl (Nat.zero_le _) (by decide) dX12_opens_44) hS80 (fun H91 locs91 hr91 hC91 hS91 => ?_)
        obtain ⟨hp91, hr91⟩ := hr91
        have hKp91 := hKp80.tr (hp91.mono rfl)
        have tqt : ∀ j, sI H91 tq j = sI H0 tq j := fun j => (kp_aI hp91 j gtq rfl rfl).trans (tqt j)
        have m92 : (sI H91 h0 (X.1.2 11 8)).toInt = (sI H80 h0 (X.1.2 11 8)).toInt := congrArg Int32.toInt (kp_I hp91 g0 (k := 8) rfl (by decide) rfl)
        obtain ⟨f91_0, f91_1, f91_2, f91_3, f91_4, f91_5⟩ := hr91
        have hTo := f91_3; rw [tbo] at hTo
        have hTo := hTo.castn (n' := a1) (p' := 0) (by omega) (by omega)
        refine lv_iconst (v := 1) hx hb dX12_opens_47 rfl ?_
        have e93 := (up_nI U80 (ne_f E 11 16 12 rfl (by decide) (by decide) (by decide))).trans e70
        have e94 := (up_nI U69 (ne_f E 11 8 16 rfl (by decide) (by decide) (by decide))).trans e59
        have e95 := (up_nI U80 (ne_f E 11 8 12 rfl (by decide) (by decide) (by decide))).trans e94
        have e96 := (kp_I hp91 g0 (k := 8) rfl (by decide) rfl).trans e95
        have m97 : (sI H91 h0 (X.1.2 11 8)).toInt = 0 := (congrArg Int32.toInt e96).trans (show (0 : Int32).toInt = 0 from by decide)
        have e98 := (up_nI U58 (ne_f E 11 9 8 rfl (by decide) (by decide) (by decide))).trans e48
        have e99 := (up_nI U69 (ne_f E 11 9 16 rfl (by decide) (by decide) (by decide))).trans e98
        have e100 := (up_nI U80 (ne_f E 11 9 12 rfl (by decide) (by decide) (by decide))).trans e99
        exact ret 1 H91 locs91 _ _ dX12_opens_48 (Or.inr rfl) ⟨hKp91, Or.inl ⟨rfl, by omega, by omega, by omega, by omega, by omega, by omega, hTo⟩⟩ hC91 hS91
      · refine lv_aload_n hx hb dX12_opens_17 rfl (lv_at hl 0 rfl) ?_
        refine lv_iconst (v := 5) hx hb dX12_opens_18 rfl ?_
        refine q_goI (q_runV (As := [.int 5]) (rest := []) E hC0 hS0 (m_X12_no l X Γ H0 hC0 h0 g0 5 (a1 := 5) (by decide) ca gca uc) cw_X12_no cl_RX12_84 g0 ⟨rfl, rfl⟩ rfl hl.1 rfl (Nat.zero_le _) (by decide) dX12_opens_19) hS0 (fun v101 H101 locs101 hr101 hC101 hS101 => ?_)
        obtain ⟨hp101, hr101⟩ := hr101
        have hKp101 := hKp0.tr (hp101.mono rfl)
        have tqt : ∀ j, sI H101 tq j = sI H0 tq j := fun j => (kp_aI hp101 j gtq rfl rfl).trans (tqt j)
        have m102 : (sI H101 h0 (X.1.2 11 12)).toInt = (sI H0 h0 (X.1.2 11 12)).toInt := congrArg Int32.toInt (kp_I hp101 g0 (k := 12) rfl (by decide) rfl)
        have m103 : (sI H101 h0 (X.1.2 11 14)).toInt = (sI H0 h0 (X.1.2 11 14)).toInt := congrArg Int32.toInt (kp_I hp101 g0 (k := 14) rfl (by decide) rfl)
        have m104 : (sI H101 h0 (X.1.2 11 16)).toInt = (sI H0 h0 (X.1.2 11 16)).toInt := congrArg Int32.toInt (kp_I hp101 g0 (k := 16) rfl (by decide) rfl)
        have m105 : (sI H101 h0 (X.1.2 11 8)).toInt = (sI H0 h0 (X.1.2 11 8)).toInt := congrArg Int32.toInt (kp_I hp101 g0 (k := 8) rfl (by decide) rfl)
        have m106 : (sI H101 h0 (X.1.2 11 9)).toInt = (sI H0 h0 (X.1.2 11 9)).toInt := congrArg Int32.toInt (kp_I hp101 g0 (k := 9) rfl (by decide) rfl)
        have m107 : (sI H101 h0 (X.1.2 11 15)).toInt = (sI H0 h0 (X.1.2 11 15)).toInt := congrArg Int32.toInt (kp_I hp101 g0 (k := 15) rfl (by decide) rfl)
        have m108 : (sI H101 h0 (X.1.2 11 17)).toInt = (sI H0 h0 (X.1.2 11 17)).toInt := congrArg Int32.toInt (kp_I hp101 g0 (k := 17) rfl (by decide) rfl)
        have m109 : (sI H101 h0 (X.1.2 11 18)).toInt = (sI H0 h0 (X.1.2 11 18)).toInt := congrArg Int32.toInt (kp_I hp101 g0 (k := 18) rfl (by decide) rfl)
        rcases hr101 with ⟨rfl, f101a⟩ | ⟨rfl, -⟩
        · exact absurd f101a (by decide)
        · have e110 := (kp_I hp101 g0 (k := 8) rfl (by decide) rfl).trans ev31
          have m111 : (sI H101 h0 (X.1.2 11 8)).toInt = v31.toInt := (congrArg Int32.toInt e110).trans rfl
          exact ret 0 H101 locs101 _ _ dX12_opens_22 (Or.inl rfl) ⟨hKp101, Or.inr ⟨rfl, by omega, by omega⟩⟩ hC101 hS101
set_option maxRecDepth 100000 in
set_option maxHeartbeats 4000000 in
theorem m_X12_spelled (l : Launch) (X : xW) (Γ : Nat → Option Nat) (H0 : Heap) (hC0 : Conf X Γ H0) (p0 : Int32) {a0 : Int} (e0 : p0.toInt = a0) (p1 : Int32) {a1 : Int} (e1 : p1.toInt = a1) (p2 : Int32) {a2 : Int} (e2 : p2.toInt = a2) (p3 : Int32) {a3 : Int} (e3 : p3.toInt = a3) (p4 : Int32) {a4 : Int} (e4 : p4.toInt = a4) (p5 : Int32) {a5 : Int} (e5 : p5.toInt = a5) (r0 : 97 ≤ a0) (r1 : a0 ≤ 122) (r2 : 97 ≤ a1) (r3 : a1 ≤ 122) (r4 : 0 ≤ a2) (r5 : a2 ≤ 122) (r6 : 0 ≤ a3) (r7 : a3 ≤ 122) (r8 : 0 ≤ a4) (r9 : a4 ≤ 122) (r10 : 0 ≤ a5) (r11 : a5 ≤ 122) : Ctr l X Γ yX12_spelled cX12_spelled 8 (some .long) 0 [.int p0, .int p1, .int p2, .int p3, .int p4, .int p5] H0 (QJ X Γ (fun v H1 => H1 = H0 ∧ ((v.toInt = SPL a0 a1 a2 a3 a4 a5)))) := by
  refine q_enterJ (own := "SnowFortsModel") (by decide) rfl (Nat.le_of_ble_eq_true rfl) ?_
  intro p e s m args below meth c ls Qz E hl ret hS0
  have hx := E.1; have hb := E.2.1
  have hl : lv_has ls 8 [(0, .int p0), (1, .int p1), (2, .int p2), (3, .int p3), (4, .int p4), (5, .int p5)] := hl
  refine lv_iload_n hx hb dX12_spelled_0 rfl (lv_at hl 0 rfl) ?_
  refine lv_i2l (v := p0.toInt64) hx hb dX12_spelled_1 rfl (lv_topl (fun v21 ev21 => ?_))
  have ev21i : v21.toInt = a0 := l_ofi ev21.symm e0
  refine lv_ldc2 (v := 96) hx hb E.2.2.2.1 (E.2.2.2.2.1 _ w_1507) dX12_spelled_2 ?_
  refine lv_lsub hx hb dX12_spelled_5 (lv_topl (fun v22 ev22 => ?_))
  have ev22i : v22.toInt = (a0 - 96) := l_sub ev22 ev21i (show (96 : Int64).toInt = 96 from by decide) (by omega) (by omega)
  refine lv_ldc2 (v := 32) hx hb E.2.2.2.1 (E.2.2.2.2.1 _ w_1506) dX12_spelled_6 ?_
  refine lv_lmul hx hb dX12_spelled_9 (lv_topl (fun v23 ev23 => ?_))
  have ev23i : v23.toInt = ((a0 - 96) * 32) := l_mul ev23 ev22i (show (32 : Int64).toInt = 32 from by decide) (by omega) (by omega)
  refine lv_iload_n hx hb dX12_spelled_10 rfl (lv_at hl 1 rfl) ?_
  refine lv_i2l (v := p1.toInt64) hx hb dX12_spelled_11 rfl (lv_topl (fun v24 ev24 => ?_))
  have ev24i : v24.toInt = a1 := l_ofi ev24.symm e1
  refine lv_ladd hx hb dX12_spelled_12 (lv_topl (fun v25 ev25 => ?_))
  have ev25i : v25.toInt = (((a0 - 96) * 32) + a1) := l_add ev25 ev23i ev24i (by omega) (by omega)
  refine lv_ldc2 (v := 96) hx hb E.2.2.2.1 (E.2.2.2.2.1 _ w_1507) dX12_spelled_13 ?_
  refine lv_lsub hx hb dX12_spelled_16 (lv_topl (fun v26 ev26 => ?_))
  have ev26i : v26.toInt = ((((a0 - 96) * 32) + a1) - 96) := l_sub ev26 ev25i (show (96 : Int64).toInt = 96 from by decide) (by omega) (by omega)
  refine lv_lstore hx hb dX12_spelled_17 hl (by decide) rfl (fun ls hl => ?_)
  have hl : lv_has ls 8 [(6, .long v26), (0, .int p0), (1, .int p1), (2, .int p2), (3, .int p3), (4, .int p4), (5, .int p5)] := hl
  refine lv_iload_n hx hb dX12_spelled_19 rfl (lv_at hl 3 rfl) ?_
  refine q_if_le hx hb (a := a2) e2 (tgt := 39) dX12_spelled_20 rfl (fun c27 => ?_) (fun c27 => ?_)
  · refine lv_lload hx hb dX12_spelled_39 (lv_at hl 0 rfl) ?_
    refine lv_lstore hx hb dX12_spelled_41 hl (by decide) rfl (fun ls hl => ?_)
    have hl : lv_has ls 8 [(6, .long v26), (0, .int p0), (1, .int p1), (2, .int p2), (3, .int p3), (4, .int p4), (5, .int p5)] := hl
    refine lv_iload_n hx hb dX12_spelled_43 rfl (lv_at hl 4 rfl) ?_
    refine q_if_le hx hb (a := a3) e3 (tgt := 63) dX12_spelled_44 rfl (fun c28 => ?_) (fun c28 => ?_)
    · refine lv_lload hx hb dX12_spelled_63 (lv_at hl 0 rfl) ?_
      refine lv_lstore hx hb dX12_spelled_65 hl (by decide) rfl (fun ls hl => ?_)
      have hl : lv_has ls 8 [(6, .long v26), (0, .int p0), (1, .int p1), (2, .int p2), (3, .int p3), (4, .int p4), (5, .int p5)] := hl
      refine lv_iload hx hb dX12_spelled_67 (lv_at hl 5 rfl) ?_
      refine q_if_le hx hb (a := a4) e4 (tgt := 89) dX12_spelled_69 rfl (fun c29 => ?_) (fun c29 => ?_)
      · refine lv_lload hx hb dX12_spelled_89 (lv_at hl 0 rfl) ?_
        refine lv_lstore hx hb dX12_spelled_91 hl (by decide) rfl (fun ls hl => ?_)
        have hl : lv_has ls 8 [(6, .long v26), (0, .int p0), (1, .int p1), (2, .int p2), (3, .int p3), (4, .int p4), (5, .int p5)] := hl
        refine lv_iload hx hb dX12_spelled_93 (lv_at hl 6 rfl) ?_
        refine q_if_le hx hb (a := a5) e5 (tgt := 115) dX12_spelled_95 rfl (fun c30 => ?_) (fun c30 => ?_)
        · refine lv_lload hx hb dX12_spelled_115 (lv_at hl 0 rfl) ?_
          have hpost : (v26 : Int64).toInt = SPL a0 a1 a2 a3 a4 a5 := by unfold SPL; dsimp only; (first | rw [if_pos (show 0 < a2 by omega)] | rw [if_neg (show ¬ 0 < a2 by omega)]); (first | rw [if_pos (show 0 < a3 by omega)] | rw [if_neg (show ¬ 0 < a3 by omega)]); (first | rw [if_pos (show 0 < a4 by omega)] | rw [if_neg (show ¬ 0 < a4 by omega)]); (first | rw [if_pos (show 0 < a5 by omega)] | rw [if_neg (show ¬ 0 < a5 by omega)]); (first | exact ev26i | omega)
          exact ret v26 H0 [] _ _ dX12_spelled_117 ⟨rfl, hpost⟩ hC0 hS0
        · refine lv_lload hx hb dX12_spelled_98 (lv_at hl 0 rfl) ?_
          refine lv_ldc2 (v := 32) hx hb E.2.2.2.1 (E.2.2.2.2.1 _ w_1506) dX12_spelled_100 ?_
          refine lv_lmul hx hb dX12_spelled_103 (lv_topl (fun v31 ev31 => ?_))
          have ev31i : v31.toInt = (((((a0 - 96) * 32) + a1) - 96) * 32) := l_mul ev31 ev26i (show (32 : Int64).toInt = 32 from by decide) (by omega) (by omega)
          refine lv_iload hx hb dX12_spelled_104 (lv_at hl 6 rfl) ?_
          refine lv_i2l (v := p5.toInt64) hx hb dX12_spelled_106 rfl (lv_topl (fun v32 ev32 => ?_))
          have ev32i : v32.toInt = a5 := l_ofi ev32.symm e5
          refine lv_ladd hx hb dX12_spelled_107 (lv_topl (fun v33 ev33 => ?_))
          have ev33i : v33.toInt = ((((((a0 - 96) * 32) + a1) - 96) * 32) + a5) := l_add ev33 ev31i ev32i (by omega) (by omega)
          refine lv_ldc2 (v := 96) hx hb E.2.2.2.1 (E.2.2.2.2.1 _ w_1507) dX12_spelled_108 ?_
          refine lv_lsub hx hb dX12_spelled_111 (lv_topl (fun v34 ev34 => ?_))
          have ev34i : v34.toInt = (((((((a0 - 96) * 32) + a1) - 96) * 32) + a5) - 96) := l_sub ev34 ev33i (show (96 : Int64).toInt = 96 from by decide) (by omega) (by omega)
          refine lv_goto (tgt := 117) hx hb dX12_spelled_112 rfl ?_
          have hpost : (v34 : Int64).toInt = SPL a0 a1 a2 a3 a4 a5 := by unfold SPL; dsimp only; (first | rw [if_pos (show 0 < a2 by omega)] | rw [if_neg (show ¬ 0 < a2 by omega)]); (first | rw [if_pos (show 0 < a3 by omega)] | rw [if_neg (show ¬ 0 < a3 by omega)]); (first | rw [if_pos (show 0 < a4 by omega)] | rw [if_neg (show ¬ 0 < a4 by omega)]); (first | rw [if_pos (show 0 < a5 by omega)] | rw [if_neg (show ¬ 0 < a5 by omega)]); (first | exact ev34i | omega)
          exact ret v34 H0 [] _ _ dX12_spelled_117 ⟨rfl, hpost⟩ hC0 hS0
      · refine lv_lload hx hb dX12_spelled_72 (lv_at hl 0 rfl) ?_
        refine lv_ldc2 (v := 32) hx hb E.2.2.2.1 (E.2.2.2.2.1 _ w_1506) dX12_spelled_74 ?_
        refine lv_lmul hx hb dX12_spelled_77 (lv_topl (fun v35 ev35 => ?_))
        have ev35i : v35.toInt = (((((a0 - 96) * 32) + a1) - 96) * 32) := l_mul ev35 ev26i (show (32 : Int64).toInt = 32 from by decide) (by omega) (by omega)
        refine lv_iload hx hb dX12_spelled_78 (lv_at hl 5 rfl) ?_
        refine lv_i2l (v := p4.toInt64) hx hb dX12_spelled_80 rfl (lv_topl (fun v36 ev36 => ?_))
        have ev36i : v36.toInt = a4 := l_ofi ev36.symm e4
        refine lv_ladd hx hb dX12_spelled_81 (lv_topl (fun v37 ev37 => ?_))
        have ev37i : v37.toInt = ((((((a0 - 96) * 32) + a1) - 96) * 32) + a4) := l_add ev37 ev35i ev36i (by omega) (by omega)
        refine lv_ldc2 (v := 96) hx hb E.2.2.2.1 (E.2.2.2.2.1 _ w_1507) dX12_spelled_82 ?_
        refine lv_lsub hx hb dX12_spelled_85 (lv_topl (fun v38 ev38 => ?_))
        have ev38i : v38.toInt = (((((((a0 - 96) * 32) + a1) - 96) * 32) + a4) - 96) := l_sub ev38 ev37i (show (96 : Int64).toInt = 96 from by decide) (by omega) (by omega)
        refine lv_goto (tgt := 91) hx hb dX12_spelled_86 rfl ?_
        refine lv_lstore hx hb dX12_spelled_91 hl (by decide) rfl (fun ls hl => ?_)
        have hl : lv_has ls 8 [(6, .long v38), (0, .int p0), (1, .int p1), (2, .int p2), (3, .int p3), (4, .int p4), (5, .int p5)] := hl
        refine lv_iload hx hb dX12_spelled_93 (lv_at hl 6 rfl) ?_
        refine q_if_le hx hb (a := a5) e5 (tgt := 115) dX12_spelled_95 rfl (fun c39 => ?_) (fun c39 => ?_)
        · refine lv_lload hx hb dX12_spelled_115 (lv_at hl 0 rfl) ?_
          have hpost : (v38 : Int64).toInt = SPL a0 a1 a2 a3 a4 a5 := by unfold SPL; dsimp only; (first | rw [if_pos (show 0 < a2 by omega)] | rw [if_neg (show ¬ 0 < a2 by omega)]); (first | rw [if_pos (show 0 < a3 by omega)] | rw [if_neg (show ¬ 0 < a3 by omega)]); (first | rw [if_pos (show 0 < a4 by omega)] | rw [if_neg (show ¬ 0 < a4 by omega)]); (first | rw [if_pos (show 0 < a5 by omega)] | rw [if_neg (show ¬ 0 < a5 by omega)]); (first | exact ev38i | omega)
          exact ret v38 H0 [] _ _ dX12_spelled_117 ⟨rfl, hpost⟩ hC0 hS0
        · refine lv_lload hx hb dX12_spelled_98 (lv_at hl 0 rfl) ?_
          refine lv_ldc2 (v := 32) hx hb E.2.2.2.1 (E.2.2.2.2.1 _ w_1506) dX12_spelled_100 ?_
          refine lv_lmul hx hb dX12_spelled_103 (lv_topl (fun v40 ev40 => ?_))
          have ev40i : v40.toInt = ((((((((a0 - 96) * 32) + a1) - 96) * 32) + a4) - 96) * 32) := l_mul ev40 ev38i (show (32 : Int64).toInt = 32 from by decide) (by omega) (by omega)
          refine lv_iload hx hb dX12_spelled_104 (lv_at hl 6 rfl) ?_
          refine lv_i2l (v := p5.toInt64) hx hb dX12_spelled_106 rfl (lv_topl (fun v41 ev41 => ?_))
          have ev41i : v41.toInt = a5 := l_ofi ev41.symm e5
          refine lv_ladd hx hb dX12_spelled_107 (lv_topl (fun v42 ev42 => ?_))
          have ev42i : v42.toInt = (((((((((a0 - 96) * 32) + a1) - 96) * 32) + a4) - 96) * 32) + a5) := l_add ev42 ev40i ev41i (by omega) (by omega)
          refine lv_ldc2 (v := 96) hx hb E.2.2.2.1 (E.2.2.2.2.1 _ w_1507) dX12_spelled_108 ?_
          refine lv_lsub hx hb dX12_spelled_111 (lv_topl (fun v43 ev43 => ?_))
          have ev43i : v43.toInt = ((((((((((a0 - 96) * 32) + a1) - 96) * 32) + a4) - 96) * 32) + a5) - 96) := l_sub ev43 ev42i (show (96 : Int64).toInt = 96 from by decide) (by omega) (by omega)
          refine lv_goto (tgt := 117) hx hb dX12_spelled_112 rfl ?_
          have hpost : (v43 : Int64).toInt = SPL a0 a1 a2 a3 a4 a5 := by unfold SPL; dsimp only; (first | rw [if_pos (show 0 < a2 by omega)] | rw [if_neg (show ¬ 0 < a2 by omega)]); (first | rw [if_pos (show 0 < a3 by omega)] | rw [if_neg (show ¬ 0 < a3 by omega)]); (first | rw [if_pos (show 0 < a4 by omega)] | rw [if_neg (show ¬ 0 < a4 by omega)]); (first | rw [if_pos (show 0 < a5 by omega)] | rw [if_neg (show ¬ 0 < a5 by omega)]); (first | exact ev43i | omega)
          exact ret v43 H0 [] _ _ dX12_spelled_117 ⟨rfl, hpost⟩ hC0 hS0
    · refine lv_lload hx hb dX12_spelled_47 (lv_at hl 0 rfl) ?_
      refine lv_ldc2 (v := 32) hx hb E.2.2.2.1 (E.2.2.2.2.1 _ w_1506) dX12_spelled_49 ?_
      refine lv_lmul hx hb dX12_spelled_52 (lv_topl (fun v44 ev44 => ?_))
      have ev44i : v44.toInt = (((((a0 - 96) * 32) + a1) - 96) * 32) := l_mul ev44 ev26i (show (32 : Int64).toInt = 32 from by decide) (by omega) (by omega)
      refine lv_iload_n hx hb dX12_spelled_53 rfl (lv_at hl 4 rfl) ?_
      refine lv_i2l (v := p3.toInt64) hx hb dX12_spelled_54 rfl (lv_topl (fun v45 ev45 => ?_))
      have ev45i : v45.toInt = a3 := l_ofi ev45.symm e3
      refine lv_ladd hx hb dX12_spelled_55 (lv_topl (fun v46 ev46 => ?_))
      have ev46i : v46.toInt = ((((((a0 - 96) * 32) + a1) - 96) * 32) + a3) := l_add ev46 ev44i ev45i (by omega) (by omega)
      refine lv_ldc2 (v := 96) hx hb E.2.2.2.1 (E.2.2.2.2.1 _ w_1507) dX12_spelled_56 ?_
      refine lv_lsub hx hb dX12_spelled_59 (lv_topl (fun v47 ev47 => ?_))
      have ev47i : v47.toInt = (((((((a0 - 96) * 32) + a1) - 96) * 32) + a3) - 96) := l_sub ev47 ev46i (show (96 : Int64).toInt = 96 from by decide) (by omega) (by omega)
      refine lv_goto (tgt := 65) hx hb dX12_spelled_60 rfl ?_
      refine lv_lstore hx hb dX12_spelled_65 hl (by decide) rfl (fun ls hl => ?_)
      have hl : lv_has ls 8 [(6, .long v47), (0, .int p0), (1, .int p1), (2, .int p2), (3, .int p3), (4, .int p4), (5, .int p5)] := hl
      refine lv_iload hx hb dX12_spelled_67 (lv_at hl 5 rfl) ?_
      refine q_if_le hx hb (a := a4) e4 (tgt := 89) dX12_spelled_69 rfl (fun c48 => ?_) (fun c48 => ?_)
      · refine lv_lload hx hb dX12_spelled_89 (lv_at hl 0 rfl) ?_
        refine lv_lstore hx hb dX12_spelled_91 hl (by decide) rfl (fun ls hl => ?_)
        have hl : lv_has ls 8 [(6, .long v47), (0, .int p0), (1, .int p1), (2, .int p2), (3, .int p3), (4, .int p4), (5, .int p5)] := hl
        refine lv_iload hx hb dX12_spelled_93 (lv_at hl 6 rfl) ?_
        refine q_if_le hx hb (a := a5) e5 (tgt := 115) dX12_spelled_95 rfl (fun c49 => ?_) (fun c49 => ?_)
        · refine lv_lload hx hb dX12_spelled_115 (lv_at hl 0 rfl) ?_
          have hpost : (v47 : Int64).toInt = SPL a0 a1 a2 a3 a4 a5 := by unfold SPL; dsimp only; (first | rw [if_pos (show 0 < a2 by omega)] | rw [if_neg (show ¬ 0 < a2 by omega)]); (first | rw [if_pos (show 0 < a3 by omega)] | rw [if_neg (show ¬ 0 < a3 by omega)]); (first | rw [if_pos (show 0 < a4 by omega)] | rw [if_neg (show ¬ 0 < a4 by omega)]); (first | rw [if_pos (show 0 < a5 by omega)] | rw [if_neg (show ¬ 0 < a5 by omega)]); (first | exact ev47i | omega)
          exact ret v47 H0 [] _ _ dX12_spelled_117 ⟨rfl, hpost⟩ hC0 hS0
        · refine lv_lload hx hb dX12_spelled_98 (lv_at hl 0 rfl) ?_
          refine lv_ldc2 (v := 32) hx hb E.2.2.2.1 (E.2.2.2.2.1 _ w_1506) dX12_spelled_100 ?_
          refine lv_lmul hx hb dX12_spelled_103 (lv_topl (fun v50 ev50 => ?_))
          have ev50i : v50.toInt = ((((((((a0 - 96) * 32) + a1) - 96) * 32) + a3) - 96) * 32) := l_mul ev50 ev47i (show (32 : Int64).toInt = 32 from by decide) (by omega) (by omega)
          refine lv_iload hx hb dX12_spelled_104 (lv_at hl 6 rfl) ?_
          refine lv_i2l (v := p5.toInt64) hx hb dX12_spelled_106 rfl (lv_topl (fun v51 ev51 => ?_))
          have ev51i : v51.toInt = a5 := l_ofi ev51.symm e5
          refine lv_ladd hx hb dX12_spelled_107 (lv_topl (fun v52 ev52 => ?_))
          have ev52i : v52.toInt = (((((((((a0 - 96) * 32) + a1) - 96) * 32) + a3) - 96) * 32) + a5) := l_add ev52 ev50i ev51i (by omega) (by omega)
          refine lv_ldc2 (v := 96) hx hb E.2.2.2.1 (E.2.2.2.2.1 _ w_1507) dX12_spelled_108 ?_
          refine lv_lsub hx hb dX12_spelled_111 (lv_topl (fun v53 ev53 => ?_))
          have ev53i : v53.toInt = ((((((((((a0 - 96) * 32) + a1) - 96) * 32) + a3) - 96) * 32) + a5) - 96) := l_sub ev53 ev52i (show (96 : Int64).toInt = 96 from by decide) (by omega) (by omega)
          refine lv_goto (tgt := 117) hx hb dX12_spelled_112 rfl ?_
          have hpost : (v53 : Int64).toInt = SPL a0 a1 a2 a3 a4 a5 := by unfold SPL; dsimp only; (first | rw [if_pos (show 0 < a2 by omega)] | rw [if_neg (show ¬ 0 < a2 by omega)]); (first | rw [if_pos (show 0 < a3 by omega)] | rw [if_neg (show ¬ 0 < a3 by omega)]); (first | rw [if_pos (show 0 < a4 by omega)] | rw [if_neg (show ¬ 0 < a4 by omega)]); (first | rw [if_pos (show 0 < a5 by omega)] | rw [if_neg (show ¬ 0 < a5 by omega)]); (first | exact ev53i | omega)
          exact ret v53 H0 [] _ _ dX12_spelled_117 ⟨rfl, hpost⟩ hC0 hS0
      · refine lv_lload hx hb dX12_spelled_72 (lv_at hl 0 rfl) ?_
        refine lv_ldc2 (v := 32) hx hb E.2.2.2.1 (E.2.2.2.2.1 _ w_1506) dX12_spelled_74 ?_
        refine lv_lmul hx hb dX12_spelled_77 (lv_topl (fun v54 ev54 => ?_))
        have ev54i : v54.toInt = ((((((((a0 - 96) * 32) + a1) - 96) * 32) + a3) - 96) * 32) := l_mul ev54 ev47i (show (32 : Int64).toInt = 32 from by decide) (by omega) (by omega)
        refine lv_iload hx hb dX12_spelled_78 (lv_at hl 5 rfl) ?_
        refine lv_i2l (v := p4.toInt64) hx hb dX12_spelled_80 rfl (lv_topl (fun v55 ev55 => ?_))
        have ev55i : v55.toInt = a4 := l_ofi ev55.symm e4
        refine lv_ladd hx hb dX12_spelled_81 (lv_topl (fun v56 ev56 => ?_))
        have ev56i : v56.toInt = (((((((((a0 - 96) * 32) + a1) - 96) * 32) + a3) - 96) * 32) + a4) := l_add ev56 ev54i ev55i (by omega) (by omega)
        refine lv_ldc2 (v := 96) hx hb E.2.2.2.1 (E.2.2.2.2.1 _ w_1507) dX12_spelled_82 ?_
        refine lv_lsub hx hb dX12_spelled_85 (lv_topl (fun v57 ev57 => ?_))
        have ev57i : v57.toInt = ((((((((((a0 - 96) * 32) + a1) - 96) * 32) + a3) - 96) * 32) + a4) - 96) := l_sub ev57 ev56i (show (96 : Int64).toInt = 96 from by decide) (by omega) (by omega)
        refine lv_goto (tgt := 91) hx hb dX12_spelled_86 rfl ?_
        refine lv_lstore hx hb dX12_spelled_91 hl (by decide) rfl (fun ls hl => ?_)
        have hl : lv_has ls 8 [(6, .long v57), (0, .int p0), (1, .int p1), (2, .int p2), (3, .int p3), (4, .int p4), (5, .int p5)] := hl
        refine lv_iload hx hb dX12_spelled_93 (lv_at hl 6 rfl) ?_
        refine q_if_le hx hb (a := a5) e5 (tgt := 115) dX12_spelled_95 rfl (fun c58 => ?_) (fun c58 => ?_)
        · refine lv_lload hx hb dX12_spelled_115 (lv_at hl 0 rfl) ?_
          have hpost : (v57 : Int64).toInt = SPL a0 a1 a2 a3 a4 a5 := by unfold SPL; dsimp only; (first | rw [if_pos (show 0 < a2 by omega)] | rw [if_neg (show ¬ 0 < a2 by omega)]); (first | rw [if_pos (show 0 < a3 by omega)] | rw [if_neg (show ¬ 0 < a3 by omega)]); (first | rw [if_pos (show 0 < a4 by omega)] | rw [if_neg (show ¬ 0 < a4 by omega)]); (first | rw [if_pos (show 0 < a5 by omega)] | rw [if_neg (show ¬ 0 < a5 by omega)]); (first | exact ev57i | omega)
          exact ret v57 H0 [] _ _ dX12_spelled_117 ⟨rfl, hpost⟩ hC0 hS0
        · refine lv_lload hx hb dX12_spelled_98 (lv_at hl 0 rfl) ?_
          refine lv_ldc2 (v := 32) hx hb E.2.2.2.1 (E.2.2.2.2.1 _ w_1506) dX12_spelled_100 ?_
          refine lv_lmul hx hb dX12_spelled_103 (lv_topl (fun v59 ev59 => ?_))
          have ev59i : v59.toInt = (((((((((((a0 - 96) * 32) + a1) - 96) * 32) + a3) - 96) * 32) + a4) - 96) * 32) := l_mul ev59 ev57i (show (32 : Int64).toInt = 32 from by decide) (by omega) (by omega)
          refine lv_iload hx hb dX12_spelled_104 (lv_at hl 6 rfl) ?_
          refine lv_i2l (v := p5.toInt64) hx hb dX12_spelled_106 rfl (lv_topl (fun v60 ev60 => ?_))
          have ev60i : v60.toInt = a5 := l_ofi ev60.symm e5
          refine lv_ladd hx hb dX12_spelled_107 (lv_topl (fun v61 ev61 => ?_))
          have ev61i : v61.toInt = ((((((((((((a0 - 96) * 32) + a1) - 96) * 32) + a3) - 96) * 32) + a4) - 96) * 32) + a5) := l_add ev61 ev59i ev60i (by omega) (by omega)
          refine lv_ldc2 (v := 96) hx hb E.2.2.2.1 (E.2.2.2.2.1 _ w_1507) dX12_spelled_108 ?_
          refine lv_lsub hx hb dX12_spelled_111 (lv_topl (fun v62 ev62 => ?_))
          have ev62i : v62.toInt = (((((((((((((a0 - 96) * 32) + a1) - 96) * 32) + a3) - 96) * 32) + a4) - 96) * 32) + a5) - 96) := l_sub ev62 ev61i (show (96 : Int64).toInt = 96 from by decide) (by omega) (by omega)
          refine lv_goto (tgt := 117) hx hb dX12_spelled_112 rfl ?_
          have hpost : (v62 : Int64).toInt = SPL a0 a1 a2 a3 a4 a5 := by unfold SPL; dsimp only; (first | rw [if_pos (show 0 < a2 by omega)] | rw [if_neg (show ¬ 0 < a2 by omega)]); (first | rw [if_pos (show 0 < a3 by omega)] | rw [if_neg (show ¬ 0 < a3 by omega)]); (first | rw [if_pos (show 0 < a4 by omega)] | rw [if_neg (show ¬ 0 < a4 by omega)]); (first | rw [if_pos (show 0 < a5 by omega)] | rw [if_neg (show ¬ 0 < a5 by omega)]); (first | exact ev62i | omega)
          exact ret v62 H0 [] _ _ dX12_spelled_117 ⟨rfl, hpost⟩ hC0 hS0
  · refine lv_lload hx hb dX12_spelled_23 (lv_at hl 0 rfl) ?_
    refine lv_ldc2 (v := 32) hx hb E.2.2.2.1 (E.2.2.2.2.1 _ w_1506) dX12_spelled_25 ?_
    refine lv_lmul hx hb dX12_spelled_28 (lv_topl (fun v63 ev63 => ?_))
    have ev63i : v63.toInt = (((((a0 - 96) * 32) + a1) - 96) * 32) := l_mul ev63 ev26i (show (32 : Int64).toInt = 32 from by decide) (by omega) (by omega)
    refine lv_iload_n hx hb dX12_spelled_29 rfl (lv_at hl 3 rfl) ?_
    refine lv_i2l (v := p2.toInt64) hx hb dX12_spelled_30 rfl (lv_topl (fun v64 ev64 => ?_))
    have ev64i : v64.toInt = a2 := l_ofi ev64.symm e2
    refine lv_ladd hx hb dX12_spelled_31 (lv_topl (fun v65 ev65 => ?_))
    have ev65i : v65.toInt = ((((((a0 - 96) * 32) + a1) - 96) * 32) + a2) := l_add ev65 ev63i ev64i (by omega) (by omega)
    refine lv_ldc2 (v := 96) hx hb E.2.2.2.1 (E.2.2.2.2.1 _ w_1507) dX12_spelled_32 ?_
    refine lv_lsub hx hb dX12_spelled_35 (lv_topl (fun v66 ev66 => ?_))
    have ev66i : v66.toInt = (((((((a0 - 96) * 32) + a1) - 96) * 32) + a2) - 96) := l_sub ev66 ev65i (show (96 : Int64).toInt = 96 from by decide) (by omega) (by omega)
    refine lv_goto (tgt := 41) hx hb dX12_spelled_36 rfl ?_
    refine lv_lstore hx hb dX12_spelled_41 hl (by decide) rfl (fun ls hl => ?_)
    have hl : lv_has ls 8 [(6, .long v66), (0, .int p0), (1, .int p1), (2, .int p2), (3, .int p3), (4, .int p4), (5, .int p5)] := hl
    refine lv_iload_n hx hb dX12_spelled_43 rfl (lv_at hl 4 rfl) ?_
    refine q_if_le hx hb (a := a3) e3 (tgt := 63) dX12_spelled_44 rfl (fun c67 => ?_) (fun c67 => ?_)
    · refine lv_lload hx hb dX12_spelled_63 (lv_at hl 0 rfl) ?_
      refine lv_lstore hx hb dX12_spelled_65 hl (by decide) rfl (fun ls hl => ?_)
      have hl : lv_has ls 8 [(6, .long v66), (0, .int p0), (1, .int p1), (2, .int p2), (3, .int p3), (4, .int p4), (5, .int p5)] := hl
      refine lv_iload hx hb dX12_spelled_67 (lv_at hl 5 rfl) ?_
      refine q_if_le hx hb (a := a4) e4 (tgt := 89) dX12_spelled_69 rfl (fun c68 => ?_) (fun c68 => ?_)
      · refine lv_lload hx hb dX12_spelled_89 (lv_at hl 0 rfl) ?_
        refine lv_lstore hx hb dX12_spelled_91 hl (by decide) rfl (fun ls hl => ?_)
        have hl : lv_has ls 8 [(6, .long v66), (0, .int p0), (1, .int p1), (2, .int p2), (3, .int p3), (4, .int p4), (5, .int p5)] := hl
        refine lv_iload hx hb dX12_spelled_93 (lv_at hl 6 rfl) ?_
        refine q_if_le hx hb (a := a5) e5 (tgt := 115) dX12_spelled_95 rfl (fun c69 => ?_) (fun c69 => ?_)
        · refine lv_lload hx hb dX12_spelled_115 (lv_at hl 0 rfl) ?_
          have hpost : (v66 : Int64).toInt = SPL a0 a1 a2 a3 a4 a5 := by unfold SPL; dsimp only; (first | rw [if_pos (show 0 < a2 by omega)] | rw [if_neg (show ¬ 0 < a2 by omega)]); (first | rw [if_pos (show 0 < a3 by omega)] | rw [if_neg (show ¬ 0 < a3 by omega)]); (first | rw [if_pos (show 0 < a4 by omega)] | rw [if_neg (show ¬ 0 < a4 by omega)]); (first | rw [if_pos (show 0 < a5 by omega)] | rw [if_neg (show ¬ 0 < a5 by omega)]); (first | exact ev66i | omega)
          exact ret v66 H0 [] _ _ dX12_spelled_117 ⟨rfl, hpost⟩ hC0 hS0
        · refine lv_lload hx hb dX12_spelled_98 (lv_at hl 0 rfl) ?_
          refine lv_ldc2 (v := 32) hx hb E.2.2.2.1 (E.2.2.2.2.1 _ w_1506) dX12_spelled_100 ?_
          refine lv_lmul hx hb dX12_spelled_103 (lv_topl (fun v70 ev70 => ?_))
          have ev70i : v70.toInt = ((((((((a0 - 96) * 32) + a1) - 96) * 32) + a2) - 96) * 32) := l_mul ev70 ev66i (show (32 : Int64).toInt = 32 from by decide) (by omega) (by omega)
          refine lv_iload hx hb dX12_spelled_104 (lv_at hl 6 rfl) ?_
          refine lv_i2l (v := p5.toInt64) hx hb dX12_spelled_106 rfl (lv_topl (fun v71 ev71 => ?_))
          have ev71i : v71.toInt = a5 := l_ofi ev71.symm e5
          refine lv_ladd hx hb dX12_spelled_107 (lv_topl (fun v72 ev72 => ?_))
          have ev72i : v72.toInt = (((((((((a0 - 96) * 32) + a1) - 96) * 32) + a2) - 96) * 32) + a5) := l_add ev72 ev70i ev71i (by omega) (by omega)
          refine lv_ldc2 (v := 96) hx hb E.2.2.2.1 (E.2.2.2.2.1 _ w_1507) dX12_spelled_108 ?_
          refine lv_lsub hx hb dX12_spelled_111 (lv_topl (fun v73 ev73 => ?_))
          have ev73i : v73.toInt = ((((((((((a0 - 96) * 32) + a1) - 96) * 32) + a2) - 96) * 32) + a5) - 96) := l_sub ev73 ev72i (show (96 : Int64).toInt = 96 from by decide) (by omega) (by omega)
          refine lv_goto (tgt := 117) hx hb dX12_spelled_112 rfl ?_
          have hpost : (v73 : Int64).toInt = SPL a0 a1 a2 a3 a4 a5 := by unfold SPL; dsimp only; (first | rw [if_pos (show 0 < a2 by omega)] | rw [if_neg (show ¬ 0 < a2 by omega)]); (first | rw [if_pos (show 0 < a3 by omega)] | rw [if_neg (show ¬ 0 < a3 by omega)]); (first | rw [if_pos (show 0 < a4 by omega)] | rw [if_neg (show ¬ 0 < a4 by omega)]); (first | rw [if_pos (show 0 < a5 by omega)] | rw [if_neg (show ¬ 0 < a5 by omega)]); (first | exact ev73i | omega)
          exact ret v73 H0 [] _ _ dX12_spelled_117 ⟨rfl, hpost⟩ hC0 hS0
      · refine lv_lload hx hb dX12_spelled_72 (lv_at hl 0 rfl) ?_
        refine lv_ldc2 (v := 32) hx hb E.2.2.2.1 (E.2.2.2.2.1 _ w_1506) dX12_spelled_74 ?_
        refine lv_lmul hx hb dX12_spelled_77 (lv_topl (fun v74 ev74 => ?_))
        have ev74i : v74.toInt = ((((((((a0 - 96) * 32) + a1) - 96) * 32) + a2) - 96) * 32) := l_mul ev74 ev66i (show (32 : Int64).toInt = 32 from by decide) (by omega) (by omega)
        refine lv_iload hx hb dX12_spelled_78 (lv_at hl 5 rfl) ?_
        refine lv_i2l (v := p4.toInt64) hx hb dX12_spelled_80 rfl (lv_topl (fun v75 ev75 => ?_))
        have ev75i : v75.toInt = a4 := l_ofi ev75.symm e4
        refine lv_ladd hx hb dX12_spelled_81 (lv_topl (fun v76 ev76 => ?_))
        have ev76i : v76.toInt = (((((((((a0 - 96) * 32) + a1) - 96) * 32) + a2) - 96) * 32) + a4) := l_add ev76 ev74i ev75i (by omega) (by omega)
        refine lv_ldc2 (v := 96) hx hb E.2.2.2.1 (E.2.2.2.2.1 _ w_1507) dX12_spelled_82 ?_
        refine lv_lsub hx hb dX12_spelled_85 (lv_topl (fun v77 ev77 => ?_))
        have ev77i : v77.toInt = ((((((((((a0 - 96) * 32) + a1) - 96) * 32) + a2) - 96) * 32) + a4) - 96) := l_sub ev77 ev76i (show (96 : Int64).toInt = 96 from by decide) (by omega) (by omega)
        refine lv_goto (tgt := 91) hx hb dX12_spelled_86 rfl ?_
        refine lv_lstore hx hb dX12_spelled_91 hl (by decide) rfl (fun ls hl => ?_)
        have hl : lv_has ls 8 [(6, .long v77), (0, .int p0), (1, .int p1), (2, .int p2), (3, .int p3), (4, .int p4), (5, .int p5)] := hl
        refine lv_iload hx hb dX12_spelled_93 (lv_at hl 6 rfl) ?_
        refine q_if_le hx hb (a := a5) e5 (tgt := 115) dX12_spelled_95 rfl (fun c78 => ?_) (fun c78 => ?_)
        · refine lv_lload hx hb dX12_spelled_115 (lv_at hl 0 rfl) ?_
          have hpost : (v77 : Int64).toInt = SPL a0 a1 a2 a3 a4 a5 := by unfold SPL; dsimp only; (first | rw [if_pos (show 0 < a2 by omega)] | rw [if_neg (show ¬ 0 < a2 by omega)]); (first | rw [if_pos (show 0 < a3 by omega)] | rw [if_neg (show ¬ 0 < a3 by omega)]); (first | rw [if_pos (show 0 < a4 by omega)] | rw [if_neg (show ¬ 0 < a4 by omega)]); (first | rw [if_pos (show 0 < a5 by omega)] | rw [if_neg (show ¬ 0 < a5 by omega)]); (first | exact ev77i | omega)
          exact ret v77 H0 [] _ _ dX12_spelled_117 ⟨rfl, hpost⟩ hC0 hS0
        · refine lv_lload hx hb dX12_spelled_98 (lv_at hl 0 rfl) ?_
          refine lv_ldc2 (v := 32) hx hb E.2.2.2.1 (E.2.2.2.2.1 _ w_1506) dX12_spelled_100 ?_
          refine lv_lmul hx hb dX12_spelled_103 (lv_topl (fun v79 ev79 => ?_))
          have ev79i : v79.toInt = (((((((((((a0 - 96) * 32) + a1) - 96) * 32) + a2) - 96) * 32) + a4) - 96) * 32) := l_mul ev79 ev77i (show (32 : Int64).toInt = 32 from by decide) (by omega) (by omega)
          refine lv_iload hx hb dX12_spelled_104 (lv_at hl 6 rfl) ?_
          refine lv_i2l (v := p5.toInt64) hx hb dX12_spelled_106 rfl (lv_topl (fun v80 ev80 => ?_))
          have ev80i : v80.toInt = a5 := l_ofi ev80.symm e5
          refine lv_ladd hx hb dX12_spelled_107 (lv_topl (fun v81 ev81 => ?_))
          have ev81i : v81.toInt = ((((((((((((a0 - 96) * 32) + a1) - 96) * 32) + a2) - 96) * 32) + a4) - 96) * 32) + a5) := l_add ev81 ev79i ev80i (by omega) (by omega)
          refine lv_ldc2 (v := 96) hx hb E.2.2.2.1 (E.2.2.2.2.1 _ w_1507) dX12_spelled_108 ?_
          refine lv_lsub hx hb dX12_spelled_111 (lv_topl (fun v82 ev82 => ?_))
          have ev82i : v82.toInt = (((((((((((((a0 - 96) * 32) + a1) - 96) * 32) + a2) - 96) * 32) + a4) - 96) * 32) + a5) - 96) := l_sub ev82 ev81i (show (96 : Int64).toInt = 96 from by decide) (by omega) (by omega)
          refine lv_goto (tgt := 117) hx hb dX12_spelled_112 rfl ?_
          have hpost : (v82 : Int64).toInt = SPL a0 a1 a2 a3 a4 a5 := by unfold SPL; dsimp only; (first | rw [if_pos (show 0 < a2 by omega)] | rw [if_neg (show ¬ 0 < a2 by omega)]); (first | rw [if_pos (show 0 < a3 by omega)] | rw [if_neg (show ¬ 0 < a3 by omega)]); (first | rw [if_pos (show 0 < a4 by omega)] | rw [if_neg (show ¬ 0 < a4 by omega)]); (first | rw [if_pos (show 0 < a5 by omega)] | rw [if_neg (show ¬ 0 < a5 by omega)]); (first | exact ev82i | omega)
          exact ret v82 H0 [] _ _ dX12_spelled_117 ⟨rfl, hpost⟩ hC0 hS0
    · refine lv_lload hx hb dX12_spelled_47 (lv_at hl 0 rfl) ?_
      refine lv_ldc2 (v := 32) hx hb E.2.2.2.1 (E.2.2.2.2.1 _ w_1506) dX12_spelled_49 ?_
      refine lv_lmul hx hb dX12_spelled_52 (lv_topl (fun v83 ev83 => ?_))
      have ev83i : v83.toInt = ((((((((a0 - 96) * 32) + a1) - 96) * 32) + a2) - 96) * 32) := l_mul ev83 ev66i (show (32 : Int64).toInt = 32 from by decide) (by omega) (by omega)
      refine lv_iload_n hx hb dX12_spelled_53 rfl (lv_at hl 4 rfl) ?_
      refine lv_i2l (v := p3.toInt64) hx hb dX12_spelled_54 rfl (lv_topl (fun v84 ev84 => ?_))
      have ev84i : v84.toInt = a3 := l_ofi ev84.symm e3
      refine lv_ladd hx hb dX12_spelled_55 (lv_topl (fun v85 ev85 => ?_))
      have ev85i : v85.toInt = (((((((((a0 - 96) * 32) + a1) - 96) * 32) + a2) - 96) * 32) + a3) := l_add ev85 ev83i ev84i (by omega) (by omega)
      refine lv_ldc2 (v := 96) hx hb E.2.2.2.1 (E.2.2.2.2.1 _ w_1507) dX12_spelled_56 ?_
      refine lv_lsub hx hb dX12_spelled_59 (lv_topl (fun v86 ev86 => ?_))
      have ev86i : v86.toInt = ((((((((((a0 - 96) * 32) + a1) - 96) * 32) + a2) - 96) * 32) + a3) - 96) := l_sub ev86 ev85i (show (96 : Int64).toInt = 96 from by decide) (by omega) (by omega)
      refine lv_goto (tgt := 65) hx hb dX12_spelled_60 rfl ?_
      refine lv_lstore hx hb dX12_spelled_65 hl (by decide) rfl (fun ls hl => ?_)
      have hl : lv_has ls 8 [(6, .long v86), (0, .int p0), (1, .int p1), (2, .int p2), (3, .int p3), (4, .int p4), (5, .int p5)] := hl
      refine lv_iload hx hb dX12_spelled_67 (lv_at hl 5 rfl) ?_
      refine q_if_le hx hb (a := a4) e4 (tgt := 89) dX12_spelled_69 rfl (fun c87 => ?_) (fun c87 => ?_)
      · refine lv_lload hx hb dX12_spelled_89 (lv_at hl 0 rfl) ?_
        refine lv_lstore hx hb dX12_spelled_91 hl (by decide) rfl (fun ls hl => ?_)
        have hl : lv_has ls 8 [(6, .long v86), (0, .int p0), (1, .int p1), (2, .int p2), (3, .int p3), (4, .int p4), (5, .int p5)] := hl
        refine lv_iload hx hb dX12_spelled_93 (lv_at hl 6 rfl) ?_
        refine q_if_le hx hb (a := a5) e5 (tgt := 115) dX12_spelled_95 rfl (fun c88 => ?_) (fun c88 => ?_)
        · refine lv_lload hx hb dX12_spelled_115 (lv_at hl 0 rfl) ?_
          have hpost : (v86 : Int64).toInt = SPL a0 a1 a2 a3 a4 a5 := by unfold SPL; dsimp only; (first | rw [if_pos (show 0 < a2 by omega)] | rw [if_neg (show ¬ 0 < a2 by omega)]); (first | rw [if_pos (show 0 < a3 by omega)] | rw [if_neg (show ¬ 0 < a3 by omega)]); (first | rw [if_pos (show 0 < a4 by omega)] | rw [if_neg (show ¬ 0 < a4 by omega)]); (first | rw [if_pos (show 0 < a5 by omega)] | rw [if_neg (show ¬ 0 < a5 by omega)]); (first | exact ev86i | omega)
          exact ret v86 H0 [] _ _ dX12_spelled_117 ⟨rfl, hpost⟩ hC0 hS0
        · refine lv_lload hx hb dX12_spelled_98 (lv_at hl 0 rfl) ?_
          refine lv_ldc2 (v := 32) hx hb E.2.2.2.1 (E.2.2.2.2.1 _ w_1506) dX12_spelled_100 ?_
          refine lv_lmul hx hb dX12_spelled_103 (lv_topl (fun v89 ev89 => ?_))
          have ev89i : v89.toInt = (((((((((((a0 - 96) * 32) + a1) - 96) * 32) + a2) - 96) * 32) + a3) - 96) * 32) := l_mul ev89 ev86i (show (32 : Int64).toInt = 32 from by decide) (by omega) (by omega)
          refine lv_iload hx hb dX12_spelled_104 (lv_at hl 6 rfl) ?_
          refine lv_i2l (v := p5.toInt64) hx hb dX12_spelled_106 rfl (lv_topl (fun v90 ev90 => ?_))
          have ev90i : v90.toInt = a5 := l_ofi ev90.symm e5
          refine lv_ladd hx hb dX12_spelled_107 (lv_topl (fun v91 ev91 => ?_))
          have ev91i : v91.toInt = ((((((((((((a0 - 96) * 32) + a1) - 96) * 32) + a2) - 96) * 32) + a3) - 96) * 32) + a5) := l_add ev91 ev89i ev90i (by omega) (by omega)
          refine lv_ldc2 (v := 96) hx hb E.2.2.2.1 (E.2.2.2.2.1 _ w_1507) dX12_spelled_108 ?_
          refine lv_lsub hx hb dX12_spelled_111 (lv_topl (fun v92 ev92 => ?_))
          have ev92i : v92.toInt = (((((((((((((a0 - 96) * 32) + a1) - 96) * 32) + a2) - 96) * 32) + a3) - 96) * 32) + a5) - 96) := l_sub ev92 ev91i (show (96 : Int64).toInt = 96 from by decide) (by omega) (by omega)
          refine lv_goto (tgt := 117) hx hb dX12_spelled_112 rfl ?_
          have hpost : (v92 : Int64).toInt = SPL a0 a1 a2 a3 a4 a5 := by unfold SPL; dsimp only; (first | rw [if_pos (show 0 < a2 by omega)] | rw [if_neg (show ¬ 0 < a2 by omega)]); (first | rw [if_pos (show 0 < a3 by omega)] | rw [if_neg (show ¬ 0 < a3 by omega)]); (first | rw [if_pos (show 0 < a4 by omega)] | rw [if_neg (show ¬ 0 < a4 by omega)]); (first | rw [if_pos (show 0 < a5 by omega)] | rw [if_neg (show ¬ 0 < a5 by omega)]); (first | exact ev92i | omega)
          exact ret v92 H0 [] _ _ dX12_spelled_117 ⟨rfl, hpost⟩ hC0 hS0
      · refine lv_lload hx hb dX12_spelled_72 (lv_at hl 0 rfl) ?_
        refine lv_ldc2 (v := 32) hx hb E.2.2.2.1 (E.2.2.2.2.1 _ w_1506) dX12_spelled_74 ?_
        refine lv_lmul hx hb dX12_spelled_77 (lv_topl (fun v93 ev93 => ?_))
        have ev93i : v93.toInt = (((((((((((a0 - 96) * 32) + a1) - 96) * 32) + a2) - 96) * 32) + a3) - 96) * 32) := l_mul ev93 ev86i (show (32 : Int64).toInt = 32 from by decide) (by omega) (by omega)
        refine lv_iload hx hb dX12_spelled_78 (lv_at hl 5 rfl) ?_
        refine lv_i2l (v := p4.toInt64) hx hb dX12_spelled_80 rfl (lv_topl (fun v94 ev94 => ?_))
        have ev94i : v94.toInt = a4 := l_ofi ev94.symm e4
        refine lv_ladd hx hb dX12_spelled_81 (lv_topl (fun v95 ev95 => ?_))
        have ev95i : v95.toInt = ((((((((((((a0 - 96) * 32) + a1) - 96) * 32) + a2) - 96) * 32) + a3) - 96) * 32) + a4) := l_add ev95 ev93i ev94i (by omega) (by omega)
        refine lv_ldc2 (v := 96) hx hb E.2.2.2.1 (E.2.2.2.2.1 _ w_1507) dX12_spelled_82 ?_
        refine lv_lsub hx hb dX12_spelled_85 (lv_topl (fun v96 ev96 => ?_))
        have ev96i : v96.toInt = (((((((((((((a0 - 96) * 32) + a1) - 96) * 32) + a2) - 96) * 32) + a3) - 96) * 32) + a4) - 96) := l_sub ev96 ev95i (show (96 : Int64).toInt = 96 from by decide) (by omega) (by omega)
        refine lv_goto (tgt := 91) hx hb dX12_spelled_86 rfl ?_
        refine lv_lstore hx hb dX12_spelled_91 hl (by decide) rfl (fun ls hl => ?_)
        have hl : lv_has ls 8 [(6, .long v96), (0, .int p0), (1, .int p1), (2, .int p2), (3, .int p3), (4, .int p4), (5, .int p5)] := hl
        refine lv_iload hx hb dX12_spelled_93 (lv_at hl 6 rfl) ?_
        refine q_if_le hx hb (a := a5) e5 (tgt := 115) dX12_spelled_95 rfl (fun c97 => ?_) (fun c97 => ?_)
        · refine lv_lload hx hb dX12_spelled_115 (lv_at hl 0 rfl) ?_
          have hpost : (v96 : Int64).toInt = SPL a0 a1 a2 a3 a4 a5 := by unfold SPL; dsimp only; (first | rw [if_pos (show 0 < a2 by omega)] | rw [if_neg (show ¬ 0 < a2 by omega)]); (first | rw [if_pos (show 0 < a3 by omega)] | rw [if_neg (show ¬ 0 < a3 by omega)]); (first | rw [if_pos (show 0 < a4 by omega)] | rw [if_neg (show ¬ 0 < a4 by omega)]); (first | rw [if_pos (show 0 < a5 by omega)] | rw [if_neg (show ¬ 0 < a5 by omega)]); (first | exact ev96i | omega)
          exact ret v96 H0 [] _ _ dX12_spelled_117 ⟨rfl, hpost⟩ hC0 hS0
        · refine lv_lload hx hb dX12_spelled_98 (lv_at hl 0 rfl) ?_
          refine lv_ldc2 (v := 32) hx hb E.2.2.2.1 (E.2.2.2.2.1 _ w_1506) dX12_spelled_100 ?_
          refine lv_lmul hx hb dX12_spelled_103 (lv_topl (fun v98 ev98 => ?_))
          have ev98i : v98.toInt = ((((((((((((((a0 - 96) * 32) + a1) - 96) * 32) + a2) - 96) * 32) + a3) - 96) * 32) + a4) - 96) * 32) := l_mul ev98 ev96i (show (32 : Int64).toInt = 32 from by decide) (by omega) (by omega)
          refine lv_iload hx hb dX12_spelled_104 (lv_at hl 6 rfl) ?_
          refine lv_i2l (v := p5.toInt64) hx hb dX12_spelled_106 rfl (lv_topl (fun v99 ev99 => ?_))
          have ev99i : v99.toInt = a5 := l_ofi ev99.symm e5
          refine lv_ladd hx hb dX12_spelled_107 (lv_topl (fun v100 ev100 => ?_))
          have ev100i : v100.toInt = (((((((((((((((a0 - 96) * 32) + a1) - 96) * 32) + a2) - 96) * 32) + a3) - 96) * 32) + a4) - 96) * 32) + a5) := l_add ev100 ev98i ev99i (by omega) (by omega)
          refine lv_ldc2 (v := 96) hx hb E.2.2.2.1 (E.2.2.2.2.1 _ w_1507) dX12_spelled_108 ?_
          refine lv_lsub hx hb dX12_spelled_111 (lv_topl (fun v101 ev101 => ?_))
          have ev101i : v101.toInt = ((((((((((((((((a0 - 96) * 32) + a1) - 96) * 32) + a2) - 96) * 32) + a3) - 96) * 32) + a4) - 96) * 32) + a5) - 96) := l_sub ev101 ev100i (show (96 : Int64).toInt = 96 from by decide) (by omega) (by omega)
          refine lv_goto (tgt := 117) hx hb dX12_spelled_112 rfl ?_
          have hpost : (v101 : Int64).toInt = SPL a0 a1 a2 a3 a4 a5 := by unfold SPL; dsimp only; (first | rw [if_pos (show 0 < a2 by omega)] | rw [if_neg (show ¬ 0 < a2 by omega)]); (first | rw [if_pos (show 0 < a3 by omega)] | rw [if_neg (show ¬ 0 < a3 by omega)]); (first | rw [if_pos (show 0 < a4 by omega)] | rw [if_neg (show ¬ 0 < a4 by omega)]); (first | rw [if_pos (show 0 < a5 by omega)] | rw [if_neg (show ¬ 0 < a5 by omega)]); (first | exact ev101i | omega)
          exact ret v101 H0 [] _ _ dX12_spelled_117 ⟨rfl, hpost⟩ hC0 hS0
set_option maxRecDepth 100000 in
set_option maxHeartbeats 4000000 in
theorem m_X12_isWord (l : Launch) (X : xW) (Γ : Nat → Option Nat) (H0 : Heap) (hC0 : Conf X Γ H0) (h0 : Nat) (g0 : Γ h0 = some 11) (p1 : Int64) {a1 : Int} (e1 : p1.toInt = a1) (ca : Nat) (gca : Γ ca = some 64) (uc : ∀ a, Γ a = some 64 → a = ca) : Ctr l X Γ yX12_isWord cX12_isWord 3 (some .boolean) 0 [.ref h0, .long p1] H0 (QI X Γ (fun v H1 => H1 = H0 ∧ ((v = 1 ∧ (WDM X H0 h0 a1)) ∨ (v = 0 ∧ (¬ WDM X H0 h0 a1))))) := by
  refine q_enterZ (own := "SnowFortsModel") (by decide) rfl (Nat.le_of_ble_eq_true rfl) ?_
  intro p e s m args below meth c ls Qz E hl ret hS0
  have hx := E.1; have hb := E.2.1
  have hl : lv_has ls 3 [(0, .ref h0), (1, .long p1)] := hl
  refine lv_aload_n hx hb dX12_isWord_0 rfl (lv_at hl 0 rfl) ?_
  refine q_getI E hC0 g0 fa_RX12_120 dX12_isWord_1 (fun v21 ev21 _ _ => ?_)
  have m22 : (sI H0 h0 (X.1.2 11 14)).toInt = v21.toInt := (congrArg Int32.toInt ev21).trans rfl
  refine lv_iconst (v := 1) hx hb dX12_isWord_4 rfl ?_
  refine q_icmp_ne hx hb (a := v21.toInt) (b := 1) rfl (by decide) (tgt := 21) dX12_isWord_5 rfl (fun c23 => ?_) (fun c23 => ?_)
  · refine lv_iconst (v := 0) hx hb dX12_isWord_21 rfl ?_
    exact ret 0 H0 [] _ _ dX12_isWord_22 (Or.inl rfl) ⟨rfl, Or.inr ⟨rfl, (fun q => by have q1 := q.1; have q2 := q.2; omega)⟩⟩ hC0 hS0
  · refine lv_aload_n hx hb dX12_isWord_8 rfl (lv_at hl 0 rfl) ?_
    refine q_getJ E hC0 g0 fa_RX12_126 dX12_isWord_9 (fun v24 ev24 => ?_)
    have hwq : (sJ H0 h0 (X.1.2 11 19)).toInt = v24.toInt := by rw [← ev24]
    refine lv_lload_n hx hb dX12_isWord_12 rfl (lv_at hl 1 rfl) ?_
    refine q_lcmp_ne hx hb (a := v24.toInt) (b := a1) rfl e1 (tgt := 21) dX12_isWord_13 dX12_isWord_14 rfl (fun c25 => ?_) (fun c25 => ?_)
    · refine lv_iconst (v := 0) hx hb dX12_isWord_21 rfl ?_
      exact ret 0 H0 [] _ _ dX12_isWord_22 (Or.inl rfl) ⟨rfl, Or.inr ⟨rfl, (fun q => by have q1 := q.1; have q2 := q.2; omega)⟩⟩ hC0 hS0
    · refine lv_iconst (v := 1) hx hb dX12_isWord_17 rfl ?_
      refine lv_goto (tgt := 22) hx hb dX12_isWord_18 rfl ?_
      exact ret 1 H0 [] _ _ dX12_isWord_22 (Or.inr rfl) ⟨rfl, Or.inl ⟨rfl, ⟨by omega, by omega⟩⟩⟩ hC0 hS0
set_option maxRecDepth 100000 in
set_option maxHeartbeats 4000000 in
theorem m_X12_isWide (l : Launch) (X : xW) (Γ : Nat → Option Nat) (H0 : Heap) (hC0 : Conf X Γ H0) (h0 : Nat) (g0 : Γ h0 = some 11) (ca : Nat) (gca : Γ ca = some 64) (uc : ∀ a, Γ a = some 64 → a = ca) : Ctr l X Γ yX12_isWide cX12_isWide 1 (some .boolean) 1 [.ref h0] H0 (QI X Γ (fun v H1 => H1 = H0 ∧ ((v = 1 ∧ (WDM X H0 h0 (k3 0))) ∨ (v = 0 ∧ (¬ WDM X H0 h0 (k3 0)))))) := by
  refine q_enterZ (own := "SnowFortsModel") (by decide) rfl (Nat.le_of_ble_eq_true rfl) ?_
  intro p e s m args below meth c ls Qz E hl ret hS0
  have hx := E.1; have hb := E.2.1
  have hl : lv_has ls 1 [(0, .ref h0)] := hl
  refine lv_aload_n hx hb dX12_isWide_0 rfl (lv_at hl 0 rfl) ?_
  refine lv_bipush (v := 119) hx hb dX12_isWide_1 rfl ?_
  refine lv_bipush (v := 105) hx hb dX12_isWide_3 rfl ?_
  refine lv_bipush (v := 100) hx hb dX12_isWide_5 rfl ?_
  refine lv_bipush (v := 101) hx hb dX12_isWide_7 rfl ?_
  refine lv_iconst (v := 0) hx hb dX12_isWide_9 rfl ?_
  refine lv_iconst (v := 0) hx hb dX12_isWide_10 rfl ?_
  refine q_goJp (q_runS (As := [.int 119, .int 105, .int 100, .int 101, .int 0, .int 0]) (rest := [.ref h0]) E hS0 (m_X12_spelled l X Γ H0 hC0 119 (a0 := 119) (by decide) 105 (a1 := 105) (by decide) 100 (a2 := 100) (by decide) 101 (a3 := 101) (by decide) 0 (a4 := 0) (by decide) 0 (a5 := 0) (by decide) (by omega) (by omega) (by omega) (by omega) (by omega) (by omega) (by omega) (by omega) (by omega) (by omega) (by omega) (by omega)) cw_X12_spelled cl_RX12_145 rfl hl.1 rfl (show _ ≤ _ from by simp [Value.category]) (by decide) dX12_isWide_11) hS0 (fun v21 locs21 hr21 hS21 => ?_)
  have f21_0 := hr21
  have hsp : v21.toInt = k3 0 := f21_0.trans (by decide +kernel)
  refine q_goIp (q_runV (As := [.long v21]) (rest := []) E hC0 hS21 (m_X12_isWord l X Γ H0 hC0 h0 g0 v21 (a1 := v21.toInt) rfl ca gca uc) cw_X12_isWord cl_RX12_149 g0 ⟨rfl, rfl⟩ rfl hl.1 rfl (Nat.zero_le _) (by decide) dX12_isWide_14) hS21 (fun v22 locs22 hr22 hS22 => ?_)
  rcases hr22 with ⟨rfl, hw⟩ | ⟨rfl, hw⟩
  · have hw0 := hsp ▸ hw
    exact ret 1 H0 locs22 _ _ dX12_isWide_17 (Or.inr rfl) ⟨rfl, Or.inl ⟨rfl, (hsp ▸ hw)⟩⟩ hC0 hS22
  · have hw0 := hsp ▸ hw
    exact ret 0 H0 locs22 _ _ dX12_isWide_17 (Or.inl rfl) ⟨rfl, Or.inr ⟨rfl, (hsp ▸ hw)⟩⟩ hC0 hS22
set_option maxRecDepth 100000 in
set_option maxHeartbeats 4000000 in
theorem m_X12_fail (l : Launch) (X : xW) (Γ : Nat → Option Nat) (H0 : Heap) (hC0 : Conf X Γ H0) (h0 : Nat) (g0 : Γ h0 = some 11) (p1 : Int32) {a1 : Int} (e1 : p1.toInt = a1) (p2 : Int32) {a2 : Int} (e2 : p2.toInt = a2) (ca : Nat) (gca : Γ ca = some 64) (uc : ∀ a, Γ a = some 64 → a = ca) (r0 : 1 ≤ a1) (r1 : a1 ≤ 7) : Ctr l X Γ yX12_fail cX12_fail 3 none 0 [.ref h0, .int p1, .int p2] H0 (QV X Γ (fun H1 => Kp X Γ [1, 6, 7, 8, 9, 10, 11, 12, 14, 15, 16, 17, 19, 22, 24, 26, 28, 30, 35, 38] H0 H1 ∧ ((1 ≤ (sI H1 h0 (X.1.2 11 12)).toInt) ∧ ((sI H0 h0 (X.1.2 11 12)).toInt ≤ 7 * (sI H1 h0 (X.1.2 11 12)).toInt) ∧ ((sI H1 h0 (X.1.2 11 14)).toInt = (sI H0 h0 (X.1.2 11 14)).toInt) ∧ ((sI H1 h0 (X.1.2 11 16)).toInt = (sI H0 h0 (X.1.2 11 16)).toInt)))) := by
  refine q_enterV (own := "SnowFortsModel") (by decide) rfl (Nat.le_of_ble_eq_true rfl) ?_
  intro p e s m args below meth c ls Qz E hl ret hS0
  have hx := E.1; have hb := E.2.1
  have hKp0 : Kp X Γ [1, 6, 7, 8, 9, 10, 11, 12, 14, 15, 16, 17, 19, 22, 24, 26, 28, 30, 35, 38] H0 H0 := Kp.rf
  have hl : lv_has ls 3 [(0, .ref h0), (1, .int p1), (2, .int p2)] := hl
  have hz1 := f_bd hC0 g0 (ci := 11) (k := 16) rfl rfl
  have hz2 := f_bd hC0 g0 (ci := 11) (k := 12) rfl rfl
  refine lv_aload_n hx hb dX12_fail_0 rfl (lv_at hl 0 rfl) ?_
  refine q_getI E hC0 g0 fa_RX12_218 dX12_fail_1 (fun v21 ev21 lv21 uv21 => ?_)
  have m22 : (sI H0 h0 (X.1.2 11 12)).toInt = v21.toInt := (congrArg Int32.toInt ev21).trans rfl
  refine q_if_le hx hb (a := v21.toInt) rfl (tgt := 8) dX12_fail_4 rfl (fun c23 => ?_) (fun c23 => ?_)
  · refine lv_aload_n hx hb dX12_fail_8 rfl (lv_at hl 0 rfl) ?_
    refine lv_iload_n hx hb dX12_fail_9 rfl (lv_at hl 1 rfl) ?_
    refine q_put E hC0 hS0 g0 fp_RX12_218 (tv_I e1 (by omega) (by omega)) rfl rfl dX12_fail_10 (fun H24 locs24 hC24 hS24 U24 => ?_)
    have hKp24 := Kp.upO E g0 fp_RX12_218 rfl U24 hKp0
    have e25 := up_I U24
    have m26 : (sI H24 h0 (X.1.2 11 12)).toInt = a1 := (congrArg Int32.toInt e25).trans e1
    have m27 : (sI H24 h0 (X.1.2 11 14)).toInt = (sI H0 h0 (X.1.2 11 14)).toInt := congrArg Int32.toInt (up_nI U24 (ne_f E 11 14 12 rfl (by decide) (by decide) (by decide)))
    have m28 := congrArg tk m27
    have m29 : (sI H24 h0 (X.1.2 11 16)).toInt = (sI H0 h0 (X.1.2 11 16)).toInt := congrArg Int32.toInt (up_nI U24 (ne_f E 11 16 12 rfl (by decide) (by decide) (by decide)))
    refine lv_aload_n hx hb dX12_fail_13 rfl (lv_at hl 0 rfl) ?_
    refine lv_iload_n hx hb dX12_fail_14 rfl (lv_at hl 2 rfl) ?_
    refine q_put E hC24 hS24 g0 fp_RX12_221 tv_F rfl rfl dX12_fail_15 (fun H30 locs30 hC30 hS30 U30 => ?_)
    have hKp30 := Kp.upO E g0 fp_RX12_221 rfl U30 hKp24
    have e31 := up_I U30
    have m32 : (sI H30 h0 (X.1.2 11 12)).toInt = (sI H24 h0 (X.1.2 11 12)).toInt := congrArg Int32.toInt (up_nI U30 (ne_f E 11 12 13 rfl (by decide) (by decide) (by decide)))
    have m33 : (sI H30 h0 (X.1.2 11 14)).toInt = (sI H24 h0 (X.1.2 11 14)).toInt := congrArg Int32.toInt (up_nI U30 (ne_f E 11 14 13 rfl (by decide) (by decide) (by decide)))
    have m34 := congrArg tk m33
    have m35 : (sI H30 h0 (X.1.2 11 16)).toInt = (sI H24 h0 (X.1.2 11 16)).toInt := congrArg Int32.toInt (up_nI U30 (ne_f E 11 16 13 rfl (by decide) (by decide) (by decide)))
    exact ret H30 locs30 _ _ dX12_fail_18 ⟨hKp30, ⟨by omega, by omega, by omega, by omega⟩⟩ hC30 hS30
  · exact ret H0 [] _ _ dX12_fail_7 ⟨hKp0, ⟨by omega, by omega, by omega, by omega⟩⟩ hC0 hS0
set_option maxRecDepth 100000 in
set_option maxHeartbeats 4000000 in
theorem m_X12_wrong (l : Launch) (X : xW) (Γ : Nat → Option Nat) (H0 : Heap) (hC0 : Conf X Γ H0) (h0 : Nat) (g0 : Γ h0 = some 11) (ca : Nat) (gca : Γ ca = some 64) (uc : ∀ a, Γ a = some 64 → a = ca) : Ctr l X Γ yX12_wrong cX12_wrong 1 none 1 [.ref h0] H0 (QV X Γ (fun H1 => Kp X Γ [1, 6, 7, 8, 9, 10, 11, 12, 14, 15, 16, 17, 19, 22, 24, 26, 28, 30, 35, 38] H0 H1 ∧ ((1 ≤ (sI H1 h0 (X.1.2 11 12)).toInt) ∧ ((sI H0 h0 (X.1.2 11 12)).toInt ≤ 7 * (sI H1 h0 (X.1.2 11 12)).toInt) ∧ ((sI H1 h0 (X.1.2 11 14)).toInt = (sI H0 h0 (X.1.2 11 14)).toInt) ∧ ((sI H1 h0 (X.1.2 11 16)).toInt = (sI H0 h0 (X.1.2 11 16)).toInt)))) := by
  refine q_enterV (own := "SnowFortsModel") (by decide) rfl (Nat.le_of_ble_eq_true rfl) ?_
  intro p e s m args below meth c ls Qz E hl ret hS0
  have hx := E.1; have hb := E.2.1
  have hKp0 : Kp X Γ [1, 6, 7, 8, 9, 10, 11, 12, 14, 15, 16, 17, 19, 22, 24, 26, 28, 30, 35, 38] H0 H0 := Kp.rf
  have hl : lv_has ls 1 [(0, .ref h0)] := hl
  have hz1 := f_bd hC0 g0 (ci := 11) (k := 16) rfl rfl
  have hz2 := f_bd hC0 g0 (ci := 11) (k := 12) rfl rfl
  refine lv_aload_n hx hb dX12_wrong_0 rfl (lv_at hl 0 rfl) ?_
  refine lv_aload_n hx hb dX12_wrong_1 rfl (lv_at hl 0 rfl) ?_
  refine q_getI E hC0 g0 fa_RX12_120 dX12_wrong_2 (fun v21 ev21 _ _ => ?_)
  have m22 : (sI H0 h0 (X.1.2 11 14)).toInt = v21.toInt := (congrArg Int32.toInt ev21).trans rfl
  refine lv_iconst (v := 4) hx hb dX12_wrong_5 rfl ?_
  refine q_icmp_ne hx hb (a := v21.toInt) (b := 4) rfl (by decide) (tgt := 13) dX12_wrong_6 rfl (fun c23 => ?_) (fun c23 => ?_)
  · refine lv_iconst (v := 2) hx hb dX12_wrong_13 rfl ?_
    refine lv_aload_n hx hb dX12_wrong_14 rfl (lv_at hl 0 rfl) ?_
    refine q_getI E hC0 g0 fa_RX12_114 dX12_wrong_15 (fun v24 ev24 lv24 uv24 => ?_)
    refine q_goV (q_runV (As := [.int 2, .int v24]) (rest := []) E hC0 hS0 (m_X12_fail l X Γ H0 hC0 h0 g0 2 (a1 := 2) (by decide) v24 (a2 := v24.toInt) rfl ca gca uc (by omega) (by omega)) cw_X12_fail cl_RX12_224 g0 ⟨rfl, rfl⟩ rfl hl.1 rfl (Nat.zero_le _) (by decide) dX12_wrong_18) hS0 (fun H25 locs25 hr25 hC25 hS25 => ?_)
    obtain ⟨hp25, hr25⟩ := hr25
    have hKp25 := hKp0.tr (hp25.mono rfl)
    obtain ⟨f25_0, f25_1, f25_2, f25_3⟩ := hr25
    exact ret H25 locs25 _ _ dX12_wrong_21 ⟨hKp25, ⟨by omega, by omega, by omega, by omega⟩⟩ hC25 hS25
  · refine lv_iconst (v := 1) hx hb dX12_wrong_9 rfl ?_
    refine lv_goto (tgt := 14) hx hb dX12_wrong_10 rfl ?_
    refine lv_aload_n hx hb dX12_wrong_14 rfl (lv_at hl 0 rfl) ?_
    refine q_getI E hC0 g0 fa_RX12_114 dX12_wrong_15 (fun v26 ev26 lv26 uv26 => ?_)
    refine q_goV (q_runV (As := [.int 1, .int v26]) (rest := []) E hC0 hS0 (m_X12_fail l X Γ H0 hC0 h0 g0 1 (a1 := 1) (by decide) v26 (a2 := v26.toInt) rfl ca gca uc (by omega) (by omega)) cw_X12_fail cl_RX12_224 g0 ⟨rfl, rfl⟩ rfl hl.1 rfl (Nat.zero_le _) (by decide) dX12_wrong_18) hS0 (fun H27 locs27 hr27 hC27 hS27 => ?_)
    obtain ⟨hp27, hr27⟩ := hr27
    have hKp27 := hKp0.tr (hp27.mono rfl)
    obtain ⟨f27_0, f27_1, f27_2, f27_3⟩ := hr27
    exact ret H27 locs27 _ _ dX12_wrong_21 ⟨hKp27, ⟨by omega, by omega, by omega, by omega⟩⟩ hC27 hS27
set_option maxRecDepth 100000 in
set_option maxHeartbeats 4000000 in
theorem m_X12_must (l : Launch) (X : xW) (Γ : Nat → Option Nat) (H0 : Heap) (hC0 : Conf X Γ H0) (h0 : Nat) (g0 : Γ h0 = some 11) (p1 : Int32) {a1 : Int} (e1 : p1.toInt = a1) (ca : Nat) (gca : Γ ca = some 64) (uc : ∀ a, Γ a = some 64 → a = ca) (tq : Nat) (htq : sR H0 h0 (X.1.2 11 7) = some tq) (gtq : Γ tq = some 63) (r0 : 0 ≤ a1) (r1 : a1 ≤ 1) : Ctr l X Γ yX12_must cX12_must 2 none 2 [.ref h0, .int p1] H0 (QV X Γ (fun H1 => Kp X Γ [1, 6, 7, 8, 9, 10, 11, 12, 14, 15, 16, 17, 19, 22, 24, 26, 28, 30, 35, 38] H0 H1 ∧ (((sI H0 h0 (X.1.2 11 16)).toInt ≤ (sI H1 h0 (X.1.2 11 16)).toInt) ∧ ((sI H0 h0 (X.1.2 11 16)).toInt < (sI H1 h0 (X.1.2 11 16)).toInt + tk (sI H1 h0 (X.1.2 11 14)).toInt + 2000 * (sI H1 h0 (X.1.2 11 12)).toInt) ∧ ((sI H0 h0 (X.1.2 11 12)).toInt ≤ 7 * (sI H1 h0 (X.1.2 11 12)).toInt) ∧ (0 ≤ (sI H1 h0 (X.1.2 11 12)).toInt) ∧ (1 - a1 ≤ (sI H1 h0 (X.1.2 11 12)).toInt) ∧ (∀ (kd vl w3 : Nat → Int) (pos : Nat → Nat) (N i : Nat), MC X H0 h0 tq kd vl w3 pos N i → (sI H0 h0 (X.1.2 11 12)).toInt = 0 → (a1 = 1 → kd i ≠ 0 → (sI H1 h0 (X.1.2 11 12)).toInt = 0 ∧ MC X H1 h0 tq kd vl w3 pos N (i + 1)) ∧ (a1 = 0 → (sI H1 h0 (X.1.2 11 12)).toInt ≠ 0))))) := by
  refine q_enterV (own := "SnowFortsModel") (by decide) rfl (Nat.le_of_ble_eq_true rfl) ?_
  intro p e s m args below meth c ls Qz E hl ret hS0
  have hx := E.1; have hb := E.2.1
  have hKp0 : Kp X Γ [1, 6, 7, 8, 9, 10, 11, 12, 14, 15, 16, 17, 19, 22, 24, 26, 28, 30, 35, 38] H0 H0 := Kp.rf
  have hl : lv_has ls 2 [(0, .ref h0), (1, .int p1)] := hl
  have hz1 := f_bd hC0 g0 (ci := 11) (k := 16) rfl rfl
  have hz2 := f_bd hC0 g0 (ci := 11) (k := 12) rfl rfl
  refine lv_aload_n hx hb dX12_must_0 rfl (lv_at hl 0 rfl) ?_
  refine q_getI E hC0 g0 fa_RX12_218 dX12_must_1 (fun v21 ev21 lv21 uv21 => ?_)
  have m22 : (sI H0 h0 (X.1.2 11 12)).toInt = v21.toInt := (congrArg Int32.toInt ev21).trans rfl
  refine q_if_le hx hb (a := v21.toInt) rfl (tgt := 8) dX12_must_4 rfl (fun c23 => ?_) (fun c23 => ?_)
  · refine lv_iload_n hx hb dX12_must_8 rfl (lv_at hl 1 rfl) ?_
    refine q_if_eq hx hb (a := a1) e1 (tgt := 19) dX12_must_9 rfl (fun c24 => ?_) (fun c24 => ?_)
    · refine lv_aload_n hx hb dX12_must_19 rfl (lv_at hl 0 rfl) ?_
      refine q_goV (q_runV (As := []) (rest := []) E hC0 hS0 (m_X12_wrong l X Γ H0 hC0 h0 g0 ca gca uc) cw_X12_wrong cl_RX12_231 g0 ⟨rfl, rfl⟩ rfl hl.1 rfl (Nat.zero_le _) (by decide) dX12_must_20) hS0 (fun H25 locs25 hr25 hC25 hS25 => ?_)
      obtain ⟨hp25, hr25⟩ := hr25
      have hKp25 := hKp0.tr (hp25.mono rfl)
      obtain ⟨f25_0, f25_1, f25_2, f25_3⟩ := hr25
      have hz8 := tk_nn (sI H25 h0 (X.1.2 11 14)).toInt
      have hpost : ∀ (kd vl w3 : Nat → Int) (pos : Nat → Nat) (N i : Nat), MC X H0 h0 tq kd vl w3 pos N i → (sI H0 h0 (X.1.2 11 12)).toInt = 0 → (a1 = 1 → kd i ≠ 0 → (sI H25 h0 (X.1.2 11 12)).toInt = 0 ∧ MC X H25 h0 tq kd vl w3 pos N (i + 1)) ∧ (a1 = 0 → (sI H25 h0 (X.1.2 11 12)).toInt ≠ 0) := by first | exact fun kd vl w3 pos N i mc hb => absurd hb (by omega) | exact fun kd vl w3 pos N i mc hb => ⟨fun _ hk => ⟨by omega, hnx kd vl w3 pos N i mc hk⟩, fun q => by omega⟩ | exact fun kd vl w3 pos N i mc hb => ⟨fun q => by omega, fun _ => by omega⟩
      exact ret H25 locs25 _ _ dX12_must_23 ⟨hKp25, ⟨by omega, by omega, by omega, by omega, by omega, hpost⟩⟩ hC25 hS25
    · refine lv_aload_n hx hb dX12_must_12 rfl (lv_at hl 0 rfl) ?_
      refine q_goV (q_runV (As := []) (rest := []) E hC0 hS0 (m_X12_next l X Γ H0 hC0 h0 g0 ca gca uc tq htq gtq) cw_X12_next cl_RX12_228 g0 ⟨rfl, rfl⟩ rfl hl.1 rfl (Nat.zero_le _) (by decide) dX12_must_13) hS0 (fun H26 locs26 hr26 hC26 hS26 => ?_)
      obtain ⟨hp26, hr26⟩ := hr26
      have hKp26 := hKp0.tr (hp26.mono rfl)
      obtain ⟨f26_0, f26_1, f26_2, f26_3, f26_4, f26_5⟩ := hr26
      have hnx := f26_5
      refine lv_goto (tgt := 23) hx hb dX12_must_16 rfl ?_
      have hz8 := tk_nn (sI H26 h0 (X.1.2 11 14)).toInt
      have hpost : ∀ (kd vl w3 : Nat → Int) (pos : Nat → Nat) (N i : Nat), MC X H0 h0 tq kd vl w3 pos N i → (sI H0 h0 (X.1.2 11 12)).toInt = 0 → (a1 = 1 → kd i ≠ 0 → (sI H26 h0 (X.1.2 11 12)).toInt = 0 ∧ MC X H26 h0 tq kd vl w3 pos N (i + 1)) ∧ (a1 = 0 → (sI H26 h0 (X.1.2 11 12)).toInt ≠ 0) := by first | exact fun kd vl w3 pos N i mc hb => absurd hb (by omega) | exact fun kd vl w3 pos N i mc hb => ⟨fun _ hk => ⟨by omega, hnx kd vl w3 pos N i mc hk⟩, fun q => by omega⟩ | exact fun kd vl w3 pos N i mc hb => ⟨fun q => by omega, fun _ => by omega⟩
      exact ret H26 locs26 _ _ dX12_must_23 ⟨hKp26, ⟨by omega, by omega, by omega, by omega, by omega, hpost⟩⟩ hC26 hS26
  · have hz8 := tk_nn (sI H0 h0 (X.1.2 11 14)).toInt
    have hpost : ∀ (kd vl w3 : Nat → Int) (pos : Nat → Nat) (N i : Nat), MC X H0 h0 tq kd vl w3 pos N i → (sI H0 h0 (X.1.2 11 12)).toInt = 0 → (a1 = 1 → kd i ≠ 0 → (sI H0 h0 (X.1.2 11 12)).toInt = 0 ∧ MC X H0 h0 tq kd vl w3 pos N (i + 1)) ∧ (a1 = 0 → (sI H0 h0 (X.1.2 11 12)).toInt ≠ 0) := by first | exact fun kd vl w3 pos N i mc hb => absurd hb (by omega) | exact fun kd vl w3 pos N i mc hb => ⟨fun _ hk => ⟨by omega, hnx kd vl w3 pos N i mc hk⟩, fun q => by omega⟩ | exact fun kd vl w3 pos N i mc hb => ⟨fun q => by omega, fun _ => by omega⟩
    exact ret H0 [] _ _ dX12_must_7 ⟨hKp0, ⟨by omega, by omega, by omega, by omega, by omega, hpost⟩⟩ hC0 hS0
set_option maxRecDepth 100000 in
set_option maxHeartbeats 4000000 in
theorem m_X12_isIn (l : Launch) (X : xW) (Γ : Nat → Option Nat) (H0 : Heap) (hC0 : Conf X Γ H0) (p0 : Int64) {a0 : Int} (e0 : p0.toInt = a0) (p1 : Int64) {a1 : Int} (e1 : p1.toInt = a1) (p2 : Int64) {a2 : Int} (e2 : p2.toInt = a2) : Ctr l X Γ yX12_isIn cX12_isIn 6 (some .boolean) 0 [.long p0, .long p1, .long p2] H0 (QI X Γ (fun v H1 => H1 = H0 ∧ ((v = 1 ∧ (a1 ≤ a0 ∧ a0 ≤ a2)) ∨ (v = 0 ∧ (a0 < a1 ∨ a2 < a0))))) := by
  refine q_enterZ (own := "SnowFortsModel") (by decide) rfl (Nat.le_of_ble_eq_true rfl) ?_
  intro p e s m args below meth c ls Qz E hl ret hS0
  have hx := E.1; have hb := E.2.1
  have hl : lv_has ls 6 [(0, .long p0), (2, .long p1), (4, .long p2)] := hl
  refine lv_lload_n hx hb dX12_isIn_0 rfl (lv_at hl 0 rfl) ?_
  refine lv_lload_n hx hb dX12_isIn_1 rfl (lv_at hl 1 rfl) ?_
  refine q_lcmp_lt hx hb (a := a0) (b := a1) e0 e1 (tgt := 17) dX12_isIn_2 dX12_isIn_3 rfl (fun c21 => ?_) (fun c21 => ?_)
  · refine lv_iconst (v := 0) hx hb dX12_isIn_17 rfl ?_
    exact ret 0 H0 [] _ _ dX12_isIn_18 (Or.inl rfl) ⟨rfl, Or.inr ⟨rfl, by omega⟩⟩ hC0 hS0
  · refine lv_lload_n hx hb dX12_isIn_6 rfl (lv_at hl 0 rfl) ?_
    refine lv_lload hx hb dX12_isIn_7 (lv_at hl 2 rfl) ?_
    refine q_lcmp_gt hx hb (a := a0) (b := a2) e0 e2 (tgt := 17) dX12_isIn_9 dX12_isIn_10 rfl (fun c22 => ?_) (fun c22 => ?_)
    · refine lv_iconst (v := 0) hx hb dX12_isIn_17 rfl ?_
      exact ret 0 H0 [] _ _ dX12_isIn_18 (Or.inl rfl) ⟨rfl, Or.inr ⟨rfl, by omega⟩⟩ hC0 hS0
    · refine lv_iconst (v := 1) hx hb dX12_isIn_13 rfl ?_
      refine lv_goto (tgt := 18) hx hb dX12_isIn_14 rfl ?_
      exact ret 1 H0 [] _ _ dX12_isIn_18 (Or.inr rfl) ⟨rfl, Or.inl ⟨rfl, by omega, by omega⟩⟩ hC0 hS0
set_option maxRecDepth 100000 in
set_option maxHeartbeats 4000000 in
theorem m_X12_count (l : Launch) (X : xW) (Γ : Nat → Option Nat) (H0 : Heap) (hC0 : Conf X Γ H0) (h0 : Nat) (g0 : Γ h0 = some 11) (p1 : Int32) {a1 : Int} (e1 : p1.toInt = a1) (p2 : Int32) {a2 : Int} (e2 : p2.toInt = a2) (ca : Nat) (gca : Γ ca = some 64) (uc : ∀ a, Γ a = some 64 → a = ca) (tq : Nat) (htq : sR H0 h0 (X.1.2 11 7) = some tq) (gtq : Γ tq = some 63) (r0 : 0 ≤ a1) (r1 : a1 ≤ 40) (r2 : -1 ≤ a2) (r3 : a2 ≤ 999) : Ctr l X Γ yX12_count cX12_count 4 (some .int) 2 [.ref h0, .int p1, .int p2] H0 (QI X Γ (fun v H1 => Kp X Γ [1, 6, 7, 8, 9, 10, 11, 12, 14, 15, 16, 17, 19, 22, 24, 26, 28, 30, 35, 38] H0 H1 ∧ (((sI H0 h0 (X.1.2 11 16)).toInt ≤ (sI H1 h0 (X.1.2 11 16)).toInt) ∧ ((sI H0 h0 (X.1.2 11 16)).toInt < (sI H1 h0 (X.1.2 11 16)).toInt + tk (sI H1 h0 (X.1.2 11 14)).toInt + 2000 * (sI H1 h0 (X.1.2 11 12)).toInt) ∧ ((sI H0 h0 (X.1.2 11 12)).toInt ≤ 7 * (sI H1 h0 (X.1.2 11 12)).toInt) ∧ (0 ≤ (sI H1 h0 (X.1.2 11 12)).toInt) ∧ (0 ≤ v.toInt) ∧ (v.toInt ≤ a2 ∨ v.toInt = 0) ∧ (a1 ≤ v.toInt + 100 * (sI H1 h0 (X.1.2 11 12)).toInt) ∧ (v.toInt ≤ a2 + (sI H1 h0 (X.1.2 11 12)).toInt) ∧ (∀ (kd vl w3 : Nat → Int) (pos : Nat → Nat) (N i : Nat), MC X H0 h0 tq kd vl w3 pos N i → (sI H0 h0 (X.1.2 11 12)).toInt = 0 → (okN kd vl a1 a2 i → (sI H1 h0 (X.1.2 11 12)).toInt = 0 ∧ v.toInt = vl i ∧ MC X H1 h0 tq kd vl w3 pos N (i + 1)) ∧ (¬ okN kd vl a1 a2 i → (sI H1 h0 (X.1.2 11 12)).toInt ≠ 0))))) := by
  refine q_enterI (own := "SnowFortsModel") (by decide) rfl (Nat.le_of_ble_eq_true rfl) ?_
  intro p e s m args below meth c ls Qz E hl ret hS0
  have hx := E.1; have hb := E.2.1
  have hKp0 : Kp X Γ [1, 6, 7, 8, 9, 10, 11, 12, 14, 15, 16, 17, 19, 22, 24, 26, 28, 30, 35, 38] H0 H0 := Kp.rf
  have hl : lv_has ls 4 [(0, .ref h0), (1, .int p1), (2, .int p2)] := hl
  have hz1 := f_bd hC0 g0 (ci := 11) (k := 16) rfl rfl
  have hz2 := f_bd hC0 g0 (ci := 11) (k := 12) rfl rfl
  refine lv_aload_n hx hb dX12_count_0 rfl (lv_at hl 0 rfl) ?_
  refine q_getI E hC0 g0 fa_RX12_218 dX12_count_1 (fun v21 ev21 lv21 uv21 => ?_)
  have m22 : (sI H0 h0 (X.1.2 11 12)).toInt = v21.toInt := (congrArg Int32.toInt ev21).trans rfl
  refine q_if_ne hx hb (a := v21.toInt) rfl (tgt := 19) dX12_count_4 rfl (fun c23 => ?_) (fun c23 => ?_)
  · refine lv_aload_n hx hb dX12_count_19 rfl (lv_at hl 0 rfl) ?_
    refine q_getI E hC0 g0 fa_RX12_218 dX12_count_20 (fun v24 ev24 lv24 uv24 => ?_)
    have qv24 := ev21.symm.trans ev24; subst qv24
    refine q_if_ne hx hb (a := v21.toInt) rfl (tgt := 50) dX12_count_23 rfl (fun c25 => ?_) (fun c25 => absurd c25 (by omega))
    refine lv_aload_n hx hb dX12_count_50 rfl (lv_at hl 0 rfl) ?_
    refine q_getI E hC0 g0 fa_RX12_218 dX12_count_51 (fun v26 ev26 lv26 uv26 => ?_)
    have qv26 := ev21.symm.trans ev26; subst qv26
    refine q_if_le hx hb (a := v21.toInt) rfl (tgt := 59) dX12_count_54 rfl (fun c27 => absurd c27 (by omega)) (fun c27 => ?_)
    refine lv_iconst (v := 0) hx hb dX12_count_57 rfl ?_
    have hz8 := tk_nn (sI H0 h0 (X.1.2 11 14)).toInt
    have hpost : ∀ (kd vl w3 : Nat → Int) (pos : Nat → Nat) (N i : Nat), MC X H0 h0 tq kd vl w3 pos N i → (sI H0 h0 (X.1.2 11 12)).toInt = 0 → (okN kd vl a1 a2 i → (sI H0 h0 (X.1.2 11 12)).toInt = 0 ∧ (0 : Int32).toInt = vl i ∧ MC X H0 h0 tq kd vl w3 pos N (i + 1)) ∧ (¬ okN kd vl a1 a2 i → (sI H0 h0 (X.1.2 11 12)).toInt ≠ 0) := by have hcc : (0 : Int32).toInt = 0 := (show (0 : Int32).toInt = 0 from by decide); first | exact fun kd vl w3 pos N i mc hb => absurd hb (by omega) | exact fun kd vl w3 pos N i mc hb => by have ht := mc.tok; exact ⟨fun ok => ⟨by omega, by have h1 := ok.1; have h2 := ht.2.2.2.1 h1; omega, hnx kd vl w3 pos N i mc (by have h1 := ok.1; omega)⟩, fun hn => absurd (⟨by omega, by have h2 := ht.2.2.2.1 (by omega); omega, by have h2 := ht.2.2.2.1 (by omega); omega⟩ : okN kd vl a1 a2 i) hn⟩ | exact fun kd vl w3 pos N i mc hb => by have ht := mc.tok; exact ⟨fun ok => by exfalso; have h1 := ok.1; have h2 := ht.2.2.2.1 h1; have h3 := ok.2; omega, fun _ => by omega⟩
    have c28 : (0 : Int32).toInt = 0 := (by decide)
    exact ret 0 H0 [] _ _ dX12_count_58 ⟨hKp0, ⟨by omega, by omega, by omega, by omega, by omega, by omega, by omega, by omega, hpost⟩⟩ hC0 hS0
  · refine lv_aload_n hx hb dX12_count_7 rfl (lv_at hl 0 rfl) ?_
    refine q_getI E hC0 g0 fa_RX12_120 dX12_count_8 (fun v29 ev29 _ _ => ?_)
    have m30 : (sI H0 h0 (X.1.2 11 14)).toInt = v29.toInt := (congrArg Int32.toInt ev29).trans rfl
    refine lv_iconst (v := 2) hx hb dX12_count_11 rfl ?_
    refine q_icmp_eq hx hb (a := v29.toInt) (b := 2) rfl (by decide) (tgt := 19) dX12_count_12 rfl (fun c31 => ?_) (fun c31 => ?_)
    · refine lv_aload_n hx hb dX12_count_19 rfl (lv_at hl 0 rfl) ?_
      refine q_getI E hC0 g0 fa_RX12_218 dX12_count_20 (fun v32 ev32 lv32 uv32 => ?_)
      have qv32 := ev21.symm.trans ev32; subst qv32
      refine q_if_ne hx hb (a := v21.toInt) rfl (tgt := 50) dX12_count_23 rfl (fun c33 => absurd c33 (by omega)) (fun c33 => ?_)
      refine lv_aload_n hx hb dX12_count_26 rfl (lv_at hl 0 rfl) ?_
      refine q_getI E hC0 g0 fa_RX12_139 dX12_count_27 (fun v34 ev34 _ _ => ?_)
      have m35 : (sI H0 h0 (X.1.2 11 17)).toInt = v34.toInt := (congrArg Int32.toInt ev34).trans rfl
      refine lv_i2l (v := v34.toInt64) hx hb dX12_count_30 rfl (lv_topl (fun v36 ev36 => ?_))
      have ev36i : v36.toInt = v34.toInt := l_ofi ev36.symm rfl
      refine lv_iload_n hx hb dX12_count_31 rfl (lv_at hl 1 rfl) ?_
      refine lv_i2l (v := p1.toInt64) hx hb dX12_count_32 rfl (lv_topl (fun v37 ev37 => ?_))
      have ev37i : v37.toInt = a1 := l_ofi ev37.symm e1
      refine lv_iload_n hx hb dX12_count_33 rfl (lv_at hl 2 rfl) ?_
      refine lv_i2l (v := p2.toInt64) hx hb dX12_count_34 rfl (lv_topl (fun v38 ev38 => ?_))
      have ev38i : v38.toInt = a2 := l_ofi ev38.symm e2
      refine q_goIp (q_runS (As := [.long v36, .long v37, .long v38]) (rest := []) E hS0 (m_X12_isIn l X Γ H0 hC0 v36 (a0 := v34.toInt) ev36i v37 (a1 := a1) ev37i v38 (a2 := a2) ev38i) cw_X12_isIn cl_RX12_104 rfl hl.1 rfl (Nat.zero_le _) (by decide) dX12_count_35) hS0 (fun v39 locs39 hr39 hS39 => ?_)
      rcases hr39 with ⟨rfl, f39a0, f39a1⟩ | ⟨rfl, f39b⟩
      · refine q_if_ne hx hb (a := 1) (by decide) (tgt := 50) dX12_count_38 rfl (fun c40 => ?_) (fun c40 => absurd c40 (by omega))
        refine lv_aload_n hx hb dX12_count_50 rfl (lv_at hl 0 rfl) ?_
        refine q_getI E hC0 g0 fa_RX12_218 dX12_count_51 (fun v41 ev41 lv41 uv41 => ?_)
        have qv41 := ev21.symm.trans ev41; subst qv41
        refine q_if_le hx hb (a := v21.toInt) rfl (tgt := 59) dX12_count_54 rfl (fun c42 => ?_) (fun c42 => absurd c42 (by omega))
        refine lv_aload_n hx hb dX12_count_59 rfl (lv_at hl 0 rfl) ?_
        refine q_getI E hC0 g0 fa_RX12_139 dX12_count_60 (fun v43 ev43 _ _ => ?_)
        have qv43 := ev34.symm.trans ev43; subst qv43
        refine lv_istore_n hx hb dX12_count_63 rfl hl (by decide) rfl (fun ls hl => ?_)
        have hl : lv_has ls 4 [(3, .int v34), (0, .ref h0), (1, .int p1), (2, .int p2)] := hl
        refine lv_aload_n hx hb dX12_count_64 rfl (lv_at hl 1 rfl) ?_
        refine q_goV (q_runV (As := []) (rest := []) E hC0 hS39 (m_X12_next l X Γ H0 hC0 h0 g0 ca gca uc tq htq gtq) cw_X12_next cl_RX12_228 g0 ⟨rfl, rfl⟩ rfl hl.1 rfl (Nat.zero_le _) (by decide) dX12_count_65) hS39 (fun H44 locs44 hr44 hC44 hS44 => ?_)
        obtain ⟨hp44, hr44⟩ := hr44
        have hKp44 := hKp0.tr (hp44.mono rfl)
        obtain ⟨f44_0, f44_1, f44_2, f44_3, f44_4, f44_5⟩ := hr44
        have hnx := f44_5
        refine lv_iload_n hx hb dX12_count_68 rfl (lv_at hl 0 rfl) ?_
        have hz8 := tk_nn (sI H44 h0 (X.1.2 11 14)).toInt
        have hpost : ∀ (kd vl w3 : Nat → Int) (pos : Nat → Nat) (N i : Nat), MC X H0 h0 tq kd vl w3 pos N i → (sI H0 h0 (X.1.2 11 12)).toInt = 0 → (okN kd vl a1 a2 i → (sI H44 h0 (X.1.2 11 12)).toInt = 0 ∧ (v34 : Int32).toInt = vl i ∧ MC X H44 h0 tq kd vl w3 pos N (i + 1)) ∧ (¬ okN kd vl a1 a2 i → (sI H44 h0 (X.1.2 11 12)).toInt ≠ 0) := by have hcc : (v34 : Int32).toInt = v34.toInt := rfl; first | exact fun kd vl w3 pos N i mc hb => absurd hb (by omega) | exact fun kd vl w3 pos N i mc hb => by have ht := mc.tok; exact ⟨fun ok => ⟨by omega, by have h1 := ok.1; have h2 := ht.2.2.2.1 h1; omega, hnx kd vl w3 pos N i mc (by have h1 := ok.1; omega)⟩, fun hn => absurd (⟨by omega, by have h2 := ht.2.2.2.1 (by omega); omega, by have h2 := ht.2.2.2.1 (by omega); omega⟩ : okN kd vl a1 a2 i) hn⟩ | exact fun kd vl w3 pos N i mc hb => by have ht := mc.tok; exact ⟨fun ok => by exfalso; have h1 := ok.1; have h2 := ht.2.2.2.1 h1; have h3 := ok.2; omega, fun _ => by omega⟩
        have c45 : v34.toInt = v34.toInt := rfl
        exact ret v34 H44 locs44 _ _ dX12_count_69 ⟨hKp44, ⟨by omega, by omega, by omega, by omega, by omega, by omega, by omega, by omega, hpost⟩⟩ hC44 hS44
      · refine q_if_ne hx hb (a := 0) (by decide) (tgt := 50) dX12_count_38 rfl (fun c46 => absurd c46 (by omega)) (fun c46 => ?_)
        refine lv_aload_n hx hb dX12_count_41 rfl (lv_at hl 0 rfl) ?_
        refine lv_iconst (v := 4) hx hb dX12_count_42 rfl ?_
        refine lv_aload_n hx hb dX12_count_43 rfl (lv_at hl 0 rfl) ?_
        refine q_getI E hC0 g0 fa_RX12_114 dX12_count_44 (fun v47 ev47 lv47 uv47 => ?_)
        refine q_goV (q_runV (As := [.int 4, .int v47]) (rest := []) E hC0 hS39 (m_X12_fail l X Γ H0 hC0 h0 g0 4 (a1 := 4) (by decide) v47 (a2 := v47.toInt) rfl ca gca uc (by omega) (by omega)) cw_X12_fail cl_RX12_224 g0 ⟨rfl, rfl⟩ rfl hl.1 rfl (Nat.zero_le _) (by decide) dX12_count_47) hS39 (fun H48 locs48 hr48 hC48 hS48 => ?_)
        obtain ⟨hp48, hr48⟩ := hr48
        have hKp48 := hKp0.tr (hp48.mono rfl)
        obtain ⟨f48_0, f48_1, f48_2, f48_3⟩ := hr48
        refine lv_aload_n hx hb dX12_count_50 rfl (lv_at hl 0 rfl) ?_
        refine q_getI E hC48 g0 fa_RX12_218 dX12_count_51 (fun v49 ev49 lv49 uv49 => ?_)
        have m50 : (sI H48 h0 (X.1.2 11 12)).toInt = v49.toInt := (congrArg Int32.toInt ev49).trans rfl
        refine q_if_le hx hb (a := v49.toInt) rfl (tgt := 59) dX12_count_54 rfl (fun c51 => absurd c51 (by omega)) (fun c51 => ?_)
        refine lv_iconst (v := 0) hx hb dX12_count_57 rfl ?_
        have hz8 := tk_nn (sI H48 h0 (X.1.2 11 14)).toInt
        have hpost : ∀ (kd vl w3 : Nat → Int) (pos : Nat → Nat) (N i : Nat), MC X H0 h0 tq kd vl w3 pos N i → (sI H0 h0 (X.1.2 11 12)).toInt = 0 → (okN kd vl a1 a2 i → (sI H48 h0 (X.1.2 11 12)).toInt = 0 ∧ (0 : Int32).toInt = vl i ∧ MC X H48 h0 tq kd vl w3 pos N (i + 1)) ∧ (¬ okN kd vl a1 a2 i → (sI H48 h0 (X.1.2 11 12)).toInt ≠ 0) := by have hcc : (0 : Int32).toInt = 0 := (show (0 : Int32).toInt = 0 from by decide); first | exact fun kd vl w3 pos N i mc hb => absurd hb (by omega) | exact fun kd vl w3 pos N i mc hb => by have ht := mc.tok; exact ⟨fun ok => ⟨by omega, by have h1 := ok.1; have h2 := ht.2.2.2.1 h1; omega, hnx kd vl w3 pos N i mc (by have h1 := ok.1; omega)⟩, fun hn => absurd (⟨by omega, by have h2 := ht.2.2.2.1 (by omega); omega, by have h2 := ht.2.2.2.1 (by omega); omega⟩ : okN kd vl a1 a2 i) hn⟩ | exact fun kd vl w3 pos N i mc hb => by have ht := mc.tok; exact ⟨fun ok => by exfalso; have h1 := ok.1; have h2 := ht.2.2.2.1 h1; have h3 := ok.2; omega, fun _ => by omega⟩
        have c52 : (0 : Int32).toInt = 0 := (by decide)
        exact ret 0 H48 locs48 _ _ dX12_count_58 ⟨hKp48, ⟨by omega, by omega, by omega, by omega, by omega, by omega, by omega, by omega, hpost⟩⟩ hC48 hS48
    · refine lv_aload_n hx hb dX12_count_15 rfl (lv_at hl 0 rfl) ?_
      refine q_goV (q_runV (As := []) (rest := []) E hC0 hS0 (m_X12_wrong l X Γ H0 hC0 h0 g0 ca gca uc) cw_X12_wrong cl_RX12_231 g0 ⟨rfl, rfl⟩ rfl hl.1 rfl (Nat.zero_le _) (by decide) dX12_count_16) hS0 (fun H53 locs53 hr53 hC53 hS53 => ?_)
      obtain ⟨hp53, hr53⟩ := hr53
      have hKp53 := hKp0.tr (hp53.mono rfl)
      obtain ⟨f53_0, f53_1, f53_2, f53_3⟩ := hr53
      refine lv_aload_n hx hb dX12_count_19 rfl (lv_at hl 0 rfl) ?_
      refine q_getI E hC53 g0 fa_RX12_218 dX12_count_20 (fun v54 ev54 lv54 uv54 => ?_)
      have m55 : (sI H53 h0 (X.1.2 11 12)).toInt = v54.toInt := (congrArg Int32.toInt ev54).trans rfl
      refine q_if_ne hx hb (a := v54.toInt) rfl (tgt := 50) dX12_count_23 rfl (fun c56 => ?_) (fun c56 => absurd c56 (by omega))
      refine lv_aload_n hx hb dX12_count_50 rfl (lv_at hl 0 rfl) ?_
      refine q_getI E hC53 g0 fa_RX12_218 dX12_count_51 (fun v57 ev57 lv57 uv57 => ?_)
      have qv57 := ev54.symm.trans ev57; subst qv57
      refine q_if_le hx hb (a := v54.toInt) rfl (tgt := 59) dX12_count_54 rfl (fun c58 => absurd c58 (by omega)) (fun c58 => ?_)
      refine lv_iconst (v := 0) hx hb dX12_count_57 rfl ?_
      have hz8 := tk_nn (sI H53 h0 (X.1.2 11 14)).toInt
      have hpost : ∀ (kd vl w3 : Nat → Int) (pos : Nat → Nat) (N i : Nat), MC X H0 h0 tq kd vl w3 pos N i → (sI H0 h0 (X.1.2 11 12)).toInt = 0 → (okN kd vl a1 a2 i → (sI H53 h0 (X.1.2 11 12)).toInt = 0 ∧ (0 : Int32).toInt = vl i ∧ MC X H53 h0 tq kd vl w3 pos N (i + 1)) ∧ (¬ okN kd vl a1 a2 i → (sI H53 h0 (X.1.2 11 12)).toInt ≠ 0) := by have hcc : (0 : Int32).toInt = 0 := (show (0 : Int32).toInt = 0 from by decide); first | exact fun kd vl w3 pos N i mc hb => absurd hb (by omega) | exact fun kd vl w3 pos N i mc hb => by have ht := mc.tok; exact ⟨fun ok => ⟨by omega, by have h1 := ok.1; have h2 := ht.2.2.2.1 h1; omega, hnx kd vl w3 pos N i mc (by have h1 := ok.1; omega)⟩, fun hn => absurd (⟨by omega, by have h2 := ht.2.2.2.1 (by omega); omega, by have h2 := ht.2.2.2.1 (by omega); omega⟩ : okN kd vl a1 a2 i) hn⟩ | exact fun kd vl w3 pos N i mc hb => by have ht := mc.tok; exact ⟨fun ok => by exfalso; have h1 := ok.1; have h2 := ht.2.2.2.1 h1; have h3 := ok.2; omega, fun _ => by omega⟩
      have c59 : (0 : Int32).toInt = 0 := (by decide)
      exact ret 0 H53 locs53 _ _ dX12_count_58 ⟨hKp53, ⟨by omega, by omega, by omega, by omega, by omega, by omega, by omega, by omega, hpost⟩⟩ hC53 hS53
set_option maxRecDepth 100000 in
set_option maxHeartbeats 4000000 in
theorem m_X12_isHigh (l : Launch) (X : xW) (Γ : Nat → Option Nat) (H0 : Heap) (hC0 : Conf X Γ H0) (h0 : Nat) (g0 : Γ h0 = some 11) (ca : Nat) (gca : Γ ca = some 64) (uc : ∀ a, Γ a = some 64 → a = ca) : Ctr l X Γ yX12_isHigh cX12_isHigh 1 (some .boolean) 1 [.ref h0] H0 (QI X Γ (fun v H1 => H1 = H0 ∧ ((v = 1 ∧ (WDM X H0 h0 (k3 1))) ∨ (v = 0 ∧ (¬ WDM X H0 h0 (k3 1)))))) := by
  refine q_enterZ (own := "SnowFortsModel") (by decide) rfl (Nat.le_of_ble_eq_true rfl) ?_
  intro p e s m args below meth c ls Qz E hl ret hS0
  have hx := E.1; have hb := E.2.1
  have hl : lv_has ls 1 [(0, .ref h0)] := hl
  refine lv_aload_n hx hb dX12_isHigh_0 rfl (lv_at hl 0 rfl) ?_
  refine lv_bipush (v := 104) hx hb dX12_isHigh_1 rfl ?_
  refine lv_bipush (v := 105) hx hb dX12_isHigh_3 rfl ?_
  refine lv_bipush (v := 103) hx hb dX12_isHigh_5 rfl ?_
  refine lv_bipush (v := 104) hx hb dX12_isHigh_7 rfl ?_
  refine lv_iconst (v := 0) hx hb dX12_isHigh_9 rfl ?_
  refine lv_iconst (v := 0) hx hb dX12_isHigh_10 rfl ?_
  refine q_goJp (q_runS (As := [.int 104, .int 105, .int 103, .int 104, .int 0, .int 0]) (rest := [.ref h0]) E hS0 (m_X12_spelled l X Γ H0 hC0 104 (a0 := 104) (by decide) 105 (a1 := 105) (by decide) 103 (a2 := 103) (by decide) 104 (a3 := 104) (by decide) 0 (a4 := 0) (by decide) 0 (a5 := 0) (by decide) (by omega) (by omega) (by omega) (by omega) (by omega) (by omega) (by omega) (by omega) (by omega) (by omega) (by omega) (by omega)) cw_X12_spelled cl_RX12_145 rfl hl.1 rfl (show _ ≤ _ from by simp [Value.category]) (by decide) dX12_isHigh_11) hS0 (fun v21 locs21 hr21 hS21 => ?_)
  have f21_0 := hr21
  have hsp : v21.toInt = k3 1 := f21_0.trans (by decide +kernel)
  refine q_goIp (q_runV (As := [.long v21]) (rest := []) E hC0 hS21 (m_X12_isWord l X Γ H0 hC0 h0 g0 v21 (a1 := v21.toInt) rfl ca gca uc) cw_X12_isWord cl_RX12_149 g0 ⟨rfl, rfl⟩ rfl hl.1 rfl (Nat.zero_le _) (by decide) dX12_isHigh_14) hS21 (fun v22 locs22 hr22 hS22 => ?_)
  rcases hr22 with ⟨rfl, hw⟩ | ⟨rfl, hw⟩
  · have hw1 := hsp ▸ hw
    exact ret 1 H0 locs22 _ _ dX12_isHigh_17 (Or.inr rfl) ⟨rfl, Or.inl ⟨rfl, (hsp ▸ hw)⟩⟩ hC0 hS22
  · have hw1 := hsp ▸ hw
    exact ret 0 H0 locs22 _ _ dX12_isHigh_17 (Or.inl rfl) ⟨rfl, Or.inr ⟨rfl, (hsp ▸ hw)⟩⟩ hC0 hS22
set_option maxRecDepth 100000 in
set_option maxHeartbeats 4000000 in
theorem m_X12_isSign (l : Launch) (X : xW) (Γ : Nat → Option Nat) (H0 : Heap) (hC0 : Conf X Γ H0) (h0 : Nat) (g0 : Γ h0 = some 11) (p1 : Int32) {a1 : Int} (e1 : p1.toInt = a1) (ca : Nat) (gca : Γ ca = some 64) (uc : ∀ a, Γ a = some 64 → a = ca) : Ctr l X Γ yX12_isSign cX12_isSign 2 (some .boolean) 0 [.ref h0, .int p1] H0 (QI X Γ (fun v H1 => H1 = H0 ∧ ((v = 1 ∧ ((sI H0 h0 (X.1.2 11 14)).toInt = 3 ∧ (sI H0 h0 (X.1.2 11 17)).toInt = a1)) ∨ (v = 0 ∧ (¬ ((sI H0 h0 (X.1.2 11 14)).toInt = 3 ∧ (sI H0 h0 (X.1.2 11 17)).toInt = a1)))))) := by
  refine q_enterZ (own := "SnowFortsModel") (by decide) rfl (Nat.le_of_ble_eq_true rfl) ?_
  intro p e s m args below meth c ls Qz E hl ret hS0
  have hx := E.1; have hb := E.2.1
  have hl : lv_has ls 2 [(0, .ref h0), (1, .int p1)] := hl
  refine lv_aload_n hx hb dX12_isSign_0 rfl (lv_at hl 0 rfl) ?_
  refine q_getI E hC0 g0 fa_RX12_120 dX12_isSign_1 (fun v21 ev21 _ _ => ?_)
  have m22 : (sI H0 h0 (X.1.2 11 14)).toInt = v21.toInt := (congrArg Int32.toInt ev21).trans rfl
  refine lv_iconst (v := 3) hx hb dX12_isSign_4 rfl ?_
  refine q_icmp_ne hx hb (a := v21.toInt) (b := 3) rfl (by decide) (tgt := 20) dX12_isSign_5 rfl (fun c23 => ?_) (fun c23 => ?_)
  · refine lv_iconst (v := 0) hx hb dX12_isSign_20 rfl ?_
    exact ret 0 H0 [] _ _ dX12_isSign_21 (Or.inl rfl) ⟨rfl, Or.inr ⟨rfl, (by omega)⟩⟩ hC0 hS0
  · refine lv_aload_n hx hb dX12_isSign_8 rfl (lv_at hl 0 rfl) ?_
    refine q_getI E hC0 g0 fa_RX12_139 dX12_isSign_9 (fun v24 ev24 _ _ => ?_)
    have m25 : (sI H0 h0 (X.1.2 11 17)).toInt = v24.toInt := (congrArg Int32.toInt ev24).trans rfl
    refine lv_iload_n hx hb dX12_isSign_12 rfl (lv_at hl 1 rfl) ?_
    have c26 := i_rng v24; rw [show v24.toInt = v24.toInt from rfl] at c26
    have c27 := i_rng p1; rw [show p1.toInt = a1 from e1] at c27
    refine q_icmp_ne hx hb (a := v24.toInt) (b := a1) rfl e1 (tgt := 20) dX12_isSign_13 rfl (fun c28 => ?_) (fun c28 => ?_)
    · refine lv_iconst (v := 0) hx hb dX12_isSign_20 rfl ?_
      exact ret 0 H0 [] _ _ dX12_isSign_21 (Or.inl rfl) ⟨rfl, Or.inr ⟨rfl, (by omega)⟩⟩ hC0 hS0
    · refine lv_iconst (v := 1) hx hb dX12_isSign_16 rfl ?_
      refine lv_goto (tgt := 21) hx hb dX12_isSign_17 rfl ?_
      exact ret 1 H0 [] _ _ dX12_isSign_21 (Or.inr rfl) ⟨rfl, Or.inl ⟨rfl, by omega, by omega⟩⟩ hC0 hS0
set_option maxRecDepth 100000 in
set_option maxHeartbeats 4000000 in
theorem m_X12_isSchool (l : Launch) (X : xW) (Γ : Nat → Option Nat) (H0 : Heap) (hC0 : Conf X Γ H0) (h0 : Nat) (g0 : Γ h0 = some 11) (ca : Nat) (gca : Γ ca = some 64) (uc : ∀ a, Γ a = some 64 → a = ca) : Ctr l X Γ yX12_isSchool cX12_isSchool 1 (some .boolean) 1 [.ref h0] H0 (QI X Γ (fun v H1 => H1 = H0 ∧ ((v = 1 ∧ (WDM X H0 h0 (k3 2))) ∨ (v = 0 ∧ (¬ WDM X H0 h0 (k3 2)))))) := by
  refine q_enterZ (own := "SnowFortsModel") (by decide) rfl (Nat.le_of_ble_eq_true rfl) ?_
  intro p e s m args below meth c ls Qz E hl ret hS0
  have hx := E.1; have hb := E.2.1
  have hl : lv_has ls 1 [(0, .ref h0)] := hl
  refine lv_aload_n hx hb dX12_isSchool_0 rfl (lv_at hl 0 rfl) ?_
  refine lv_bipush (v := 115) hx hb dX12_isSchool_1 rfl ?_
  refine lv_bipush (v := 99) hx hb dX12_isSchool_3 rfl ?_
  refine lv_bipush (v := 104) hx hb dX12_isSchool_5 rfl ?_
  refine lv_bipush (v := 111) hx hb dX12_isSchool_7 rfl ?_
  refine lv_bipush (v := 111) hx hb dX12_isSchool_9 rfl ?_
  refine lv_bipush (v := 108) hx hb dX12_isSchool_11 rfl ?_
  refine q_goJp (q_runS (As := [.int 115, .int 99, .int 104, .int 111, .int 111, .int 108]) (rest := [.ref h0]) E hS0 (m_X12_spelled l X Γ H0 hC0 115 (a0 := 115) (by decide) 99 (a1 := 99) (by decide) 104 (a2 := 104) (by decide) 111 (a3 := 111) (by decide) 111 (a4 := 111) (by decide) 108 (a5 := 108) (by decide) (by omega) (by omega) (by omega) (by omega) (by omega) (by omega) (by omega) (by omega) (by omega) (by omega) (by omega) (by omega)) cw_X12_spelled cl_RX12_145 rfl hl.1 rfl (show _ ≤ _ from by simp [Value.category]) (by decide) dX12_isSchool_13) hS0 (fun v21 locs21 hr21 hS21 => ?_)
  have f21_0 := hr21
  have hsp : v21.toInt = k3 2 := f21_0.trans (by decide +kernel)
  refine q_goIp (q_runV (As := [.long v21]) (rest := []) E hC0 hS21 (m_X12_isWord l X Γ H0 hC0 h0 g0 v21 (a1 := v21.toInt) rfl ca gca uc) cw_X12_isWord cl_RX12_149 g0 ⟨rfl, rfl⟩ rfl hl.1 rfl (Nat.zero_le _) (by decide) dX12_isSchool_16) hS21 (fun v22 locs22 hr22 hS22 => ?_)
  rcases hr22 with ⟨rfl, hw⟩ | ⟨rfl, hw⟩
  · have hw2 := hsp ▸ hw
    exact ret 1 H0 locs22 _ _ dX12_isSchool_19 (Or.inr rfl) ⟨rfl, Or.inl ⟨rfl, (hsp ▸ hw)⟩⟩ hC0 hS22
  · have hw2 := hsp ▸ hw
    exact ret 0 H0 locs22 _ _ dX12_isSchool_19 (Or.inl rfl) ⟨rfl, Or.inr ⟨rfl, (hsp ▸ hw)⟩⟩ hC0 hS22
set_option maxRecDepth 100000 in
set_option maxHeartbeats 4000000 in
theorem m_X12_isHands (l : Launch) (X : xW) (Γ : Nat → Option Nat) (H0 : Heap) (hC0 : Conf X Γ H0) (h0 : Nat) (g0 : Γ h0 = some 11) (ca : Nat) (gca : Γ ca = some 64) (uc : ∀ a, Γ a = some 64 → a = ca) : Ctr l X Γ yX12_isHands cX12_isHands 1 (some .boolean) 1 [.ref h0] H0 (QI X Γ (fun v H1 => H1 = H0 ∧ ((v = 1 ∧ (WDM X H0 h0 (k3 3))) ∨ (v = 0 ∧ (¬ WDM X H0 h0 (k3 3)))))) := by
  refine q_enterZ (own := "SnowFortsModel") (by decide) rfl (Nat.le_of_ble_eq_true rfl) ?_
  intro p e s m args below meth c ls Qz E hl ret hS0
  have hx := E.1; have hb := E.2.1
  have hl : lv_has ls 1 [(0, .ref h0)] := hl
  refine lv_aload_n hx hb dX12_isHands_0 rfl (lv_at hl 0 rfl) ?_
  refine lv_bipush (v := 104) hx hb dX12_isHands_1 rfl ?_
  refine lv_bipush (v := 97) hx hb dX12_isHands_3 rfl ?_
  refine lv_bipush (v := 110) hx hb dX12_isHands_5 rfl ?_
  refine lv_bipush (v := 100) hx hb dX12_isHands_7 rfl ?_
  refine lv_bipush (v := 115) hx hb dX12_isHands_9 rfl ?_
  refine lv_iconst (v := 0) hx hb dX12_isHands_11 rfl ?_
  refine q_goJp (q_runS (As := [.int 104, .int 97, .int 110, .int 100, .int 115, .int 0]) (rest := [.ref h0]) E hS0 (m_X12_spelled l X Γ H0 hC0 104 (a0 := 104) (by decide) 97 (a1 := 97) (by decide) 110 (a2 := 110) (by decide) 100 (a3 := 100) (by decide) 115 (a4 := 115) (by decide) 0 (a5 := 0) (by decide) (by omega) (by omega) (by omega) (by omega) (by omega) (by omega) (by omega) (by omega) (by omega) (by omega) (by omega) (by omega)) cw_X12_spelled cl_RX12_145 rfl hl.1 rfl (show _ ≤ _ from by simp [Value.category]) (by decide) dX12_isHands_12) hS0 (fun v21 locs21 hr21 hS21 => ?_)
  have f21_0 := hr21
  have hsp : v21.toInt = k3 3 := f21_0.trans (by decide +kernel)
  refine q_goIp (q_runV (As := [.long v21]) (rest := []) E hC0 hS21 (m_X12_isWord l X Γ H0 hC0 h0 g0 v21 (a1 := v21.toInt) rfl ca gca uc) cw_X12_isWord cl_RX12_149 g0 ⟨rfl, rfl⟩ rfl hl.1 rfl (Nat.zero_le _) (by decide) dX12_isHands_15) hS21 (fun v22 locs22 hr22 hS22 => ?_)
  rcases hr22 with ⟨rfl, hw⟩ | ⟨rfl, hw⟩
  · have hw3 := hsp ▸ hw
    exact ret 1 H0 locs22 _ _ dX12_isHands_18 (Or.inr rfl) ⟨rfl, Or.inl ⟨rfl, (hsp ▸ hw)⟩⟩ hC0 hS22
  · have hw3 := hsp ▸ hw
    exact ret 0 H0 locs22 _ _ dX12_isHands_18 (Or.inl rfl) ⟨rfl, Or.inr ⟨rfl, (hsp ▸ hw)⟩⟩ hC0 hS22
set_option maxRecDepth 100000 in
set_option maxHeartbeats 4000000 in
theorem m_X12_isSnow (l : Launch) (X : xW) (Γ : Nat → Option Nat) (H0 : Heap) (hC0 : Conf X Γ H0) (h0 : Nat) (g0 : Γ h0 = some 11) (ca : Nat) (gca : Γ ca = some 64) (uc : ∀ a, Γ a = some 64 → a = ca) : Ctr l X Γ yX12_isSnow cX12_isSnow 1 (some .boolean) 1 [.ref h0] H0 (QI X Γ (fun v H1 => H1 = H0 ∧ ((v = 1 ∧ (WDM X H0 h0 (k3 4))) ∨ (v = 0 ∧ (¬ WDM X H0 h0 (k3 4)))))) := by
  refine q_enterZ (own := "SnowFortsModel") (by decide) rfl (Nat.le_of_ble_eq_true rfl) ?_
  intro p e s m args below meth c ls Qz E hl ret hS0
  have hx := E.1; have hb := E.2.1
  have hl : lv_has ls 1 [(0, .ref h0)] := hl
  refine lv_aload_n hx hb dX12_isSnow_0 rfl (lv_at hl 0 rfl) ?_
  refine lv_bipush (v := 115) hx hb dX12_isSnow_1 rfl ?_
  refine lv_bipush (v := 110) hx hb dX12_isSnow_3 rfl ?_
  refine lv_bipush (v := 111) hx hb dX12_isSnow_5 rfl ?_
  refine lv_bipush (v := 119) hx hb dX12_isSnow_7 rfl ?_
  refine lv_iconst (v := 0) hx hb dX12_isSnow_9 rfl ?_
  refine lv_iconst (v := 0) hx hb dX12_isSnow_10 rfl ?_
  refine q_goJp (q_runS (As := [.int 115, .int 110, .int 111, .int 119, .int 0, .int 0]) (rest := [.ref h0]) E hS0 (m_X12_spelled l X Γ H0 hC0 115 (a0 := 115) (by decide) 110 (a1 := 110) (by decide) 111 (a2 := 111) (by decide) 119 (a3 := 119) (by decide) 0 (a4 := 0) (by decide) 0 (a5 := 0) (by decide) (by omega) (by omega) (by omega) (by omega) (by omega) (by omega) (by omega) (by omega) (by omega) (by omega) (by omega) (by omega)) cw_X12_spelled cl_RX12_145 rfl hl.1 rfl (show _ ≤ _ from by simp [Value.category]) (by decide) dX12_isSnow_11) hS0 (fun v21 locs21 hr21 hS21 => ?_)
  have f21_0 := hr21
  have hsp : v21.toInt = k3 4 := f21_0.trans (by decide +kernel)
  refine q_goIp (q_runV (As := [.long v21]) (rest := []) E hC0 hS21 (m_X12_isWord l X Γ H0 hC0 h0 g0 v21 (a1 := v21.toInt) rfl ca gca uc) cw_X12_isWord cl_RX12_149 g0 ⟨rfl, rfl⟩ rfl hl.1 rfl (Nat.zero_le _) (by decide) dX12_isSnow_14) hS21 (fun v22 locs22 hr22 hS22 => ?_)
  rcases hr22 with ⟨rfl, hw⟩ | ⟨rfl, hw⟩
  · have hw4 := hsp ▸ hw
    exact ret 1 H0 locs22 _ _ dX12_isSnow_17 (Or.inr rfl) ⟨rfl, Or.inl ⟨rfl, (hsp ▸ hw)⟩⟩ hC0 hS22
  · have hw4 := hsp ▸ hw
    exact ret 0 H0 locs22 _ _ dX12_isSnow_17 (Or.inl rfl) ⟨rfl, Or.inr ⟨rfl, (hsp ▸ hw)⟩⟩ hC0 hS22
set_option maxRecDepth 100000 in
set_option maxHeartbeats 4000000 in
theorem m_X12_isDeep (l : Launch) (X : xW) (Γ : Nat → Option Nat) (H0 : Heap) (hC0 : Conf X Γ H0) (h0 : Nat) (g0 : Γ h0 = some 11) (ca : Nat) (gca : Γ ca = some 64) (uc : ∀ a, Γ a = some 64 → a = ca) : Ctr l X Γ yX12_isDeep cX12_isDeep 1 (some .boolean) 1 [.ref h0] H0 (QI X Γ (fun v H1 => H1 = H0 ∧ ((v = 1 ∧ (WDM X H0 h0 (k3 5))) ∨ (v = 0 ∧ (¬ WDM X H0 h0 (k3 5)))))) := by
  refine q_enterZ (own := "SnowFortsModel") (by decide) rfl (Nat.le_of_ble_eq_true rfl) ?_
  intro p e s m args below meth c ls Qz E hl ret hS0
  have hx := E.1; have hb := E.2.1
  have hl : lv_has ls 1 [(0, .ref h0)] := hl
  refine lv_aload_n hx hb dX12_isDeep_0 rfl (lv_at hl 0 rfl) ?_
  refine lv_bipush (v := 100) hx hb dX12_isDeep_1 rfl ?_
  refine lv_bipush (v := 101) hx hb dX12_isDeep_3 rfl ?_
  refine lv_bipush (v := 101) hx hb dX12_isDeep_5 rfl ?_
  refine lv_bipush (v := 112) hx hb dX12_isDeep_7 rfl ?_
  refine lv_iconst (v := 0) hx hb dX12_isDeep_9 rfl ?_
  refine lv_iconst (v := 0) hx hb dX12_isDeep_10 rfl ?_
  refine q_goJp (q_runS (As := [.int 100, .int 101, .int 101, .int 112, .int 0, .int 0]) (rest := [.ref h0]) E hS0 (m_X12_spelled l X Γ H0 hC0 100 (a0 := 100) (by decide) 101 (a1 := 101) (by decide) 101 (a2 := 101) (by decide) 112 (a3 := 112) (by decide) 0 (a4 := 0) (by decide) 0 (a5 := 0) (by decide) (by omega) (by omega) (by omega) (by omega) (by omega) (by omega) (by omega) (by omega) (by omega) (by omega) (by omega) (by omega)) cw_X12_spelled cl_RX12_145 rfl hl.1 rfl (show _ ≤ _ from by simp [Value.category]) (by decide) dX12_isDeep_11) hS0 (fun v21 locs21 hr21 hS21 => ?_)
  have f21_0 := hr21
  have hsp : v21.toInt = k3 5 := f21_0.trans (by decide +kernel)
  refine q_goIp (q_runV (As := [.long v21]) (rest := []) E hC0 hS21 (m_X12_isWord l X Γ H0 hC0 h0 g0 v21 (a1 := v21.toInt) rfl ca gca uc) cw_X12_isWord cl_RX12_149 g0 ⟨rfl, rfl⟩ rfl hl.1 rfl (Nat.zero_le _) (by decide) dX12_isDeep_14) hS21 (fun v22 locs22 hr22 hS22 => ?_)
  rcases hr22 with ⟨rfl, hw⟩ | ⟨rfl, hw⟩
  · have hw5 := hsp ▸ hw
    exact ret 1 H0 locs22 _ _ dX12_isDeep_17 (Or.inr rfl) ⟨rfl, Or.inl ⟨rfl, (hsp ▸ hw)⟩⟩ hC0 hS22
  · have hw5 := hsp ▸ hw
    exact ret 0 H0 locs22 _ _ dX12_isDeep_17 (Or.inl rfl) ⟨rfl, Or.inr ⟨rfl, (hsp ▸ hw)⟩⟩ hC0 hS22
set_option maxRecDepth 100000 in
set_option maxHeartbeats 4000000 in
theorem m_X12_isTall (l : Launch) (X : xW) (Γ : Nat → Option Nat) (H0 : Heap) (hC0 : Conf X Γ H0) (h0 : Nat) (g0 : Γ h0 = some 11) (ca : Nat) (gca : Γ ca = some 64) (uc : ∀ a, Γ a = some 64 → a = ca) : Ctr l X Γ yX12_isTall cX12_isTall 1 (some .boolean) 1 [.ref h0] H0 (QI X Γ (fun v H1 => H1 = H0 ∧ ((v = 1 ∧ (WDM X H0 h0 (k3 7))) ∨ (v = 0 ∧ (¬ WDM X H0 h0 (k3 7)))))) := by
  refine q_enterZ (own := "SnowFortsModel") (by decide) rfl (Nat.le_of_ble_eq_true rfl) ?_
  intro p e s m args below meth c ls Qz E hl ret hS0
  have hx := E.1; have hb := E.2.1
  have hl : lv_has ls 1 [(0, .ref h0)] := hl
  refine lv_aload_n hx hb dX12_isTall_0 rfl (lv_at hl 0 rfl) ?_
  refine lv_bipush (v := 116) hx hb dX12_isTall_1 rfl ?_
  refine lv_bipush (v := 97) hx hb dX12_isTall_3 rfl ?_
  refine lv_bipush (v := 108) hx hb dX12_isTall_5 rfl ?_
  refine lv_bipush (v := 108) hx hb dX12_isTall_7 rfl ?_
  refine lv_iconst (v := 0) hx hb dX12_isTall_9 rfl ?_
  refine lv_iconst (v := 0) hx hb dX12_isTall_10 rfl ?_
  refine q_goJp (q_runS (As := [.int 116, .int 97, .int 108, .int 108, .int 0, .int 0]) (rest := [.ref h0]) E hS0 (m_X12_spelled l X Γ H0 hC0 116 (a0 := 116) (by decide) 97 (a1 := 97) (by decide) 108 (a2 := 108) (by decide) 108 (a3 := 108) (by decide) 0 (a4 := 0) (by decide) 0 (a5 := 0) (by decide) (by omega) (by omega) (by omega) (by omega) (by omega) (by omega) (by omega) (by omega) (by omega) (by omega) (by omega) (by omega)) cw_X12_spelled cl_RX12_145 rfl hl.1 rfl (show _ ≤ _ from by simp [Value.category]) (by decide) dX12_isTall_11) hS0 (fun v21 locs21 hr21 hS21 => ?_)
  have f21_0 := hr21
  have hsp : v21.toInt = k3 7 := f21_0.trans (by decide +kernel)
  refine q_goIp (q_runV (As := [.long v21]) (rest := []) E hC0 hS21 (m_X12_isWord l X Γ H0 hC0 h0 g0 v21 (a1 := v21.toInt) rfl ca gca uc) cw_X12_isWord cl_RX12_149 g0 ⟨rfl, rfl⟩ rfl hl.1 rfl (Nat.zero_le _) (by decide) dX12_isTall_14) hS21 (fun v22 locs22 hr22 hS22 => ?_)
  rcases hr22 with ⟨rfl, hw⟩ | ⟨rfl, hw⟩
  · have hw7 := hsp ▸ hw
    exact ret 1 H0 locs22 _ _ dX12_isTall_17 (Or.inr rfl) ⟨rfl, Or.inl ⟨rfl, (hsp ▸ hw)⟩⟩ hC0 hS22
  · have hw7 := hsp ▸ hw
    exact ret 0 H0 locs22 _ _ dX12_isTall_17 (Or.inl rfl) ⟨rfl, Or.inr ⟨rfl, (hsp ▸ hw)⟩⟩ hC0 hS22
set_option maxRecDepth 100000 in
set_option maxHeartbeats 4000000 in
theorem m_X12_isSun (l : Launch) (X : xW) (Γ : Nat → Option Nat) (H0 : Heap) (hC0 : Conf X Γ H0) (h0 : Nat) (g0 : Γ h0 = some 11) (ca : Nat) (gca : Γ ca = some 64) (uc : ∀ a, Γ a = some 64 → a = ca) : Ctr l X Γ yX12_isSun cX12_isSun 1 (some .boolean) 1 [.ref h0] H0 (QI X Γ (fun v H1 => H1 = H0 ∧ ((v = 1 ∧ (WDM X H0 h0 (k3 8))) ∨ (v = 0 ∧ (¬ WDM X H0 h0 (k3 8)))))) := by
  refine q_enterZ (own := "SnowFortsModel") (by decide) rfl (Nat.le_of_ble_eq_true rfl) ?_
  intro p e s m args below meth c ls Qz E hl ret hS0
  have hx := E.1; have hb := E.2.1
  have hl : lv_has ls 1 [(0, .ref h0)] := hl
  refine lv_aload_n hx hb dX12_isSun_0 rfl (lv_at hl 0 rfl) ?_
  refine lv_bipush (v := 115) hx hb dX12_isSun_1 rfl ?_
  refine lv_bipush (v := 117) hx hb dX12_isSun_3 rfl ?_
  refine lv_bipush (v := 110) hx hb dX12_isSun_5 rfl ?_
  refine lv_iconst (v := 0) hx hb dX12_isSun_7 rfl ?_
  refine lv_iconst (v := 0) hx hb dX12_isSun_8 rfl ?_
  refine lv_iconst (v := 0) hx hb dX12_isSun_9 rfl ?_
  refine q_goJp (q_runS (As := [.int 115, .int 117, .int 110, .int 0, .int 0, .int 0]) (rest := [.ref h0]) E hS0 (m_X12_spelled l X Γ H0 hC0 115 (a0 := 115) (by decide) 117 (a1 := 117) (by decide) 110 (a2 := 110) (by decide) 0 (a3 := 0) (by decide) 0 (a4 := 0) (by decide) 0 (a5 := 0) (by decide) (by omega) (by omega) (by omega) (by omega) (by omega) (by omega) (by omega) (by omega) (by omega) (by omega) (by omega) (by omega)) cw_X12_spelled cl_RX12_145 rfl hl.1 rfl (show _ ≤ _ from by simp [Value.category]) (by decide) dX12_isSun_10) hS0 (fun v21 locs21 hr21 hS21 => ?_)
  have f21_0 := hr21
  have hsp : v21.toInt = k3 8 := f21_0.trans (by decide +kernel)
  refine q_goIp (q_runV (As := [.long v21]) (rest := []) E hC0 hS21 (m_X12_isWord l X Γ H0 hC0 h0 g0 v21 (a1 := v21.toInt) rfl ca gca uc) cw_X12_isWord cl_RX12_149 g0 ⟨rfl, rfl⟩ rfl hl.1 rfl (Nat.zero_le _) (by decide) dX12_isSun_13) hS21 (fun v22 locs22 hr22 hS22 => ?_)
  rcases hr22 with ⟨rfl, hw⟩ | ⟨rfl, hw⟩
  · have hw8 := hsp ▸ hw
    exact ret 1 H0 locs22 _ _ dX12_isSun_16 (Or.inr rfl) ⟨rfl, Or.inl ⟨rfl, (hsp ▸ hw)⟩⟩ hC0 hS22
  · have hw8 := hsp ▸ hw
    exact ret 0 H0 locs22 _ _ dX12_isSun_16 (Or.inl rfl) ⟨rfl, Or.inr ⟨rfl, (hsp ▸ hw)⟩⟩ hC0 hS22
set_option maxRecDepth 100000 in
set_option maxHeartbeats 4000000 in
theorem m_X12_isBy (l : Launch) (X : xW) (Γ : Nat → Option Nat) (H0 : Heap) (hC0 : Conf X Γ H0) (h0 : Nat) (g0 : Γ h0 = some 11) (ca : Nat) (gca : Γ ca = some 64) (uc : ∀ a, Γ a = some 64 → a = ca) : Ctr l X Γ yX12_isBy cX12_isBy 1 (some .boolean) 1 [.ref h0] H0 (QI X Γ (fun v H1 => H1 = H0 ∧ ((v = 1 ∧ (WDM X H0 h0 (k3 9))) ∨ (v = 0 ∧ (¬ WDM X H0 h0 (k3 9)))))) := by
  refine q_enterZ (own := "SnowFortsModel") (by decide) rfl (Nat.le_of_ble_eq_true rfl) ?_
  intro p e s m args below meth c ls Qz E hl ret hS0
  have hx := E.1; have hb := E.2.1
  have hl : lv_has ls 1 [(0, .ref h0)] := hl
  refine lv_aload_n hx hb dX12_isBy_0 rfl (lv_at hl 0 rfl) ?_
  refine lv_bipush (v := 98) hx hb dX12_isBy_1 rfl ?_
  refine lv_bipush (v := 121) hx hb dX12_isBy_3 rfl ?_
  refine lv_iconst (v := 0) hx hb dX12_isBy_5 rfl ?_
  refine lv_iconst (v := 0) hx hb dX12_isBy_6 rfl ?_
  refine lv_iconst (v := 0) hx hb dX12_isBy_7 rfl ?_
  refine lv_iconst (v := 0) hx hb dX12_isBy_8 rfl ?_
  refine q_goJp (q_runS (As := [.int 98, .int 121, .int 0, .int 0, .int 0, .int 0]) (rest := [.ref h0]) E hS0 (m_X12_spelled l X Γ H0 hC0 98 (a0 := 98) (by decide) 121 (a1 := 121) (by decide) 0 (a2 := 0) (by decide) 0 (a3 := 0) (by decide) 0 (a4 := 0) (by decide) 0 (a5 := 0) (by decide) (by omega) (by omega) (by omega) (by omega) (by omega) (by omega) (by omega) (by omega) (by omega) (by omega) (by omega) (by omega)) cw_X12_spelled cl_RX12_145 rfl hl.1 rfl (show _ ≤ _ from by simp [Value.category]) (by decide) dX12_isBy_9) hS0 (fun v21 locs21 hr21 hS21 => ?_)
  have f21_0 := hr21
  have hsp : v21.toInt = k3 9 := f21_0.trans (by decide +kernel)
  refine q_goIp (q_runV (As := [.long v21]) (rest := []) E hC0 hS21 (m_X12_isWord l X Γ H0 hC0 h0 g0 v21 (a1 := v21.toInt) rfl ca gca uc) cw_X12_isWord cl_RX12_149 g0 ⟨rfl, rfl⟩ rfl hl.1 rfl (Nat.zero_le _) (by decide) dX12_isBy_12) hS21 (fun v22 locs22 hr22 hS22 => ?_)
  rcases hr22 with ⟨rfl, hw⟩ | ⟨rfl, hw⟩
  · have hw9 := hsp ▸ hw
    exact ret 1 H0 locs22 _ _ dX12_isBy_15 (Or.inr rfl) ⟨rfl, Or.inl ⟨rfl, (hsp ▸ hw)⟩⟩ hC0 hS22
  · have hw9 := hsp ▸ hw
    exact ret 0 H0 locs22 _ _ dX12_isBy_15 (Or.inl rfl) ⟨rfl, Or.inr ⟨rfl, (hsp ▸ hw)⟩⟩ hC0 hS22
set_option maxRecDepth 100000 in
set_option maxHeartbeats 4000000 in
theorem m_X12_isNo (l : Launch) (X : xW) (Γ : Nat → Option Nat) (H0 : Heap) (hC0 : Conf X Γ H0) (h0 : Nat) (g0 : Γ h0 = some 11) (ca : Nat) (gca : Γ ca = some 64) (uc : ∀ a, Γ a = some 64 → a = ca) : Ctr l X Γ yX12_isNo cX12_isNo 1 (some .boolean) 1 [.ref h0] H0 (QI X Γ (fun v H1 => H1 = H0 ∧ ((v = 1 ∧ (WDM X H0 h0 (k3 10))) ∨ (v = 0 ∧ (¬ WDM X H0 h0 (k3 10)))))) := by
  refine q_enterZ (own := "SnowFortsModel") (by decide) rfl (Nat.le_of_ble_eq_true rfl) ?_
  intro p e s m args below meth c ls Qz E hl ret hS0
  have hx := E.1; have hb := E.2.1
  have hl : lv_has ls 1 [(0, .ref h0)] := hl
  refine lv_aload_n hx hb dX12_isNo_0 rfl (lv_at hl 0 rfl) ?_
  refine lv_bipush (v := 110) hx hb dX12_isNo_1 rfl ?_
  refine lv_bipush (v := 111) hx hb dX12_isNo_3 rfl ?_
  refine lv_iconst (v := 0) hx hb dX12_isNo_5 rfl ?_
  refine lv_iconst (v := 0) hx hb dX12_isNo_6 rfl ?_
  refine lv_iconst (v := 0) hx hb dX12_isNo_7 rfl ?_
  refine lv_iconst (v := 0) hx hb dX12_isNo_8 rfl ?_
  refine q_goJp (q_runS (As := [.int 110, .int 111, .int 0, .int 0, .int 0, .int 0]) (rest := [.ref h0]) E hS0 (m_X12_spelled l X Γ H0 hC0 110 (a0 := 110) (by decide) 111 (a1 := 111) (by decide) 0 (a2 := 0) (by decide) 0 (a3 := 0) (by decide) 0 (a4 := 0) (by decide) 0 (a5 := 0) (by decide) (by omega) (by omega) (by omega) (by omega) (by omega) (by omega) (by omega) (by omega) (by omega) (by omega) (by omega) (by omega)) cw_X12_spelled cl_RX12_145 rfl hl.1 rfl (show _ ≤ _ from by simp [Value.category]) (by decide) dX12_isNo_9) hS0 (fun v21 locs21 hr21 hS21 => ?_)
  have f21_0 := hr21
  have hsp : v21.toInt = k3 10 := f21_0.trans (by decide +kernel)
  refine q_goIp (q_runV (As := [.long v21]) (rest := []) E hC0 hS21 (m_X12_isWord l X Γ H0 hC0 h0 g0 v21 (a1 := v21.toInt) rfl ca gca uc) cw_X12_isWord cl_RX12_149 g0 ⟨rfl, rfl⟩ rfl hl.1 rfl (Nat.zero_le _) (by decide) dX12_isNo_12) hS21 (fun v22 locs22 hr22 hS22 => ?_)
  rcases hr22 with ⟨rfl, hw⟩ | ⟨rfl, hw⟩
  · have hw10 := hsp ▸ hw
    exact ret 1 H0 locs22 _ _ dX12_isNo_15 (Or.inr rfl) ⟨rfl, Or.inl ⟨rfl, (hsp ▸ hw)⟩⟩ hC0 hS22
  · have hw10 := hsp ▸ hw
    exact ret 0 H0 locs22 _ _ dX12_isNo_15 (Or.inl rfl) ⟨rfl, Or.inr ⟨rfl, (hsp ▸ hw)⟩⟩ hC0 hS22
set_option maxRecDepth 100000 in
set_option maxHeartbeats 4000000 in
theorem m_X12_isAbove (l : Launch) (X : xW) (Γ : Nat → Option Nat) (H0 : Heap) (hC0 : Conf X Γ H0) (h0 : Nat) (g0 : Γ h0 = some 11) (ca : Nat) (gca : Γ ca = some 64) (uc : ∀ a, Γ a = some 64 → a = ca) : Ctr l X Γ yX12_isAbove cX12_isAbove 1 (some .boolean) 1 [.ref h0] H0 (QI X Γ (fun v H1 => H1 = H0 ∧ ((v = 1 ∧ (WDM X H0 h0 (k3 11))) ∨ (v = 0 ∧ (¬ WDM X H0 h0 (k3 11)))))) := by
  refine q_enterZ (own := "SnowFortsModel") (by decide) rfl (Nat.le_of_ble_eq_true rfl) ?_
  intro p e s m args below meth c ls Qz E hl ret hS0
  have hx := E.1; have hb := E.2.1
  have hl : lv_has ls 1 [(0, .ref h0)] := hl
  refine lv_aload_n hx hb dX12_isAbove_0 rfl (lv_at hl 0 rfl) ?_
  refine lv_bipush (v := 97) hx hb dX12_isAbove_1 rfl ?_
  refine lv_bipush (v := 98) hx hb dX12_isAbove_3 rfl ?_
  refine lv_bipush (v := 111) hx hb dX12_isAbove_5 rfl ?_
  refine lv_bipush (v := 118) hx hb dX12_isAbove_7 rfl ?_
  refine lv_bipush (v := 101) hx hb dX12_isAbove_9 rfl ?_
  refine lv_iconst (v := 0) hx hb dX12_isAbove_11 rfl ?_
  refine q_goJp (q_runS (As := [.int 97, .int 98, .int 111, .int 118, .int 101, .int 0]) (rest := [.ref h0]) E hS0 (m_X12_spelled l X Γ H0 hC0 97 (a0 := 97) (by decide) 98 (a1 := 98) (by decide) 111 (a2 := 111) (by decide) 118 (a3 := 118) (by decide) 101 (a4 := 101) (by decide) 0 (a5 := 0) (by decide) (by omega) (by omega) (by omega) (by omega) (by omega) (by omega) (by omega) (by omega) (by omega) (by omega) (by omega) (by omega)) cw_X12_spelled cl_RX12_145 rfl hl.1 rfl (show _ ≤ _ from by simp [Value.category]) (by decide) dX12_isAbove_12) hS0 (fun v21 locs21 hr21 hS21 => ?_)
  have f21_0 := hr21
  have hsp : v21.toInt = k3 11 := f21_0.trans (by decide +kernel)
  refine q_goIp (q_runV (As := [.long v21]) (rest := []) E hC0 hS21 (m_X12_isWord l X Γ H0 hC0 h0 g0 v21 (a1 := v21.toInt) rfl ca gca uc) cw_X12_isWord cl_RX12_149 g0 ⟨rfl, rfl⟩ rfl hl.1 rfl (Nat.zero_le _) (by decide) dX12_isAbove_15) hS21 (fun v22 locs22 hr22 hS22 => ?_)
  rcases hr22 with ⟨rfl, hw⟩ | ⟨rfl, hw⟩
  · have hw11 := hsp ▸ hw
    exact ret 1 H0 locs22 _ _ dX12_isAbove_18 (Or.inr rfl) ⟨rfl, Or.inl ⟨rfl, (hsp ▸ hw)⟩⟩ hC0 hS22
  · have hw11 := hsp ▸ hw
    exact ret 0 H0 locs22 _ _ dX12_isAbove_18 (Or.inl rfl) ⟨rfl, Or.inr ⟨rfl, (hsp ▸ hw)⟩⟩ hC0 hS22
set_option maxRecDepth 100000 in
set_option maxHeartbeats 4000000 in
theorem m_X12_isBehind (l : Launch) (X : xW) (Γ : Nat → Option Nat) (H0 : Heap) (hC0 : Conf X Γ H0) (h0 : Nat) (g0 : Γ h0 = some 11) (ca : Nat) (gca : Γ ca = some 64) (uc : ∀ a, Γ a = some 64 → a = ca) : Ctr l X Γ yX12_isBehind cX12_isBehind 1 (some .boolean) 1 [.ref h0] H0 (QI X Γ (fun v H1 => H1 = H0 ∧ ((v = 1 ∧ (WDM X H0 h0 (k3 13))) ∨ (v = 0 ∧ (¬ WDM X H0 h0 (k3 13)))))) := by
  refine q_enterZ (own := "SnowFortsModel") (by decide) rfl (Nat.le_of_ble_eq_true rfl) ?_
  intro p e s m args below meth c ls Qz E hl ret hS0
  have hx := E.1; have hb := E.2.1
  have hl : lv_has ls 1 [(0, .ref h0)] := hl
  refine lv_aload_n hx hb dX12_isBehind_0 rfl (lv_at hl 0 rfl) ?_
  refine lv_bipush (v := 98) hx hb dX12_isBehind_1 rfl ?_
  refine lv_bipush (v := 101) hx hb dX12_isBehind_3 rfl ?_
  refine lv_bipush (v := 104) hx hb dX12_isBehind_5 rfl ?_
  refine lv_bipush (v := 105) hx hb dX12_isBehind_7 rfl ?_
  refine lv_bipush (v := 110) hx hb dX12_isBehind_9 rfl ?_
  refine lv_bipush (v := 100) hx hb dX12_isBehind_11 rfl ?_
  refine q_goJp (q_runS (As := [.int 98, .int 101, .int 104, .int 105, .int 110, .int 100]) (rest := [.ref h0]) E hS0 (m_X12_spelled l X Γ H0 hC0 98 (a0 := 98) (by decide) 101 (a1 := 101) (by decide) 104 (a2 := 104) (by decide) 105 (a3 := 105) (by decide) 110 (a4 := 110) (by decide) 100 (a5 := 100) (by decide) (by omega) (by omega) (by omega) (by omega) (by omega) (by omega) (by omega) (by omega) (by omega) (by omega) (by omega) (by omega)) cw_X12_spelled cl_RX12_145 rfl hl.1 rfl (show _ ≤ _ from by simp [Value.category]) (by decide) dX12_isBehind_13) hS0 (fun v21 locs21 hr21 hS21 => ?_)
  have f21_0 := hr21
  have hsp : v21.toInt = k3 13 := f21_0.trans (by decide +kernel)
  refine q_goIp (q_runV (As := [.long v21]) (rest := []) E hC0 hS21 (m_X12_isWord l X Γ H0 hC0 h0 g0 v21 (a1 := v21.toInt) rfl ca gca uc) cw_X12_isWord cl_RX12_149 g0 ⟨rfl, rfl⟩ rfl hl.1 rfl (Nat.zero_le _) (by decide) dX12_isBehind_16) hS21 (fun v22 locs22 hr22 hS22 => ?_)
  rcases hr22 with ⟨rfl, hw⟩ | ⟨rfl, hw⟩
  · have hw13 := hsp ▸ hw
    exact ret 1 H0 locs22 _ _ dX12_isBehind_19 (Or.inr rfl) ⟨rfl, Or.inl ⟨rfl, (hsp ▸ hw)⟩⟩ hC0 hS22
  · have hw13 := hsp ▸ hw
    exact ret 0 H0 locs22 _ _ dX12_isBehind_19 (Or.inl rfl) ⟨rfl, Or.inr ⟨rfl, (hsp ▸ hw)⟩⟩ hC0 hS22
