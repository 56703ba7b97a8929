set_option maxRecDepth 100000 in
set_option maxHeartbeats 4000000 in
theorem m_Jcod (l : Launch) (X : xW) (Γ : Nat → Option Nat) (H0 : Heap) (hC0 : Conf X Γ H0) (i : Nat) (hi : i < 15) : Ctr l X Γ yJ0_coder_7d493 cJ0_coder_7d493 1 (some .byte) 0 [.ref (skd X i)] H0 (QI X Γ (fun v H1 => H1 = H0 ∧ v = 0)) := by
  refine q_enterT (own := "java/lang/String") (by decide) rfl (Nat.le_of_ble_eq_true rfl) ?_
  intro p e s m args below meth c ls Qz E hl ret hS0
  have hx := E.1; have hb := E.2.1
  refine q_cstr E hS0 w_715 dJ0_coder_7d493_0 ?_
  refine q_if_eq hx hb (a := 1) (by decide) (tgt := 13) dJ0_coder_7d493_3 rfl (fun c => absurd c (by decide)) (fun c => ?_)
  refine lv_aload_n hx hb dJ0_coder_7d493_6 rfl (lv_at hl 0 rfl) ?_
  refine q_scod E hS0 hi w_1045 dJ0_coder_7d493_7 ?_
  refine lv_goto (tgt := 14) hx hb dJ0_coder_7d493_10 rfl ?_
  exact ret 0 H0 [] _ _ dJ0_coder_7d493_14 (by decide) ⟨rfl, rfl⟩ hC0 hS0
set_option maxRecDepth 100000 in
set_option maxHeartbeats 4000000 in
theorem m_Jlat (l : Launch) (X : xW) (Γ : Nat → Option Nat) (H0 : Heap) (hC0 : Conf X Γ H0) (i : Nat) (hi : i < 15) : Ctr l X Γ yJ0_isLatin1_aae02 cJ0_isLatin1_aae02 1 (some .boolean) 0 [.ref (skd X i)] H0 (QI X Γ (fun v H1 => H1 = H0 ∧ v = 1)) := by
  refine q_enterT (own := "java/lang/String") (by decide) rfl (Nat.le_of_ble_eq_true rfl) ?_
  intro p e s m args below meth c ls Qz E hl ret hS0
  have hx := E.1; have hb := E.2.1
  refine q_cstr E hS0 w_715 dJ0_isLatin1_aae02_0 ?_
  refine q_if_eq hx hb (a := 1) (by decide) (tgt := 17) dJ0_isLatin1_aae02_3 rfl (fun c => absurd c (by decide)) (fun c => ?_)
  refine lv_aload_n hx hb dJ0_isLatin1_aae02_6 rfl (lv_at hl 0 rfl) ?_
  refine q_scod E hS0 hi w_1045 dJ0_isLatin1_aae02_7 ?_
  refine q_if_ne hx hb (a := 0) (by decide) (tgt := 17) dJ0_isLatin1_aae02_10 rfl (fun c => absurd c (by decide)) (fun c => ?_)
  refine lv_iconst (v := 1) hx hb dJ0_isLatin1_aae02_13 rfl ?_
  refine lv_goto (tgt := 18) hx hb dJ0_isLatin1_aae02_14 rfl ?_
  exact ret 1 H0 [] _ _ dJ0_isLatin1_aae02_18 (by decide) ⟨rfl, rfl⟩ hC0 hS0
set_option maxRecDepth 100000 in
set_option maxHeartbeats 4000000 in
theorem m_Jlen (l : Launch) (X : xW) (Γ : Nat → Option Nat) (H0 : Heap) (hC0 : Conf X Γ H0) (i : Nat) (hi : i < 15) : Ctr l X Γ yJ0_length_8abf5 cJ0_length_8abf5 1 (some .int) 1 [.ref (skd X i)] H0 (QI X Γ (fun v H1 => H1 = H0 ∧ v.toInt = lnI i ∧ 0 ≤ lnI i ∧ lnI i ≤ 20)) := by
  refine q_enterI (own := "java/lang/String") (by decide) rfl (Nat.le_of_ble_eq_true rfl) ?_
  intro p e s m args below meth c ls Qz E hl ret hS0
  have hx := E.1; have hb := E.2.1
  refine lv_aload_n hx hb dJ0_length_8abf5_0 rfl (lv_at hl 0 rfl) ?_
  refine q_sval E hS0 hi w_1044 dJ0_length_8abf5_1 ?_
  refine q_slen E hS0 hi dJ0_length_8abf5_4 ?_
  refine lv_aload_n hx hb dJ0_length_8abf5_5 rfl (lv_at hl 0 rfl) ?_
  refine q_goIp (q_runVS (As := []) (rest := [.int (Int32.ofNat (jsL.getD i 0))]) E hS0 hi (m_Jcod l X Γ H0 hC0 i hi) cw_J0_coder_7d493 cl_RJ0_335 rfl hl.1 rfl (show _ ≤ _ from by simp [Value.category]) (by decide) dJ0_length_8abf5_6) hS0 (fun v locs1 hr hS1 => ?_)
  subst hr
  refine lv_ishr hx hb dJ0_length_8abf5_9 ?_
  exact ret _ H0 locs1 _ _ dJ0_length_8abf5_10 ⟨rfl, (lit_ok i hi).2.2.2.1, ln_bd hi⟩ hC0 hS1
set_option maxRecDepth 100000 in
set_option maxHeartbeats 4000000 in
theorem m_Jpre (l : Launch) (X : xW) (Γ : Nat → Option Nat) (H0 : Heap) (hC0 : Conf X Γ H0) (k n : Int32) (a b : Int) (ek : k.toInt = a) (en : n.toInt = b) (h0 : 0 ≤ a) (h1 : a < b) (o : Option Nat) : Ctr l X Γ yJ3_checkIndex_8e157 cJ3_checkIndex_8e157 3 (some .int) 0 [.int k, .int n, va_rf o] H0 (QI X Γ (fun v H1 => H1 = H0 ∧ v = k)) := by
  refine q_enterI (own := "jdk/internal/util/Preconditions") (by decide) rfl (by cases o <;> exact Nat.le_of_ble_eq_true rfl) ?_
  intro p e s m args below meth c ls Qz E hl ret hS0
  have hx := E.1; have hb := E.2.1
  refine lv_iload_n hx hb dJ3_checkIndex_8e157_0 rfl (lv_at hl 0 rfl) ?_
  refine q_if_lt hx hb (a := a) ek (tgt := 9) dJ3_checkIndex_8e157_1 rfl (fun c => absurd c (by omega)) (fun c => ?_)
  refine lv_iload_n hx hb dJ3_checkIndex_8e157_4 rfl (lv_at hl 0 rfl) ?_
  refine lv_iload_n hx hb dJ3_checkIndex_8e157_5 rfl (lv_at hl 1 rfl) ?_
  refine q_icmp_lt hx hb (a := a) (b := b) ek en (tgt := 16) dJ3_checkIndex_8e157_6 rfl (fun c => ?_) (fun c => absurd c (by omega))
  refine lv_iload_n hx hb dJ3_checkIndex_8e157_16 rfl (lv_at hl 0 rfl) ?_
  exact ret k H0 [] _ _ dJ3_checkIndex_8e157_17 ⟨rfl, rfl⟩ hC0 hS0
set_option maxRecDepth 100000 in
set_option maxHeartbeats 4000000 in
theorem m_Jchk (l : Launch) (X : xW) (Γ : Nat → Option Nat) (H0 : Heap) (hC0 : Conf X Γ H0) (k n : Int32) (a b : Int) (ek : k.toInt = a) (en : n.toInt = b) (h0 : 0 ≤ a) (h1 : a < b) : Ctr l X Γ yJ0_checkIndex_df160 cJ0_checkIndex_df160 2 none 1 [.int k, .int n] H0 (QV X Γ (fun H1 => H1 = H0)) := by
  refine q_enterV (own := "java/lang/String") (by decide) rfl (Nat.le_of_ble_eq_true rfl) ?_
  intro p e s m args below meth c ls Qz E hl ret hS0
  have hx := E.1; have hb := E.2.1
  refine lv_iload_n hx hb dJ0_checkIndex_df160_0 rfl (lv_at hl 0 rfl) ?_
  refine lv_iload_n hx hb dJ0_checkIndex_df160_1 rfl (lv_at hl 1 rfl) ?_
  refine q_siob E hS0 w_731 dJ0_checkIndex_df160_2 (fun o => ?_)
  refine q_goIp (q_runS (As := [.int k, .int n, va_rf o]) (rest := []) E hS0 (m_Jpre l X Γ H0 hC0 k n a b ek en h0 h1 o) cw_J3_checkIndex_8e157 cl_RJ0_1059 rfl hl.1 rfl (Nat.zero_le _) (by decide) dJ0_checkIndex_df160_5) hS0 (fun v locs1 hr hS1 => ?_)
  refine lv_pop hx hb dJ0_checkIndex_df160_8 rfl ?_
  exact ret H0 locs1 _ _ dJ0_checkIndex_df160_9 rfl hC0 hS1
set_option maxRecDepth 100000 in
set_option maxHeartbeats 4000000 in
theorem m_Jbch (l : Launch) (X : xW) (Γ : Nat → Option Nat) (H0 : Heap) (hC0 : Conf X Γ H0) (i : Nat) (hi : i < 15) (k : Int32) {a : Int} (ek : k.toInt = a) (h0 : 0 ≤ a) (h1 : a < lnI i) : Ctr l X Γ yJ1_charAt_3b067 cJ1_charAt_3b067 2 (some .char) 2 [.ref (svd X i), .int k] H0 (QI X Γ (fun v H1 => H1 = H0 ∧ v = (((((jsB.getD i []).getD a.toNat 0) &&& 255).toUInt32 % 65536).toInt32))) := by
  refine q_enterT (own := "java/lang/StringLatin1") (by decide) rfl (Nat.le_of_ble_eq_true rfl) ?_
  intro p e s m args below meth c ls Qz E hl ret hS0
  have hx := E.1; have hb := E.2.1
  refine lv_iload_n hx hb dJ1_charAt_3b067_0 rfl (lv_at hl 1 rfl) ?_
  refine lv_aload_n hx hb dJ1_charAt_3b067_1 rfl (lv_at hl 0 rfl) ?_
  refine q_slen E hS0 hi dJ1_charAt_3b067_2 ?_
  refine q_goVp (q_runS (As := [.int k, .int (Int32.ofNat (jsL.getD i 0))]) (rest := []) E hS0 (m_Jchk l X Γ H0 hC0 k _ a _ ek (lit_ok i hi).2.2.2.2 h0 h1) cw_J0_checkIndex_df160 cl_RJ1_9 rfl hl.1 rfl (Nat.zero_le _) (by decide) dJ1_charAt_3b067_3) hS0 (fun locs1 hS1 => ?_)
  refine lv_aload_n hx hb dJ1_charAt_3b067_6 rfl (lv_at hl 0 rfl) ?_
  refine lv_iload_n hx hb dJ1_charAt_3b067_7 rfl (lv_at hl 1 rfl) ?_
  refine q_sbyt E hS1 hi ek h0 h1 dJ1_charAt_3b067_8 ?_
  refine lv_sipush (v := 255) hx hb dJ1_charAt_3b067_9 rfl ?_
  refine lv_iand hx hb dJ1_charAt_3b067_12 ?_
  refine lv_i2c hx hb dJ1_charAt_3b067_13 rfl ?_
  have ha9 : a.toNat < jsL.getD i 0 := by unfold lnI at h1; omega
  exact ret _ H0 locs1 _ _ dJ1_charAt_3b067_14 ((lit_ok i hi).2.2.1 _ ha9).2.1 ⟨rfl, rfl⟩ hC0 hS1
set_option maxRecDepth 100000 in
set_option maxHeartbeats 4000000 in
theorem m_Jch (l : Launch) (X : xW) (Γ : Nat → Option Nat) (H0 : Heap) (hC0 : Conf X Γ H0) (i : Nat) (hi : i < 15) (k : Int32) {a : Int} (ek : k.toInt = a) (h0 : 0 ≤ a) (h1 : a < lnI i) : Ctr l X Γ yJ0_charAt_5068e cJ0_charAt_5068e 2 (some .char) 3 [.ref (skd X i), .int k] H0 (QI X Γ (fun v H1 => H1 = H0 ∧ v.toInt = tg (lit i) a ∧ 0 ≤ v.toInt ∧ v.toInt ≤ 127)) := by
  refine q_enterT (own := "java/lang/String") (by decide) rfl (Nat.le_of_ble_eq_true rfl) ?_
  intro p e s m args below meth c ls Qz E hl ret hS0
  have hx := E.1; have hb := E.2.1
  refine lv_aload_n hx hb dJ0_charAt_5068e_0 rfl (lv_at hl 0 rfl) ?_
  refine q_goIp (q_runVS (As := []) (rest := []) E hS0 hi (m_Jlat l X Γ H0 hC0 i hi) cw_J0_isLatin1_aae02 cl_RJ0_492 rfl hl.1 rfl (Nat.zero_le _) (by decide) dJ0_charAt_5068e_1) hS0 (fun v locs1 hr hS1 => ?_)
  subst hr
  refine q_if_eq hx hb (a := 1) (by decide) (tgt := 16) dJ0_charAt_5068e_4 rfl (fun c => absurd c (by decide)) (fun c => ?_)
  refine lv_aload_n hx hb dJ0_charAt_5068e_7 rfl (lv_at hl 0 rfl) ?_
  refine q_sval E hS1 hi w_1044 dJ0_charAt_5068e_8 ?_
  refine lv_iload_n hx hb dJ0_charAt_5068e_11 rfl (lv_at hl 1 rfl) ?_
  refine q_goIp (q_runS (As := [.ref (svd X i), .int k]) (rest := []) E hS1 (m_Jbch l X Γ H0 hC0 i hi k ek h0 h1) cw_J1_charAt_3b067 cl_RJ0_495 rfl hl.1 rfl (Nat.zero_le _) (by decide) dJ0_charAt_5068e_12) hS1 (fun v locs2 hr hS2 => ?_)
  subst hr
  have ha9 : a.toNat < jsL.getD i 0 := by unfold lnI at h1; omega
  obtain ⟨w1, w2, w3, w4⟩ := (lit_ok i hi).2.2.1 _ ha9
  exact ret _ H0 locs2 _ _ dJ0_charAt_5068e_15 w2 ⟨rfl, w1, by rw [w1]; exact w3, by rw [w1]; exact w4⟩ hC0 hS2
