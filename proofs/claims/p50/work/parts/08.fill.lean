set_option maxRecDepth 100000 in
set_option maxHeartbeats 4000000 in
theorem m_fillI (l : Launch) (X : xW) (Γ : Nat → Option Nat) (H0 : Heap) (hC0 : Conf X Γ H0) (h0 : Nat) {r N : Nat} (g0 : Γ h0 = some r) (hw : r ≠ 12) (hr : kO r = none) {F : Nat → xT} {lo hi : Int} (hA : kA r = some (1, N, F)) (hF : ∀ j, F j = (0, lo, hi)) (hN : N ≤ 1000000) (p1 : Int32) (hb9 : lo ≤ p1.toInt ∧ p1.toInt ≤ hi) : Ctr l X Γ yJ7_fill_53178 cJ7_fill_53178 4 none 0 [.ref h0, .int p1] H0 (QV X Γ (fun H1 => Cp H0 H1 h0 ∧ ∀ j, j < N → sI H1 h0 j = p1)) := by
  refine q_enterV (own := "java/util/Arrays") (by decide) rfl (Nat.le_of_ble_eq_true rfl) ?_
  intro p e s m args below meth c ls Qz E hl ret hS0
  have hx := E.1; have hb := E.2.1
  have hl : lv_has ls 4 [(0, .ref h0), (1, .int p1)] := hl
  refine lv_iconst (v := 0) hx hb dJ7_fill_53178_0 rfl ?_
  refine lv_istore_n hx hb dJ7_fill_53178_1 rfl hl (by decide) rfl (fun ls hl => ?_)
  have hl : lv_has ls 4 [(2, .int 0), (0, .ref h0), (1, .int p1)] := hl
  refine lv_aload_n hx hb dJ7_fill_53178_2 rfl (lv_at hl 1 rfl) ?_
  refine q_alen E hC0 g0 hr hA rfl (v := Int32.ofNat N) rfl dJ7_fill_53178_3 ?_
  have hNi : (Int32.ofNat N).toInt = N := nI_toInt (by omega)
  refine lv_istore_n hx hb dJ7_fill_53178_4 rfl hl (by decide) rfl (fun ls hl => ?_)
  have hl : lv_has ls 4 [(3, .int (Int32.ofNat N)), (2, .int 0), (0, .ref h0), (1, .int p1)] := hl
  have L : ∀ (n : Nat) (H : Heap) (locs : List Loc) (v : Int32) (z : Int) (ls : Array Slot), (N - z).toNat < n → v.toInt = z → 0 ≤ z → Conf X Γ H → va_S (AΓ Γ) H0 H locs → Cp H0 H h0 → (∀ j : Nat, (j : Int) < z → sI H h0 j = p1) → lv_has ls 4 [(3, .int (Int32.ofNat N)), (2, .int v), (0, .ref h0), (1, .int p1)] → W p l e (rmL 0) s m args below meth c H locs 0 0 Qz (F0 m 5 ls []) := by
    intro n
    induction n with
    | zero => intro H locs v z ls hm; exact absurd hm (Nat.not_lt_zero _)
    | succ n ih =>
      intro H locs v z ls hm ez h0z hC hS hCp hfl hl
      refine lv_iload_n hx hb dJ7_fill_53178_5 rfl (lv_at hl 1 rfl) ?_
      refine lv_iload_n hx hb dJ7_fill_53178_6 rfl (lv_at hl 0 rfl) ?_
      refine q_icmp_ge hx hb (a := z) (b := N) ez hNi (tgt := 20) dJ7_fill_53178_7 rfl (fun c1 => ?_) (fun c1 => ?_)
      · exact ret H locs _ _ dJ7_fill_53178_20 ⟨hCp, fun j hj => hfl j (by omega)⟩ hC hS
      · refine lv_aload_n hx hb dJ7_fill_53178_10 rfl (lv_at hl 2 rfl) ?_
        refine lv_iload_n hx hb dJ7_fill_53178_11 rfl (lv_at hl 1 rfl) ?_
        refine lv_iload_n hx hb dJ7_fill_53178_12 rfl (lv_at hl 3 rfl) ?_
        refine q_iast E hC hS g0 hw hr hA (i_in ez (by omega) (by omega)) (hF _ ▸ tv_I rfl hb9.1 hb9.2) dJ7_fill_53178_13 (fun H1 locs1 hC1 hS1 U => ?_)
        obtain ⟨w, ew⟩ : ∃ w, w = v + Int32.ofInt 1 := ⟨_, rfl⟩
        have ewi : w.toInt = (z + 1) := i_add ew ez (by decide) (by omega) (by omega)
        refine lv_iinc hx hb dJ7_fill_53178_14 hl (k := 1) rfl ew.symm (by decide) rfl (fun ls hl => ?_)
        refine lv_goto (tgt := 5) hx hb dJ7_fill_53178_17 rfl ?_
        refine ih H1 locs1 w (z + 1) ls (by omega) ewi (by omega) hC1 hS1 (fun q hq j => ?_) (fun j hj => ?_) (lv_sub hl [1, 0, 2, 3] rfl)
        · rw [← hCp q hq j]
          exact U.2 q j (fun h => hq h.1)
        · have U := (i_ix ez ▸ U)
          by_cases hjz : j = z.toNat
          · subst hjz; exact up_I U
          · rw [up_nI U (fun h => hjz h.2)]; exact hfl j (by omega)
  exact L _ H0 [] 0 0 ls (Nat.lt_succ_self _) (by decide) (by omega) hC0 hS0 (fun _ _ _ => rfl) (fun j hj => by omega) hl
