set_option maxRecDepth 100000 in
set_option maxHeartbeats 8000000 in
theorem sg_rnd (l : Launch) {p : Program} {e : Env} {s : State} {m : MethodId} {args : Array Value} {below : List Frame} {meth : Method} {c : Code} {X : xW} {Γ : Nat → Option Nat} {Qz : State → Prop} (E : Ev p s m args meth c cL_law 15 "SnowFortsLaw" ret X Γ s.heap) (H0 : Heap) (hC0 : Conf X Γ H0) (locs0 : List Loc) (hS0 : va_S (AΓ Γ) s.heap H0 locs0) (h0 : Nat) (mm ha : Nat) (hsl9 : sln X ≤ 260) (v6 : Int32) {z6 : Int} (ev6 : v6.toInt = z6) (v5 : Int32) {z5 : Int} (ev5 : v5.toInt = z5) (v4 : Int32) {z4 : Int} (ev4 : v4.toInt = z4) (hz6 : 0 ≤ z6 ∧ z6 ≤ 4) {ls : Array Slot} (hl : lv_has ls 15 [(6, .int v6), (5, .int v5), (4, .int v4), (0, .ref (sad X)), (1, .ref h0), (2, .ref mm), (3, .ref ha)]) (hk : ∀ (H1 : Heap) (locs1 : List Loc) (y7 : Int32) (u7 : Int) (ls : Array Slot), Conf X Γ H1 → va_S (AΓ Γ) s.heap H1 locs1 → Kp X Γ [3, 29, 31, 32, 33, 34, 37, 39, 40, 50, 51, 52, 53, 54, 55, 56, 57, 58, 59, 60, 61, 62, 63, 65, 67, 68, 69, 70, 71, 72] H0 H1 → y7.toInt = u7 → lv_has ls 15 [(7, .int y7), (6, .int v6), (5, .int v5), (4, .int v4), (0, .ref (sad X)), (1, .ref h0), (2, .ref mm), (3, .ref ha)] → W p l e room_1 s m args below meth c H1 locs1 133 8682 Qz (F0 m 109 ls [])) : W p l e room_1 s m args below meth c H0 locs0 133 8682 Qz (F0 m 77 ls []) := by
  have hx := E.1; have hb := E.2.1
  have hKp0 : Kp X Γ [3, 29, 31, 32, 33, 34, 37, 39, 40, 50, 51, 52, 53, 54, 55, 56, 57, 58, 59, 60, 61, 62, 63, 65, 67, 68, 69, 70, 71, 72] H0 H0 := Kp.rf
  refine lv_iload hx hb dL_law_77 (lv_at hl 0 rfl) ?_
  refine lv_aload_n hx hb dL_law_79 rfl (lv_at hl 3 rfl) ?_
  refine q_lenX E hS0 dL_law_80 ?_
  have J107 : ∀ (v21 : Int32) (z21 : Int), v21.toInt = z21 → W p l e room_1 s m args below meth c H0 locs0 133 8682 Qz (F0 m 107 ls [.int v21]) := by
    intro v21 z21 ev21
    refine lv_istore hx hb dL_law_107 hl (by decide) rfl (fun ls hl => ?_)
    replace hl : lv_has ls 15 [(7, .int v21), (6, .int v6), (5, .int v5), (4, .int v4), (0, .ref (sad X)), (1, .ref h0), (2, .ref mm), (3, .ref ha)] := hl
    exact hk H0 locs0 v21 (z21) ls hC0 hS0 hKp0 ev21 (lv_sub hl [0, 1, 2, 3, 4, 5, 6, 7] rfl)
  refine q_icmp_ge hx hb (a := z6) (b := ((sln X : Nat) : Int)) ev6 (slnI hsl9) (tgt := 99) dL_law_81 rfl (fun c22 => ?_) (fun c22 => ?_)
  · refine lv_bipush (v := 91) hx hb dL_law_99 rfl ?_
    refine lv_iload hx hb dL_law_101 (lv_at hl 0 rfl) ?_
    refine lv_imul hx hb dL_law_103 (lv_topi (fun v23 ev23 => ?_))
    have ev23i : v23.toInt = (91 * z6) := i_mul ev23 (by decide) ev6 (by omega) (by omega)
    refine lv_iload hx hb dL_law_104 (lv_at hl 2 rfl) ?_
    refine lv_iadd hx hb dL_law_106 (lv_topi (fun v24 ev24 => ?_))
    exact J107 v24 (v24.toInt) rfl
  · refine lv_aload_n hx hb dL_law_84 rfl (lv_at hl 3 rfl) ?_
    refine lv_iload hx hb dL_law_85 (lv_at hl 0 rfl) ?_
    refine q_ldX E hS0 (a := z6) ev6 (by omega) (by omega) dL_law_87 (fun v25 => ?_)
    refine lv_iconst (v := 3) hx hb dL_law_88 rfl ?_
    refine lv_ishr hx hb dL_law_89 (lv_topi (fun v26 ev26 => ?_))
    refine lv_bipush (v := 7) hx hb dL_law_90 rfl ?_
    refine lv_iload hx hb dL_law_92 (lv_at hl 0 rfl) ?_
    refine lv_imul hx hb dL_law_94 (lv_topi (fun v27 ev27 => ?_))
    have ev27i : v27.toInt = (7 * z6) := i_mul ev27 (by decide) ev6 (by omega) (by omega)
    refine lv_ixor hx hb dL_law_95 (lv_topi (fun v28 ev28 => ?_))
    refine lv_goto (tgt := 107) hx hb dL_law_96 rfl ?_
    exact J107 v28 (v28.toInt) rfl
