theorem tix_1 {w : Cond} (j : Nat) (hj : tables_1_1[j]? = some w) : w ∈ lw_tbl := by
  have h := List.mem_of_getElem? hj
  exact List.mem_append_right _ (show w ∈ tables_1 from List.mem_append_left _ h)
theorem tix_2 {w : Cond} (j : Nat) (hj : tables_1_2[j]? = some w) : w ∈ lw_tbl := by
  have h := List.mem_of_getElem? hj
  exact List.mem_append_right _ (show w ∈ tables_1 from List.mem_append_right _ (List.mem_append_left _ h))
theorem tix_3 {w : Cond} (j : Nat) (hj : tables_1_3[j]? = some w) : w ∈ lw_tbl := by
  have h := List.mem_of_getElem? hj
  exact List.mem_append_right _ (show w ∈ tables_1 from List.mem_append_right _ (List.mem_append_right _ (List.mem_append_left _ h)))
theorem tix_4 {w : Cond} (j : Nat) (hj : tables_1_4[j]? = some w) : w ∈ lw_tbl := by
  have h := List.mem_of_getElem? hj
  exact List.mem_append_right _ (show w ∈ tables_1 from List.mem_append_right _ (List.mem_append_right _ (List.mem_append_right _ (List.mem_append_left _ h))))
theorem tix_5 {w : Cond} (j : Nat) (hj : tables_1_5[j]? = some w) : w ∈ lw_tbl := by
  have h := List.mem_of_getElem? hj
  exact List.mem_append_right _ (show w ∈ tables_1 from List.mem_append_right _ (List.mem_append_right _ (List.mem_append_right _ (List.mem_append_right _ (List.mem_append_left _ h)))))
theorem tix_6 {w : Cond} (j : Nat) (hj : tables_1_6[j]? = some w) : w ∈ lw_tbl := by
  have h := List.mem_of_getElem? hj
  exact List.mem_append_right _ (show w ∈ tables_1 from List.mem_append_right _ (List.mem_append_right _ (List.mem_append_right _ (List.mem_append_right _ (List.mem_append_right _ (List.mem_append_left _ h))))))
theorem tix_7 {w : Cond} (j : Nat) (hj : tables_1_7[j]? = some w) : w ∈ lw_tbl := by
  have h := List.mem_of_getElem? hj
  exact List.mem_append_right _ (show w ∈ tables_1 from List.mem_append_right _ (List.mem_append_right _ (List.mem_append_right _ (List.mem_append_right _ (List.mem_append_right _ (List.mem_append_right _ (List.mem_append_left _ h)))))))
theorem tix_8 {w : Cond} (j : Nat) (hj : tables_1_8[j]? = some w) : w ∈ lw_tbl := by
  have h := List.mem_of_getElem? hj
  exact List.mem_append_right _ (show w ∈ tables_1 from List.mem_append_right _ (List.mem_append_right _ (List.mem_append_right _ (List.mem_append_right _ (List.mem_append_right _ (List.mem_append_right _ (List.mem_append_right _ (List.mem_append_left _ h))))))))
theorem tix_9 {w : Cond} (j : Nat) (hj : tables_1_9[j]? = some w) : w ∈ lw_tbl := by
  have h := List.mem_of_getElem? hj
  exact List.mem_append_right _ (show w ∈ tables_1 from List.mem_append_right _ (List.mem_append_right _ (List.mem_append_right _ (List.mem_append_right _ (List.mem_append_right _ (List.mem_append_right _ (List.mem_append_right _ (List.mem_append_right _ (h)))))))))
theorem st_prim {s : State} {args : Array Value} {ty : FieldType} (h : (Cond.arrayClass ty).before args s = true) (hp : ∀ cA, s.vm.findClass ("[" ++ ty.toString) = some cA → va_RA s cA ty) : ∃ cA : ClassId, ArrOfT s cA ty ∧ va_RA s cA ty := by
  obtain ⟨cA, kA', comp, hf, hk, hkind⟩ := Cond.arrayClass_spec h
  exact ⟨cA, fun n z => ⟨(fun k h => by cases h), kA', hk, comp, hkind⟩, hp _ hf⟩
theorem st_ref {s : State} {args : Array Value} {C : String} (h : (Cond.arrayOver (.object C)).before args s = true) : ∃ cA : ClassId, ArrOfT s cA (.object C) ∧ va_RA s cA (.object C) := by
  obtain ⟨comp, cA, kA', hcomp, hidx, hkA, hkindA, hnameA⟩ := Cond.arrayOver_spec h
  exact ⟨cA, fun n z => ⟨(fun k h => by cases h), kA', hkA, comp, hkindA⟩, kA', comp, hkA, hkindA, hcomp, hnameA⟩
set_option maxRecDepth 100000 in
theorem st_X {s : State} {args : Array Value} (hG : ∀ w ∈ GW, w.before args s = true) (hts : ∀ w ∈ lw_tbl, w.before args s = true) : ∃ X : xW, va_K X.1 vwCl (xty X) s := by
  obtain ⟨c0, i0, k0⟩ := u_known (C := RX0) (T := TX0) (N := 4) (n := 4) hG wsin_X0 (hts _ (tix_2 92 rfl))
  obtain ⟨c1, i1, k1⟩ := u_known (C := RX1) (T := TX1) (N := 4) (n := 4) hG wsin_X1 (hts _ (tix_2 115 rfl))
  obtain ⟨c2, i2, k2⟩ := u_known (C := RX2) (T := TX2) (N := 9) (n := 9) hG wsin_X2 (hts _ (tix_2 5 rfl))
  obtain ⟨c3, i3, k3⟩ := u_known (C := RX3) (T := TX3) (N := 4) (n := 4) hG wsin_X3 (hts _ (tix_1 146 rfl))
  obtain ⟨c4, i4, k4⟩ := u_known (C := RX4) (T := TX4) (N := 17) (n := 17) hG wsin_X4 (hts _ (tix_1 48 rfl))
  obtain ⟨c5, i5, k5⟩ := u_known (C := RX5) (T := TX5) (N := 7) (n := 7) hG wsin_X5 (hts _ (tix_2 136 rfl))
  obtain ⟨c6, i6, k6⟩ := u_known (C := RX6) (T := TX6) (N := 3) (n := 3) hG wsin_X6 (hts _ (tix_1 28 rfl))
  obtain ⟨c7, i7, k7⟩ := u_known (C := RX7) (T := TX7) (N := 8) (n := 8) hG wsin_X7 (hts _ (tix_2 59 rfl))
  obtain ⟨c8, i8, k8⟩ := u_known (C := RX9) (T := TX9) (N := 18) (n := 18) hG wsin_X9 (hts _ (tix_1 165 rfl))
  obtain ⟨c9, i9, k9⟩ := u_known (C := RX10) (T := TX10) (N := 5) (n := 5) hG wsin_X10 (hts _ (tix_1 124 rfl))
  obtain ⟨c10, i10, k10⟩ := u_known (C := RX11) (T := TX11) (N := 18) (n := 18) hG wsin_X11 (hts _ (tix_1 19 rfl))
  obtain ⟨c11, i11, k11⟩ := u_known (C := RX12) (T := TX12) (N := 42) (n := 42) hG wsin_X12 (hts _ (tix_6 99 rfl))
  obtain ⟨a0, A0⟩ := st_prim (hts _ (tix_1 121 rfl)) (fun _ h => h)
  obtain ⟨a1, A1⟩ := st_prim (hts _ (tix_1 122 rfl)) (fun _ h => h)
  obtain ⟨a2, A2⟩ := st_prim (hts _ (tix_1 46 rfl)) (fun _ h => h)
  obtain ⟨a3, A3⟩ := st_prim (hts _ (tix_2 164 rfl)) (fun _ h => h)
  obtain ⟨a4, A4⟩ := st_ref (hts _ (tix_1 27 rfl))
  obtain ⟨a5, A5⟩ := st_ref (hts _ (tix_2 56 rfl))
  obtain ⟨a6, A6⟩ := st_ref (hts _ (tix_2 57 rfl))
  obtain ⟨a7, A7⟩ := st_ref (hts _ (tix_1 54 rfl))
  refine ⟨((fun k => match k with | 0 => c0 | 1 => c1 | 2 => c2 | 3 => c3 | 4 => c4 | 5 => c5 | 6 => c6 | 7 => c7 | 8 => c8 | 9 => c9 | 10 => c10 | _ => c11, fun k => match k with | 0 => i0 | 1 => i1 | 2 => i2 | 3 => i3 | 4 => i4 | 5 => i5 | 6 => i6 | 7 => i7 | 8 => i8 | 9 => i9 | 10 => i10 | _ => i11), fun t => match t with | 0 => a0 | 1 => a1 | 2 => a2 | 3 => a3 | 4 => a4 | 5 => a5 | 6 => a6 | _ => a7), ?_, ?_⟩
  · intro k q hq
    match k, hq with
    | 0, hq => cases hq; exact k0
    | 1, hq => cases hq; exact k1
    | 2, hq => cases hq; exact k2
    | 3, hq => cases hq; exact k3
    | 4, hq => cases hq; exact k4
    | 5, hq => cases hq; exact k5
    | 6, hq => cases hq; exact k6
    | 7, hq => cases hq; exact k7
    | 8, hq => cases hq; exact k8
    | 9, hq => cases hq; exact k9
    | 10, hq => cases hq; exact k10
    | 11, hq => cases hq; exact k11
    | k + 12, hq => cases hq
  · intro k q hq
    match k, hq with
    | 0, hq => cases hq; exact A0
    | 1, hq => cases hq; exact A1
    | 2, hq => cases hq; exact A2
    | 3, hq => cases hq; exact A3
    | 4, hq => cases hq; exact A4
    | 5, hq => cases hq; exact A5
    | 6, hq => cases hq; exact A6
    | 7, hq => cases hq; exact A7
    | k + 8, hq => cases hq
set_option maxRecDepth 100000 in
theorem st_ap {s : State} {args : Array Value} {X : xW} (hG : ∀ w ∈ GW, w.before args s = true) (hK : va_K X.1 vwCl (xty X) s) : ∀ (ci : Nat) (q : vw_C), vwCl[ci]? = some q → ∀ x y, x < q.2.2 → y < q.2.2 → x ≠ y → X.1.2 ci x ≠ X.1.2 ci y := by
  intro k q hq
  match k, hq with
  | 0, hq => cases hq; exact va_apart (D := X.1) (cl := vwCl) (tys := xty X) (own := "") (ci := 0) hG wsin_X0 (fun k => ([.long, .int, .int, .int] : List FieldType).getD k .int) (by decide +kernel) (by decide +kernel) hK rfl
  | 1, hq => cases hq; exact va_apart (D := X.1) (cl := vwCl) (tys := xty X) (own := "") (ci := 1) hG wsin_X1 (fun k => ([.long, .long, (.array .long), .long] : List FieldType).getD k .int) (by decide +kernel) (by decide +kernel) hK rfl
  | 2, hq => cases hq; exact va_apart (D := X.1) (cl := vwCl) (tys := xty X) (own := "") (ci := 2) hG wsin_X2 (fun k => ([.boolean, .int, .int, (.array .int), (.array .int), (.array .int), (.array .int), (.array .int), (.array .int)] : List FieldType).getD k .int) (by decide +kernel) (by decide +kernel) hK rfl
  | 3, hq => cases hq; exact va_apart (D := X.1) (cl := vwCl) (tys := xty X) (own := "") (ci := 3) hG wsin_X3 (fun k => ([(.object "SnowForts$Reader"), (.array .int), .int, .int] : List FieldType).getD k .int) (by decide +kernel) (by decide +kernel) hK rfl
  | 4, hq => cases hq; exact va_apart (D := X.1) (cl := vwCl) (tys := xty X) (own := "") (ci := 4) hG wsin_X4 (fun k => ([(.array .byte), .int, (.array .int), (.array .int), (.array .long), (.array (.object "SnowForts$Word")), .int, .int, .int, .int, .int, .long, (.object "SnowForts$Word"), .int, .int, .int, .int] : List FieldType).getD k .int) (by decide +kernel) (by decide +kernel) hK rfl
  | 5, hq => cases hq; exact va_apart (D := X.1) (cl := vwCl) (tys := xty X) (own := "") (ci := 5) hG wsin_X5 (fun k => ([.int, .int, .int, .int, .boolean, .int, (.array .int)] : List FieldType).getD k .int) (by decide +kernel) (by decide +kernel) hK rfl
  | 6, hq => cases hq; exact va_apart (D := X.1) (cl := vwCl) (tys := xty X) (own := "") (ci := 6) hG wsin_X6 (fun k => ([(.array .long), .int, .int] : List FieldType).getD k .int) (by decide +kernel) (by decide +kernel) hK rfl
  | 7, hq => cases hq; exact va_apart (D := X.1) (cl := vwCl) (tys := xty X) (own := "") (ci := 7) hG wsin_X7 (fun k => ([(.array .int), .int, (.array .int), (.array .int), .int, .int, .int, .int] : List FieldType).getD k .int) (by decide +kernel) (by decide +kernel) hK rfl
  | 8, hq => cases hq; exact va_apart (D := X.1) (cl := vwCl) (tys := xty X) (own := "") (ci := 8) hG wsin_X9 (fun k => ([.int, .int, .int, .int, .int, .int, .int, (.array .int), (.array .int), (.array .int), (.array .int), (.array .int), (.array .int), (.array .int), (.array .int), (.array .int), (.array .int), (.array .int)] : List FieldType).getD k .int) (by decide +kernel) (by decide +kernel) hK rfl
  | 9, hq => cases hq; exact va_apart (D := X.1) (cl := vwCl) (tys := xty X) (own := "") (ci := 9) hG wsin_X10 (fun k => ([(.object "SnowForts$Reader"), (.array .int), (.array .int), (.array .int), .long] : List FieldType).getD k .int) (by decide +kernel) (by decide +kernel) hK rfl
  | 10, hq => cases hq; exact va_apart (D := X.1) (cl := vwCl) (tys := xty X) (own := "") (ci := 10) hG wsin_X11 (fun k => ([.int, (.array (.object "SnowForts$Tray")), (.object "SnowForts$Reader"), (.object "SnowForts$YardText"), (.object "SnowForts$OrdersText"), (.object "SnowForts$Yard"), (.object "SnowForts$Yard"), (.object "SnowForts$Orders"), (.object "SnowForts$Orders"), (.array (.object "SnowForts$Yard")), (.array (.object "SnowForts$Orders")), .int, (.object "SnowForts$Walk"), (.object "SnowForts$Mornings"), (.object "SnowForts$Odds"), (.array .boolean), (.object "SnowForts$Runner"), (.object "SnowForts$Runner")] : List FieldType).getD k .int) (by decide +kernel) (by decide +kernel) hK rfl
  | 11, hq => cases hq; exact va_apart (D := X.1) (cl := vwCl) (tys := xty X) (own := "") (ci := 11) hG wsin_X12 (fun k => ([.int, .int, .long, .long, (.array .int), (.array .int), (.array .long), (.array .byte), .int, .int, .int, .int, .int, .int, .int, .int, .int, .int, .int, .long, (.array .int), (.array .int), (.array .int), (.array .long), .int, .int, (.array .int), (.array .int), .int, (.array .int), .boolean, (.array .boolean), (.array .long), (.array .long), (.array .int), .boolean, .boolean, .int, .int, .int, .int, .int] : List FieldType).getD k .int) (by decide +kernel) (by decide +kernel) hK rfl
  | k + 12, hq => cases hq
theorem st_obj {args : Array Value} {s : State} {E d nm : String} {A : Nat → Prop} (hl : (Cond.laysStatic E nm d).before args s = true) (hini : (Cond.initialized E).before args s = true) (hex : (Cond.exactly (.static E nm d) E).before args s = true) (hA : ∀ a : Nat, a < s.heap.size → ¬ A a) : ∃ t : Nat, (Term.static E nm d).eval args s none [] s = some (.ref t) ∧ va_Z E nm d (.ref t) A s s.heap ∧ va_O E t A s s.heap := by
  obtain ⟨a, c, cell, k, q1, q2, q3, q4, q5, q6, -⟩ := Cond.exactly_spec hex
  exact ⟨a, q1, va_Zref hl hini q1 hA, cell, q3, q5, by rw [q6]; exact q2, hA a (Array.getElem?_eq_some_iff.mp q3).1⟩
set_option maxRecDepth 100000 in
set_option maxHeartbeats 8000000 in
theorem st_cst {s : State} {args : Array Value} (hts : ∀ w ∈ lw_tbl, w.before args s = true) (hg : (Jvm.Cond.and given_1 narrow_1).before args s = true) : ∃ Γ : Nat → Option Nat, Cst Γ s s.heap ∧ NwG Γ s.heap.size s.heap ∧ (∀ x k, Γ x = some k → k = 12 ∨ k = 13) := by
  have hs := flat_of_before _ hg
  have hA : ∀ a : Nat, a < s.heap.size → ¬ (fun q : Nat => s.heap.size ≤ q) a := fun a h => Nat.not_le.mpr h
  obtain ⟨tR, eR, TR⟩ := va_Tof (tm := (.static "SnowForts$Walk" "RIGHT" "[I")) (ty := .int) (N := 4) (f := fRIGHT) (A := fun q : Nat => s.heap.size ≤ q) (by decide) (hs (.arrayOf (.static "SnowForts$Walk" "RIGHT" "[I") .int) (by decide +kernel)) (va_eqv (hs (.eq (.length (.static "SnowForts$Walk" "RIGHT" "[I")) (.int 4)) (by decide +kernel)) rfl) (fun j hj => by
    match j, hj with
    | 0, _ => exact va_eqv (hs (.eq (.elem (.static "SnowForts$Walk" "RIGHT" "[I") (.int 0)) (.int 1)) (by decide +kernel)) rfl
    | 1, _ => exact va_eqv (hs (.eq (.elem (.static "SnowForts$Walk" "RIGHT" "[I") (.int 1)) (.int 0)) (by decide +kernel)) rfl
    | 2, _ => exact va_eqv (hs (.eq (.elem (.static "SnowForts$Walk" "RIGHT" "[I") (.int 2)) (.int 0)) (by decide +kernel)) rfl
    | 3, _ => exact va_eqv (hs (.eq (.elem (.static "SnowForts$Walk" "RIGHT" "[I") (.int 3)) (.int (-1))) (by decide +kernel)) rfl
    | j + 4, hj => omega) hA
  have ZR := va_Zref (hts _ (tix_5 130 rfl)) (hts _ (tix_1 8 rfl)) eR hA
  obtain ⟨tD, eD, TD⟩ := va_Tof (tm := (.static "SnowForts$Walk" "DOWN" "[I")) (ty := .int) (N := 4) (f := fDOWN) (A := fun q : Nat => s.heap.size ≤ q) (by decide) (hs (.arrayOf (.static "SnowForts$Walk" "DOWN" "[I") .int) (by decide +kernel)) (va_eqv (hs (.eq (.length (.static "SnowForts$Walk" "DOWN" "[I")) (.int 4)) (by decide +kernel)) rfl) (fun j hj => by
    match j, hj with
    | 0, _ => exact va_eqv (hs (.eq (.elem (.static "SnowForts$Walk" "DOWN" "[I") (.int 0)) (.int 0)) (by decide +kernel)) rfl
    | 1, _ => exact va_eqv (hs (.eq (.elem (.static "SnowForts$Walk" "DOWN" "[I") (.int 1)) (.int 1)) (by decide +kernel)) rfl
    | 2, _ => exact va_eqv (hs (.eq (.elem (.static "SnowForts$Walk" "DOWN" "[I") (.int 2)) (.int (-1))) (by decide +kernel)) rfl
    | 3, _ => exact va_eqv (hs (.eq (.elem (.static "SnowForts$Walk" "DOWN" "[I") (.int 3)) (.int 0)) (by decide +kernel)) rfl
    | j + 4, hj => omega) hA
  have ZD := va_Zref (hts _ (tix_5 132 rfl)) (hts _ (tix_1 8 rfl)) eD hA
  obtain ⟨w0, e0, z0, o0⟩ := st_obj (A := fun q : Nat => s.heap.size ≤ q) (hts _ (tix_3 139 rfl)) (hts _ (tix_1 17 rfl)) (hs (.exactly (.static "SnowForts$Word" "WIDE" "LSnowForts$Word;") "SnowForts$Word") (by decide +kernel)) hA
  obtain ⟨w1, e1, z1, o1⟩ := st_obj (A := fun q : Nat => s.heap.size ≤ q) (hts _ (tix_3 159 rfl)) (hts _ (tix_1 17 rfl)) (hs (.exactly (.static "SnowForts$Word" "HIGH" "LSnowForts$Word;") "SnowForts$Word") (by decide +kernel)) hA
  obtain ⟨w2, e2, z2, o2⟩ := st_obj (A := fun q : Nat => s.heap.size ≤ q) (hts _ (tix_3 169 rfl)) (hts _ (tix_1 17 rfl)) (hs (.exactly (.static "SnowForts$Word" "SCHOOL" "LSnowForts$Word;") "SnowForts$Word") (by decide +kernel)) hA
  obtain ⟨w3, e3, z3, o3⟩ := st_obj (A := fun q : Nat => s.heap.size ≤ q) (hts _ (tix_3 182 rfl)) (hts _ (tix_1 17 rfl)) (hs (.exactly (.static "SnowForts$Word" "HANDS" "LSnowForts$Word;") "SnowForts$Word") (by decide +kernel)) hA
  obtain ⟨w4, e4, z4, o4⟩ := st_obj (A := fun q : Nat => s.heap.size ≤ q) (hts _ (tix_3 184 rfl)) (hts _ (tix_1 17 rfl)) (hs (.exactly (.static "SnowForts$Word" "SNOW" "LSnowForts$Word;") "SnowForts$Word") (by decide +kernel)) hA
  obtain ⟨w5, e5, z5, o5⟩ := st_obj (A := fun q : Nat => s.heap.size ≤ q) (hts _ (tix_3 186 rfl)) (hts _ (tix_1 17 rfl)) (hs (.exactly (.static "SnowForts$Word" "DEEP" "LSnowForts$Word;") "SnowForts$Word") (by decide +kernel)) hA
  obtain ⟨w6, e6, z6, o6⟩ := st_obj (A := fun q : Nat => s.heap.size ≤ q) (hts _ (tix_3 192 rfl)) (hts _ (tix_1 17 rfl)) (hs (.exactly (.static "SnowForts$Word" "WALL" "LSnowForts$Word;") "SnowForts$Word") (by decide +kernel)) hA
  obtain ⟨w7, e7, z7, o7⟩ := st_obj (A := fun q : Nat => s.heap.size ≤ q) (hts _ (tix_3 194 rfl)) (hts _ (tix_1 17 rfl)) (hs (.exactly (.static "SnowForts$Word" "TALL" "LSnowForts$Word;") "SnowForts$Word") (by decide +kernel)) hA
  obtain ⟨w8, e8, z8, o8⟩ := st_obj (A := fun q : Nat => s.heap.size ≤ q) (hts _ (tix_3 196 rfl)) (hts _ (tix_1 17 rfl)) (hs (.exactly (.static "SnowForts$Word" "SUN" "LSnowForts$Word;") "SnowForts$Word") (by decide +kernel)) hA
  obtain ⟨w9, e9, z9, o9⟩ := st_obj (A := fun q : Nat => s.heap.size ≤ q) (hts _ (tix_3 198 rfl)) (hts _ (tix_1 17 rfl)) (hs (.exactly (.static "SnowForts$Word" "BY" "LSnowForts$Word;") "SnowForts$Word") (by decide +kernel)) hA
  obtain ⟨w10, e10, z10, o10⟩ := st_obj (A := fun q : Nat => s.heap.size ≤ q) (hts _ (tix_3 200 rfl)) (hts _ (tix_1 17 rfl)) (hs (.exactly (.static "SnowForts$Word" "NO" "LSnowForts$Word;") "SnowForts$Word") (by decide +kernel)) hA
  obtain ⟨w11, e11, z11, o11⟩ := st_obj (A := fun q : Nat => s.heap.size ≤ q) (hts _ (tix_3 210 rfl)) (hts _ (tix_1 17 rfl)) (hs (.exactly (.static "SnowForts$Word" "ABOVE" "LSnowForts$Word;") "SnowForts$Word") (by decide +kernel)) hA
  obtain ⟨w12, e12, z12, o12⟩ := st_obj (A := fun q : Nat => s.heap.size ≤ q) (hts _ (tix_3 216 rfl)) (hts _ (tix_1 17 rfl)) (hs (.exactly (.static "SnowForts$Word" "BUILD" "LSnowForts$Word;") "SnowForts$Word") (by decide +kernel)) hA
  obtain ⟨w13, e13, z13, o13⟩ := st_obj (A := fun q : Nat => s.heap.size ≤ q) (hts _ (tix_3 218 rfl)) (hts _ (tix_1 17 rfl)) (hs (.exactly (.static "SnowForts$Word" "BEHIND" "LSnowForts$Word;") "SnowForts$Word") (by decide +kernel)) hA
  obtain ⟨w14, e14, z14, o14⟩ := st_obj (A := fun q : Nat => s.heap.size ≤ q) (hts _ (tix_3 222 rfl)) (hts _ (tix_1 17 rfl)) (hs (.exactly (.static "SnowForts$Word" "STEAL" "LSnowForts$Word;") "SnowForts$Word") (by decide +kernel)) hA
  obtain ⟨w15, e15, z15, o15⟩ := st_obj (A := fun q : Nat => s.heap.size ≤ q) (hts _ (tix_3 220 rfl)) (hts _ (tix_1 17 rfl)) (hs (.exactly (.static "SnowForts$Word" "ICE" "LSnowForts$Word;") "SnowForts$Word") (by decide +kernel)) hA
  obtain ⟨w16, e16, z16, o16⟩ := st_obj (A := fun q : Nat => s.heap.size ≤ q) (hts _ (tix_4 22 rfl)) (hts _ (tix_1 17 rfl)) (hs (.exactly (.static "SnowForts$Word" "FALL" "LSnowForts$Word;") "SnowForts$Word") (by decide +kernel)) hA
  obtain ⟨w17, e17, z17, o17⟩ := st_obj (A := fun q : Nat => s.heap.size ≤ q) (hts _ (tix_4 24 rfl)) (hts _ (tix_1 17 rfl)) (hs (.exactly (.static "SnowForts$Word" "THAW" "LSnowForts$Word;") "SnowForts$Word") (by decide +kernel)) hA
  obtain ⟨w18, e18, z18, o18⟩ := st_obj (A := fun q : Nat => s.heap.size ≤ q) (hts _ (tix_4 26 rfl)) (hts _ (tix_1 17 rfl)) (hs (.exactly (.static "SnowForts$Word" "STORM" "LSnowForts$Word;") "SnowForts$Word") (by decide +kernel)) hA
  obtain ⟨w19, e19, z19, o19⟩ := st_obj (A := fun q : Nat => s.heap.size ≤ q) (hts _ (tix_4 80 rfl)) (hts _ (tix_1 17 rfl)) (hs (.exactly (.static "SnowForts$Word" "TO" "LSnowForts$Word;") "SnowForts$Word") (by decide +kernel)) hA
  obtain ⟨w20, e20, z20, o20⟩ := st_obj (A := fun q : Nat => s.heap.size ≤ q) (hts _ (tix_4 31 rfl)) (hts _ (tix_1 17 rfl)) (hs (.exactly (.static "SnowForts$Word" "NIGHT" "LSnowForts$Word;") "SnowForts$Word") (by decide +kernel)) hA
  obtain ⟨w21, e21, z21, o21⟩ := st_obj (A := fun q : Nat => s.heap.size ≤ q) (hts _ (tix_4 84 rfl)) (hts _ (tix_1 17 rfl)) (hs (.exactly (.static "SnowForts$Word" "FROM" "LSnowForts$Word;") "SnowForts$Word") (by decide +kernel)) hA
  obtain ⟨w22, e22, z22, o22⟩ := st_obj (A := fun q : Nat => s.heap.size ≤ q) (hts _ (tix_4 33 rfl)) (hts _ (tix_1 17 rfl)) (hs (.exactly (.static "SnowForts$Word" "WHEN" "LSnowForts$Word;") "SnowForts$Word") (by decide +kernel)) hA
  obtain ⟨w23, e23, z23, o23⟩ := st_obj (A := fun q : Nat => s.heap.size ≤ q) (hts _ (tix_4 46 rfl)) (hts _ (tix_1 17 rfl)) (hs (.exactly (.static "SnowForts$Word" "DAY" "LSnowForts$Word;") "SnowForts$Word") (by decide +kernel)) hA
  obtain ⟨w24, e24, z24, o24⟩ := st_obj (A := fun q : Nat => s.heap.size ≤ q) (hts _ (tix_4 44 rfl)) (hts _ (tix_1 17 rfl)) (hs (.exactly (.static "SnowForts$Word" "BREACH" "LSnowForts$Word;") "SnowForts$Word") (by decide +kernel)) hA
  obtain ⟨w25, e25, z25, o25⟩ := st_obj (A := fun q : Nat => s.heap.size ≤ q) (hts _ (tix_4 49 rfl)) (hts _ (tix_1 17 rfl)) (hs (.exactly (.static "SnowForts$Word" "WAY" "LSnowForts$Word;") "SnowForts$Word") (by decide +kernel)) hA
  obtain ⟨w26, e26, z26, o26⟩ := st_obj (A := fun q : Nat => s.heap.size ≤ q) (hts _ (tix_4 35 rfl)) (hts _ (tix_1 17 rfl)) (hs (.exactly (.static "SnowForts$Word" "LOOP" "LSnowForts$Word;") "SnowForts$Word") (by decide +kernel)) hA
  obtain ⟨w27, e27, z27, o27⟩ := st_obj (A := fun q : Nat => s.heap.size ≤ q) (hts _ (tix_4 3 rfl)) (hts _ (tix_1 17 rfl)) (hs (.exactly (.static "SnowForts$Word" "END" "LSnowForts$Word;") "SnowForts$Word") (by decide +kernel)) hA
  obtain ⟨w28, e28, z28, o28⟩ := st_obj (A := fun q : Nat => s.heap.size ≤ q) (hts _ (tix_4 37 rfl)) (hts _ (tix_1 17 rfl)) (hs (.exactly (.static "SnowForts$Word" "STOP" "LSnowForts$Word;") "SnowForts$Word") (by decide +kernel)) hA
  obtain ⟨ad, had⟩ : ∃ ad : Nat → Nat, ad 0 = w0 ∧ ad 1 = w1 ∧ ad 2 = w2 ∧ ad 3 = w3 ∧ ad 4 = w4 ∧ ad 5 = w5 ∧ ad 6 = w6 ∧ ad 7 = w7 ∧ ad 8 = w8 ∧ ad 9 = w9 ∧ ad 10 = w10 ∧ ad 11 = w11 ∧ ad 12 = w12 ∧ ad 13 = w13 ∧ ad 14 = w14 ∧ ad 15 = w15 ∧ ad 16 = w16 ∧ ad 17 = w17 ∧ ad 18 = w18 ∧ ad 19 = w19 ∧ ad 20 = w20 ∧ ad 21 = w21 ∧ ad 22 = w22 ∧ ad 23 = w23 ∧ ad 24 = w24 ∧ ad 25 = w25 ∧ ad 26 = w26 ∧ ad 27 = w27 ∧ ad 28 = w28 := ⟨fun i => match i with | 0 => w0 | 1 => w1 | 2 => w2 | 3 => w3 | 4 => w4 | 5 => w5 | 6 => w6 | 7 => w7 | 8 => w8 | 9 => w9 | 10 => w10 | 11 => w11 | 12 => w12 | 13 => w13 | 14 => w14 | 15 => w15 | 16 => w16 | 17 => w17 | 18 => w18 | 19 => w19 | 20 => w20 | 21 => w21 | 22 => w22 | 23 => w23 | 24 => w24 | 25 => w25 | 26 => w26 | 27 => w27 | _ => w28, rfl, rfl, rfl, rfl, rfl, rfl, rfl, rfl, rfl, rfl, rfl, rfl, rfl, rfl, rfl, rfl, rfl, rfl, rfl, rfl, rfl, rfl, rfl, rfl, rfl, rfl, rfl, rfl, rfl⟩
  obtain ⟨d0, d1, d2, d3, d4, d5, d6, d7, d8, d9, d10, d11, d12, d13, d14, d15, d16, d17, d18, d19, d20, d21, d22, d23, d24, d25, d26, d27, d28⟩ := had
  obtain ⟨tA, eA, TA⟩ := va_Tof (tm := (.static "SnowForts$Word" "ALL" "[LSnowForts$Word;")) (ty := .object "SnowForts$Word") (N := 29) (f := fun i => .ref (ad i)) (A := fun q : Nat => s.heap.size ≤ q) (by decide) (hs (.arrayOf (.static "SnowForts$Word" "ALL" "[LSnowForts$Word;") (.object "SnowForts$Word")) (by decide +kernel)) (va_eqv (hs (.eq (.length (.static "SnowForts$Word" "ALL" "[LSnowForts$Word;")) (.int 29)) (by decide +kernel)) rfl) (fun j hj => by
    match j, hj with
    | 0, _ => rw [d0]; exact va_eqv (hs (.eq (.elem (.static "SnowForts$Word" "ALL" "[LSnowForts$Word;") (.int 0)) (.static "SnowForts$Word" "WIDE" "LSnowForts$Word;")) (by decide +kernel)) e0
    | 1, _ => rw [d1]; exact va_eqv (hs (.eq (.elem (.static "SnowForts$Word" "ALL" "[LSnowForts$Word;") (.int 1)) (.static "SnowForts$Word" "HIGH" "LSnowForts$Word;")) (by decide +kernel)) e1
    | 2, _ => rw [d2]; exact va_eqv (hs (.eq (.elem (.static "SnowForts$Word" "ALL" "[LSnowForts$Word;") (.int 2)) (.static "SnowForts$Word" "SCHOOL" "LSnowForts$Word;")) (by decide +kernel)) e2
    | 3, _ => rw [d3]; exact va_eqv (hs (.eq (.elem (.static "SnowForts$Word" "ALL" "[LSnowForts$Word;") (.int 3)) (.static "SnowForts$Word" "HANDS" "LSnowForts$Word;")) (by decide +kernel)) e3
    | 4, _ => rw [d4]; exact va_eqv (hs (.eq (.elem (.static "SnowForts$Word" "ALL" "[LSnowForts$Word;") (.int 4)) (.static "SnowForts$Word" "SNOW" "LSnowForts$Word;")) (by decide +kernel)) e4
    | 5, _ => rw [d5]; exact va_eqv (hs (.eq (.elem (.static "SnowForts$Word" "ALL" "[LSnowForts$Word;") (.int 5)) (.static "SnowForts$Word" "DEEP" "LSnowForts$Word;")) (by decide +kernel)) e5
    | 6, _ => rw [d6]; exact va_eqv (hs (.eq (.elem (.static "SnowForts$Word" "ALL" "[LSnowForts$Word;") (.int 6)) (.static "SnowForts$Word" "WALL" "LSnowForts$Word;")) (by decide +kernel)) e6
    | 7, _ => rw [d7]; exact va_eqv (hs (.eq (.elem (.static "SnowForts$Word" "ALL" "[LSnowForts$Word;") (.int 7)) (.static "SnowForts$Word" "TALL" "LSnowForts$Word;")) (by decide +kernel)) e7
    | 8, _ => rw [d8]; exact va_eqv (hs (.eq (.elem (.static "SnowForts$Word" "ALL" "[LSnowForts$Word;") (.int 8)) (.static "SnowForts$Word" "SUN" "LSnowForts$Word;")) (by decide +kernel)) e8
    | 9, _ => rw [d9]; exact va_eqv (hs (.eq (.elem (.static "SnowForts$Word" "ALL" "[LSnowForts$Word;") (.int 9)) (.static "SnowForts$Word" "BY" "LSnowForts$Word;")) (by decide +kernel)) e9
    | 10, _ => rw [d10]; exact va_eqv (hs (.eq (.elem (.static "SnowForts$Word" "ALL" "[LSnowForts$Word;") (.int 10)) (.static "SnowForts$Word" "NO" "LSnowForts$Word;")) (by decide +kernel)) e10
    | 11, _ => rw [d11]; exact va_eqv (hs (.eq (.elem (.static "SnowForts$Word" "ALL" "[LSnowForts$Word;") (.int 11)) (.static "SnowForts$Word" "ABOVE" "LSnowForts$Word;")) (by decide +kernel)) e11
    | 12, _ => rw [d12]; exact va_eqv (hs (.eq (.elem (.static "SnowForts$Word" "ALL" "[LSnowForts$Word;") (.int 12)) (.static "SnowForts$Word" "BUILD" "LSnowForts$Word;")) (by decide +kernel)) e12
    | 13, _ => rw [d13]; exact va_eqv (hs (.eq (.elem (.static "SnowForts$Word" "ALL" "[LSnowForts$Word;") (.int 13)) (.static "SnowForts$Word" "BEHIND" "LSnowForts$Word;")) (by decide +kernel)) e13
    | 14, _ => rw [d14]; exact va_eqv (hs (.eq (.elem (.static "SnowForts$Word" "ALL" "[LSnowForts$Word;") (.int 14)) (.static "SnowForts$Word" "STEAL" "LSnowForts$Word;")) (by decide +kernel)) e14
    | 15, _ => rw [d15]; exact va_eqv (hs (.eq (.elem (.static "SnowForts$Word" "ALL" "[LSnowForts$Word;") (.int 15)) (.static "SnowForts$Word" "ICE" "LSnowForts$Word;")) (by decide +kernel)) e15
    | 16, _ => rw [d16]; exact va_eqv (hs (.eq (.elem (.static "SnowForts$Word" "ALL" "[LSnowForts$Word;") (.int 16)) (.static "SnowForts$Word" "FALL" "LSnowForts$Word;")) (by decide +kernel)) e16
    | 17, _ => rw [d17]; exact va_eqv (hs (.eq (.elem (.static "SnowForts$Word" "ALL" "[LSnowForts$Word;") (.int 17)) (.static "SnowForts$Word" "THAW" "LSnowForts$Word;")) (by decide +kernel)) e17
    | 18, _ => rw [d18]; exact va_eqv (hs (.eq (.elem (.static "SnowForts$Word" "ALL" "[LSnowForts$Word;") (.int 18)) (.static "SnowForts$Word" "STORM" "LSnowForts$Word;")) (by decide +kernel)) e18
    | 19, _ => rw [d19]; exact va_eqv (hs (.eq (.elem (.static "SnowForts$Word" "ALL" "[LSnowForts$Word;") (.int 19)) (.static "SnowForts$Word" "TO" "LSnowForts$Word;")) (by decide +kernel)) e19
    | 20, _ => rw [d20]; exact va_eqv (hs (.eq (.elem (.static "SnowForts$Word" "ALL" "[LSnowForts$Word;") (.int 20)) (.static "SnowForts$Word" "NIGHT" "LSnowForts$Word;")) (by decide +kernel)) e20
    | 21, _ => rw [d21]; exact va_eqv (hs (.eq (.elem (.static "SnowForts$Word" "ALL" "[LSnowForts$Word;") (.int 21)) (.static "SnowForts$Word" "FROM" "LSnowForts$Word;")) (by decide +kernel)) e21
    | 22, _ => rw [d22]; exact va_eqv (hs (.eq (.elem (.static "SnowForts$Word" "ALL" "[LSnowForts$Word;") (.int 22)) (.static "SnowForts$Word" "WHEN" "LSnowForts$Word;")) (by decide +kernel)) e22
    | 23, _ => rw [d23]; exact va_eqv (hs (.eq (.elem (.static "SnowForts$Word" "ALL" "[LSnowForts$Word;") (.int 23)) (.static "SnowForts$Word" "DAY" "LSnowForts$Word;")) (by decide +kernel)) e23
    | 24, _ => rw [d24]; exact va_eqv (hs (.eq (.elem (.static "SnowForts$Word" "ALL" "[LSnowForts$Word;") (.int 24)) (.static "SnowForts$Word" "BREACH" "LSnowForts$Word;")) (by decide +kernel)) e24
    | 25, _ => rw [d25]; exact va_eqv (hs (.eq (.elem (.static "SnowForts$Word" "ALL" "[LSnowForts$Word;") (.int 25)) (.static "SnowForts$Word" "WAY" "LSnowForts$Word;")) (by decide +kernel)) e25
    | 26, _ => rw [d26]; exact va_eqv (hs (.eq (.elem (.static "SnowForts$Word" "ALL" "[LSnowForts$Word;") (.int 26)) (.static "SnowForts$Word" "LOOP" "LSnowForts$Word;")) (by decide +kernel)) e26
    | 27, _ => rw [d27]; exact va_eqv (hs (.eq (.elem (.static "SnowForts$Word" "ALL" "[LSnowForts$Word;") (.int 27)) (.static "SnowForts$Word" "END" "LSnowForts$Word;")) (by decide +kernel)) e27
    | 28, _ => rw [d28]; exact va_eqv (hs (.eq (.elem (.static "SnowForts$Word" "ALL" "[LSnowForts$Word;") (.int 28)) (.static "SnowForts$Word" "STOP" "LSnowForts$Word;")) (by decide +kernel)) e28
    | j + 29, hj => omega) hA
  have ZA := va_Zref (hts _ (tix_3 125 rfl)) (hts _ (tix_1 17 rfl)) eA hA
  have hw : ∀ i, i < 29 → va_Z "SnowForts$Word" (wdN i) "LSnowForts$Word;" (.ref (ad i)) (fun q : Nat => s.heap.size ≤ q) s s.heap ∧ va_O "SnowForts$Word" (ad i) (fun q : Nat => s.heap.size ≤ q) s s.heap := by
    intro i hi
    match i, hi with
    | 0, _ => rw [d0]; exact ⟨z0, o0⟩
    | 1, _ => rw [d1]; exact ⟨z1, o1⟩
    | 2, _ => rw [d2]; exact ⟨z2, o2⟩
    | 3, _ => rw [d3]; exact ⟨z3, o3⟩
    | 4, _ => rw [d4]; exact ⟨z4, o4⟩
    | 5, _ => rw [d5]; exact ⟨z5, o5⟩
    | 6, _ => rw [d6]; exact ⟨z6, o6⟩
    | 7, _ => rw [d7]; exact ⟨z7, o7⟩
    | 8, _ => rw [d8]; exact ⟨z8, o8⟩
    | 9, _ => rw [d9]; exact ⟨z9, o9⟩
    | 10, _ => rw [d10]; exact ⟨z10, o10⟩
    | 11, _ => rw [d11]; exact ⟨z11, o11⟩
    | 12, _ => rw [d12]; exact ⟨z12, o12⟩
    | 13, _ => rw [d13]; exact ⟨z13, o13⟩
    | 14, _ => rw [d14]; exact ⟨z14, o14⟩
    | 15, _ => rw [d15]; exact ⟨z15, o15⟩
    | 16, _ => rw [d16]; exact ⟨z16, o16⟩
    | 17, _ => rw [d17]; exact ⟨z17, o17⟩
    | 18, _ => rw [d18]; exact ⟨z18, o18⟩
    | 19, _ => rw [d19]; exact ⟨z19, o19⟩
    | 20, _ => rw [d20]; exact ⟨z20, o20⟩
    | 21, _ => rw [d21]; exact ⟨z21, o21⟩
    | 22, _ => rw [d22]; exact ⟨z22, o22⟩
    | 23, _ => rw [d23]; exact ⟨z23, o23⟩
    | 24, _ => rw [d24]; exact ⟨z24, o24⟩
    | 25, _ => rw [d25]; exact ⟨z25, o25⟩
    | 26, _ => rw [d26]; exact ⟨z26, o26⟩
    | 27, _ => rw [d27]; exact ⟨z27, o27⟩
    | 28, _ => rw [d28]; exact ⟨z28, o28⟩
    | i + 29, hi => omega
  have hf := va_Efof (N := 29) (E := "SnowForts$Word") (d0 := "LSnowForts$Word;") (o := "SnowForts$Word") (n := "letters") (d := "J") (nm := ["WIDE", "HIGH", "SCHOOL", "HANDS", "SNOW", "DEEP", "WALL", "TALL", "SUN", "BY", "NO", "ABOVE", "BUILD", "BEHIND", "STEAL", "ICE", "FALL", "THAW", "STORM", "TO", "NIGHT", "FROM", "WHEN", "DAY", "BREACH", "WAY", "LOOP", "END", "STOP"]) (v := fun i => .long (([459383, 164222, 274392372, 4281544, 384611, 82528, 453774, 394725, 14432, 79, 393, 582341, 1483114, 31519426, 10494723, 6647, 119163, 399542, 10502473, 555, 7622660, 131638, 458690, 2968, 38362985, 16819, 247552, 4027, 388978] : List Int64).getD i 0)) (tm := fun i => .long (([459383, 164222, 274392372, 4281544, 384611, 82528, 453774, 394725, 14432, 79, 393, 582341, 1483114, 31519426, 10494723, 6647, 119163, 399542, 10502473, 555, 7622660, 131638, 458690, 2968, 38362985, 16819, 247552, 4027, 388978] : List Int64).getD i 0)) (ad := ad) (A := fun q : Nat => s.heap.size ≤ q) (s := s) (args := args) (fun i hi => by
    match i, hi with
    | 0, _ => rw [d0]; exact e0
    | 1, _ => rw [d1]; exact e1
    | 2, _ => rw [d2]; exact e2
    | 3, _ => rw [d3]; exact e3
    | 4, _ => rw [d4]; exact e4
    | 5, _ => rw [d5]; exact e5
    | 6, _ => rw [d6]; exact e6
    | 7, _ => rw [d7]; exact e7
    | 8, _ => rw [d8]; exact e8
    | 9, _ => rw [d9]; exact e9
    | 10, _ => rw [d10]; exact e10
    | 11, _ => rw [d11]; exact e11
    | 12, _ => rw [d12]; exact e12
    | 13, _ => rw [d13]; exact e13
    | 14, _ => rw [d14]; exact e14
    | 15, _ => rw [d15]; exact e15
    | 16, _ => rw [d16]; exact e16
    | 17, _ => rw [d17]; exact e17
    | 18, _ => rw [d18]; exact e18
    | 19, _ => rw [d19]; exact e19
    | 20, _ => rw [d20]; exact e20
    | 21, _ => rw [d21]; exact e21
    | 22, _ => rw [d22]; exact e22
    | 23, _ => rw [d23]; exact e23
    | 24, _ => rw [d24]; exact e24
    | 25, _ => rw [d25]; exact e25
    | 26, _ => rw [d26]; exact e26
    | 27, _ => rw [d27]; exact e27
    | 28, _ => rw [d28]; exact e28
    | i + 29, hi => omega) (fun i hi => by
    match i, hi with
    | 0, _ => exact hs (.eq (.field (.static "SnowForts$Word" "WIDE" "LSnowForts$Word;") "SnowForts$Word" "letters" "J") (.long 459383)) (by decide +kernel)
    | 1, _ => exact hs (.eq (.field (.static "SnowForts$Word" "HIGH" "LSnowForts$Word;") "SnowForts$Word" "letters" "J") (.long 164222)) (by decide +kernel)
    | 2, _ => exact hs (.eq (.field (.static "SnowForts$Word" "SCHOOL" "LSnowForts$Word;") "SnowForts$Word" "letters" "J") (.long 274392372)) (by decide +kernel)
    | 3, _ => exact hs (.eq (.field (.static "SnowForts$Word" "HANDS" "LSnowForts$Word;") "SnowForts$Word" "letters" "J") (.long 4281544)) (by decide +kernel)
    | 4, _ => exact hs (.eq (.field (.static "SnowForts$Word" "SNOW" "LSnowForts$Word;") "SnowForts$Word" "letters" "J") (.long 384611)) (by decide +kernel)
    | 5, _ => exact hs (.eq (.field (.static "SnowForts$Word" "DEEP" "LSnowForts$Word;") "SnowForts$Word" "letters" "J") (.long 82528)) (by decide +kernel)
    | 6, _ => exact hs (.eq (.field (.static "SnowForts$Word" "WALL" "LSnowForts$Word;") "SnowForts$Word" "letters" "J") (.long 453774)) (by decide +kernel)
    | 7, _ => exact hs (.eq (.field (.static "SnowForts$Word" "TALL" "LSnowForts$Word;") "SnowForts$Word" "letters" "J") (.long 394725)) (by decide +kernel)
    | 8, _ => exact hs (.eq (.field (.static "SnowForts$Word" "SUN" "LSnowForts$Word;") "SnowForts$Word" "letters" "J") (.long 14432)) (by decide +kernel)
    | 9, _ => exact hs (.eq (.field (.static "SnowForts$Word" "BY" "LSnowForts$Word;") "SnowForts$Word" "letters" "J") (.long 79)) (by decide +kernel)
    | 10, _ => exact hs (.eq (.field (.static "SnowForts$Word" "NO" "LSnowForts$Word;") "SnowForts$Word" "letters" "J") (.long 393)) (by decide +kernel)
    | 11, _ => exact hs (.eq (.field (.static "SnowForts$Word" "ABOVE" "LSnowForts$Word;") "SnowForts$Word" "letters" "J") (.long 582341)) (by decide +kernel)
    | 12, _ => exact hs (.eq (.field (.static "SnowForts$Word" "BUILD" "LSnowForts$Word;") "SnowForts$Word" "letters" "J") (.long 1483114)) (by decide +kernel)
    | 13, _ => exact hs (.eq (.field (.static "SnowForts$Word" "BEHIND" "LSnowForts$Word;") "SnowForts$Word" "letters" "J") (.long 31519426)) (by decide +kernel)
    | 14, _ => exact hs (.eq (.field (.static "SnowForts$Word" "STEAL" "LSnowForts$Word;") "SnowForts$Word" "letters" "J") (.long 10494723)) (by decide +kernel)
    | 15, _ => exact hs (.eq (.field (.static "SnowForts$Word" "ICE" "LSnowForts$Word;") "SnowForts$Word" "letters" "J") (.long 6647)) (by decide +kernel)
    | 16, _ => exact hs (.eq (.field (.static "SnowForts$Word" "FALL" "LSnowForts$Word;") "SnowForts$Word" "letters" "J") (.long 119163)) (by decide +kernel)
    | 17, _ => exact hs (.eq (.field (.static "SnowForts$Word" "THAW" "LSnowForts$Word;") "SnowForts$Word" "letters" "J") (.long 399542)) (by decide +kernel)
    | 18, _ => exact hs (.eq (.field (.static "SnowForts$Word" "STORM" "LSnowForts$Word;") "SnowForts$Word" "letters" "J") (.long 10502473)) (by decide +kernel)
    | 19, _ => exact hs (.eq (.field (.static "SnowForts$Word" "TO" "LSnowForts$Word;") "SnowForts$Word" "letters" "J") (.long 555)) (by decide +kernel)
    | 20, _ => exact hs (.eq (.field (.static "SnowForts$Word" "NIGHT" "LSnowForts$Word;") "SnowForts$Word" "letters" "J") (.long 7622660)) (by decide +kernel)
    | 21, _ => exact hs (.eq (.field (.static "SnowForts$Word" "FROM" "LSnowForts$Word;") "SnowForts$Word" "letters" "J") (.long 131638)) (by decide +kernel)
    | 22, _ => exact hs (.eq (.field (.static "SnowForts$Word" "WHEN" "LSnowForts$Word;") "SnowForts$Word" "letters" "J") (.long 458690)) (by decide +kernel)
    | 23, _ => exact hs (.eq (.field (.static "SnowForts$Word" "DAY" "LSnowForts$Word;") "SnowForts$Word" "letters" "J") (.long 2968)) (by decide +kernel)
    | 24, _ => exact hs (.eq (.field (.static "SnowForts$Word" "BREACH" "LSnowForts$Word;") "SnowForts$Word" "letters" "J") (.long 38362985)) (by decide +kernel)
    | 25, _ => exact hs (.eq (.field (.static "SnowForts$Word" "WAY" "LSnowForts$Word;") "SnowForts$Word" "letters" "J") (.long 16819)) (by decide +kernel)
    | 26, _ => exact hs (.eq (.field (.static "SnowForts$Word" "LOOP" "LSnowForts$Word;") "SnowForts$Word" "letters" "J") (.long 247552)) (by decide +kernel)
    | 27, _ => exact hs (.eq (.field (.static "SnowForts$Word" "END" "LSnowForts$Word;") "SnowForts$Word" "letters" "J") (.long 4027)) (by decide +kernel)
    | 28, _ => exact hs (.eq (.field (.static "SnowForts$Word" "STOP" "LSnowForts$Word;") "SnowForts$Word" "letters" "J") (.long 388978)) (by decide +kernel)
    | i + 29, hi => omega) (fun _ _ => rfl) hA
  have hlt : ∀ i, i < 29 → ad i < s.heap.size := fun i hi => by
    obtain ⟨cell, h1, -⟩ := (hw i hi).2
    exact (Array.getElem?_eq_some_iff.mp h1).1
  refine ⟨fun q => if s.heap.size ≤ q then some 13 else if (List.range 29).any (fun i => ad i == q) then some 12 else none, ?_⟩
  have hk : ∀ x k, (if s.heap.size ≤ x then some 13 else if (List.range 29).any (fun i => ad i == x) then some 12 else none) = some k → (k = 13 ∧ s.heap.size ≤ x) ∨ (k = 12 ∧ ∃ i, i < 29 ∧ x = ad i) := fun x k h => by
    split at h
    · rename_i h1
      cases h
      exact Or.inl ⟨rfl, h1⟩
    · split at h
      · rename_i h2
        cases h
        obtain ⟨i, i1, i2⟩ := List.any_eq_true.mp h2
        exact Or.inr ⟨rfl, i, List.mem_range.mp i1, ((by simpa using i2 : ad i = x).symm)⟩
      · cases h
  have hAe : AΓ (fun q => if s.heap.size ≤ q then some 13 else if (List.range 29).any (fun i => ad i == q) then some 12 else none) = fun q : Nat => s.heap.size ≤ q := funext fun q => propext ⟨fun ⟨r, h1, h2⟩ => by
    rcases hk q r h1 with ⟨-, h⟩ | ⟨h, -⟩
    · exact h
    · exact absurd h h2, fun h => ⟨13, if_pos h, by decide⟩⟩
  have h12 : ∀ i, i < 29 → (if s.heap.size ≤ ad i then some 13 else if (List.range 29).any (fun j => ad j == ad i) then some 12 else none) = some 12 := fun i hi => by
    rw [if_neg (Nat.not_le.mpr (hlt i hi)), if_pos (List.any_eq_true.mpr ⟨i, List.mem_range.mpr hi, by simp⟩)]
  refine ⟨⟨ad, tR, tD, tA, ?_⟩, ⟨fun q hq => if_pos hq, fun q => by rw [hAe]⟩, fun x k h => ?_⟩
  · rw [hAe]
    exact ⟨ZR, TR, ZD, TD, fun i hi => ⟨(hw i hi).1, h12 i hi⟩, ZA, TA, fun a ha => by
      rcases hk a 12 ha with ⟨h, -⟩ | ⟨-, i, hi, e⟩
      · cases h
      · exact ⟨e ▸ (hw i hi).2, i, hi, e⟩, _, hf⟩
  · rcases hk x k h with ⟨h, -⟩ | ⟨h, -⟩
    · exact Or.inr h
    · exact Or.inl h
theorem no_RL_7 : NO "SnowFortsLaw" 7 200 10 18 [.int, (.array (.object "SnowForts$Tray")), (.object "SnowForts$Reader"), (.object "SnowForts$YardText"), (.object "SnowForts$OrdersText"), (.object "SnowForts$Yard"), (.object "SnowForts$Yard"), (.object "SnowForts$Orders"), (.object "SnowForts$Orders"), (.array (.object "SnowForts$Yard")), (.array (.object "SnowForts$Orders")), .int, (.object "SnowForts$Walk"), (.object "SnowForts$Mornings"), (.object "SnowForts$Odds"), (.array .boolean), (.object "SnowForts$Runner"), (.object "SnowForts$Runner")] := ⟨_, _, _, rfl, rfl, by decide +kernel, rfl, rfl, by decide +kernel, wsin_X11, w_18, w_19, w_1, by decide, by decide⟩
theorem no_RL_10 : NO "SnowFortsLaw" 10 530 11 42 [.int, .int, .long, .long, (.array .int), (.array .int), (.array .long), (.array .byte), .int, .int, .int, .int, .int, .int, .int, .int, .int, .int, .int, .long, (.array .int), (.array .int), (.array .int), (.array .long), .int, .int, (.array .int), (.array .int), .int, (.array .int), .boolean, (.array .boolean), (.array .long), (.array .long), (.array .int), .boolean, .boolean, .int, .int, .int, .int, .int] := ⟨_, _, _, rfl, rfl, by decide +kernel, rfl, rfl, by decide +kernel, wsin_X12, w_1298, w_1299, w_12, by decide, by decide⟩
theorem cn_RL_9 : Cond.methodLink "SnowFortsLaw" 9 yX11_init ∈ GW ∧ Cond.instanceMethod yX11_init ∈ GW := ⟨w_20, w_21⟩
theorem cn_RL_12 : Cond.methodLink "SnowFortsLaw" 12 yX12_init ∈ GW ∧ Cond.instanceMethod yX12_init ∈ GW := ⟨w_1300, w_1301⟩
theorem st_nest {s : State} {args : Array Value} (hts : ∀ w ∈ lw_tbl, w.before args s = true) : ∀ q ∈ nwL, va_Nw (.methodLinkNest q.1 q.2.1 q.2.2.1 q.2.2.2) s := by
  refine List.forall_mem_cons.mpr ⟨va_Nw.of rfl (hts _ (tix_1 29 rfl)), List.forall_mem_cons.mpr ⟨va_Nw.of rfl (hts _ (tix_1 49 rfl)), List.forall_mem_cons.mpr ⟨va_Nw.of rfl (hts _ (tix_1 166 rfl)), List.forall_mem_cons.mpr ⟨va_Nw.of rfl (hts _ (tix_2 6 rfl)), List.forall_mem_cons.mpr ⟨va_Nw.of rfl (hts _ (tix_2 60 rfl)), List.forall_mem_cons.mpr ⟨va_Nw.of rfl (hts _ (tix_2 93 rfl)), List.forall_mem_cons.mpr ⟨va_Nw.of rfl (hts _ (tix_2 116 rfl)), List.forall_mem_cons.mpr ⟨va_Nw.of rfl (hts _ (tix_2 137 rfl)), List.forall_mem_cons.mpr ⟨va_Nw.of rfl (hts _ (tix_3 152 rfl)), List.forall_mem_cons.mpr ⟨va_Nw.of rfl (hts _ (tix_3 174 rfl)), List.forall_mem_cons.mpr ⟨va_Nw.of rfl (hts _ (tix_4 8 rfl)), List.forall_mem_cons.mpr ⟨va_Nw.of rfl (hts _ (tix_5 146 rfl)), List.forall_mem_cons.mpr ⟨va_Nw.of rfl (hts _ (tix_5 191 rfl)), List.forall_mem_cons.mpr ⟨va_Nw.of rfl (hts _ (tix_6 1 rfl)), fun _ h => absurd h List.not_mem_nil⟩⟩⟩⟩⟩⟩⟩⟩⟩⟩⟩⟩⟩⟩
set_option maxRecDepth 100000 in
set_option maxHeartbeats 8000000 in
theorem whole_start {p : Program} {e : Env} {s : State} {m : MethodId} {below : List Frame} {meth : Method} {c : Code} (l : Launch) (hflags : l.flags = flags0) {b L : Nat} {xs : Nat → Int32} (hL : L ≤ 3072) (C0 : lw_At p s m meth c b L xs) : W p l e room_1 s m #[Value.ref b] below meth c s.heap [] 0 0 (lw_Z below #[Value.ref b] s) (entryFrame m ([Value.ref b] : List Value).toArray 4) := by
  obtain ⟨hx, hb, hr, hml, hown, hts, hX, hbl, hlocks, hgv⟩ := id C0
  have hG : ∀ w ∈ GW, w.before #[Value.ref b] s = true := fun w hw => hts w (List.mem_filter.mp hw).1
  obtain ⟨X, hK⟩ := st_X hG hts
  obtain ⟨Γ, hCst, hW, hkn⟩ := st_cst hts hgv
  have E : Ev p s m #[Value.ref b] meth c cL_law 4 "SnowFortsLaw" ret X Γ s.heap := ⟨hx, hb, hml, hown, hG, ⟨rfl, hK, st_ap hG hK, st_nest hts, hCst⟩, hlocks, hr⟩
  have hC : Conf X Γ s.heap := fun a r ha => by
    rcases hkn a r ha with rfl | rfl <;> trivial
  have hS : va_S (AΓ Γ) s.heap s.heap [] := va_S.rf
  have hAO : AO4 s := ⟨va_AO.of (hts _ (tix_1 27 rfl)), va_AO.of (hts _ (tix_1 54 rfl)), va_AO.of (hts _ (tix_2 56 rfl)), va_AO.of (hts _ (tix_2 57 rfl))⟩
  have v64 : NoK 64 Γ := fun x h => by
    rcases hkn x 64 h with h | h <;> omega
  have v65 : NoK 65 Γ := fun x h => by
    rcases hkn x 65 h with h | h <;> omega
  have v68 : NoK 68 Γ := fun x h => by
    rcases hkn x 68 h with h | h <;> omega
  have v2 : NoK 2 Γ := fun x h => by
    rcases hkn x 2 h with h | h <;> omega
  have v60 : NoK 60 Γ := fun x h => by
    rcases hkn x 60 h with h | h <;> omega
  have v61 : NoK 61 Γ := fun x h => by
    rcases hkn x 61 h with h | h <;> omega
  have v62 : NoK 62 Γ := fun x h => by
    rcases hkn x 62 h with h | h <;> omega
  have hl := lv_entry ([.ref b]) (n := 4) (Nat.le_of_ble_eq_true rfl)
  rw [lg_entry_eq]
  generalize (lg_sl ([.ref b]) ++ List.replicate (4 - (lg_sl ([.ref b])).length) Slot.unset).toArray = ls at hl ⊢
  have hl : lv_has ls 4 [(0, .ref b)] := hl
  refine q_newO E hC hS hW (Nat.le_refl _) no_RL_7 (by decide) (by decide) dL_law_0 (fun q1 H1 Γ1 zq zs ho hzz gq hL1 hK1 E hC hS hW => ?_)
  have hx := E.1; have hb := E.2.1
  have v64 := v64.al hK1 (by decide); have v60 := v60.al hK1 (by decide); have v61 := v61.al hK1 (by decide); have v62 := v62.al hK1 (by decide); have v65 := v65.al hK1 (by decide); have v68 := v68.al hK1 (by decide); have v2 := v2.al hK1 (by decide)
  refine lv_dup hx hb dL_law_3 rfl ?_
  refine q_goN (q_runI (As := []) (rest := [.ref q1]) E hAO hS (m_X11_init l X Γ1 H1 s.heap.size hC hW (by omega) q1 gq (sI_z (hzz 11 _ (by decide) rfl) rfl) v2) cw_X11_init cn_RL_9 rfl rfl hl.1 rfl (show _ ≤ _ from by simp [Value.category]) (by decide) (by decide) (by decide) (by decide) dL_law_4) E hS hW.2 (fun H2 Γ2 locs2 zq2 g1 hl5 h12 hP hW E hC hS => ?_)
  have hx := E.1; have hb := E.2.1
  have v64 := v64.kn hP.1 hl5 (by decide); have v60 := v60.kn hP.1 hl5 (by decide); have v61 := v61.kn hP.1 hl5 (by decide); have v62 := v62.kn hP.1 hl5 (by decide); have v65 := v65.kn hP.1 hl5 (by decide); have v68 := v68.kn hP.1 hl5 (by decide)
  have mk := hP.2.2.2.1; have tro := hP.2.2.2.2; have hWo := hW; have g1o := g1; obtain ⟨ra, u2, fl⟩ := hP.2.2.1; have hra := nw_lt hW u2.1 (by decide); have hq1 := nw_lt hW g1 (by decide)
  refine lv_astore_n hx hb dL_law_7 rfl hl (by decide) rfl (fun ls hl => ?_)
  have hl : lv_has ls 4 [(1, .ref q1), (0, .ref b)] := hl
  refine q_newO E hC hS hW (by omega) no_RL_10 (by decide) (by decide) dL_law_8 (fun q2 H3 Γ3 zq3 zs3 ho3 hzz gq2 hL3 hK3 E hC hS hW => ?_)
  have hx := E.1; have hb := E.2.1
  have tro := tro.go g1o (fun x k _ h2 h => ⟨hL3 x k h2 h, ho3 x (nw_lt hWo h h2)⟩)
  have g1 := hL3 _ _ (by decide) g1
  have v64 := v64.al hK3 (by decide); have v60 := v60.al hK3 (by decide); have v61 := v61.al hK3 (by decide); have v62 := v62.al hK3 (by decide); have v65 := v65.al hK3 (by decide); have v68 := v68.al hK3 (by decide)
  have mk := (sI_al (j := X.1.2 10 11) ho3 hq1).trans mk; have fl := (sI_al (j := X.1.2 4 1) ho3 hra).trans fl; have u2 := u2.al hL3 hK3 (by decide) (by decide)
  have mm : sI H3 q2 (X.1.2 11 24) = 0 := sI_z (hzz 24 _ (by decide) rfl) rfl
  have mt : sI H3 q2 (X.1.2 11 8) = 0 := sI_z (hzz 8 _ (by decide) rfl) rfl
  have mh : sI H3 q2 (X.1.2 11 30) = 0 := sI_z (hzz 30 _ (by decide) rfl) rfl
  refine lv_dup hx hb dL_law_11 rfl ?_
  refine q_goN (q_runI (As := []) (rest := [.ref q2]) E hAO hS (m_X12_init l X Γ3 H3 s.heap.size hC hW (by omega) q2 gq2 mm mt mh v64 v65 v68 v60 v61 v62) cw_X12_init cn_RL_12 rfl rfl hl.1 rfl (show _ ≤ _ from by simp [Value.category]) (by decide) (by decide) (by decide) (by decide) dL_law_12) E hS hW.2 (fun H4 Γ4 locs4 zq4 g2 hl5 h12 hP hW E hC hS => ?_)
  have hx := E.1; have hb := E.2.1
  obtain ⟨ca, ka, oa, tm, ts, na, u64, u65, u68, ⟨u61, u60, u62, tmv⟩, mm, mt, mh, zz, c0, c1, hO, hKb⟩ := hP
  have tro := tro.go g1 (fun x k h1 h2 h => ⟨hl5 x k (nek h gq2 (by omega)) h2 h, hO x k h1 h2 h⟩)
  obtain ⟨ta, td, nd, gta, trr, trd, tri, trn, trni, trl, mo, hMO, gmo, mr0⟩ := tro
  obtain ⟨wk, hWK, gwk⟩ := f_ref hC g2 (ci := 11) (kf := 29) rfl rfl
  have hWR : WRl X H4 mo q2 wk := by
    have e1 : (sJ H4 mo (X.1.2 0 0)).toInt = 0 := by rw [mr0]; rfl
    have e2 : (sI H4 q2 (X.1.2 11 30)).toInt = 0 := by rw [mh]; rfl
    exact ⟨by rw [e1, e2], fun h => absurd e1 h⟩
  have hSH : SHP X Γ4 H4 q1 ta td nd := ⟨gta, trr, trd, tri, trn, trni⟩
  have hTR : TRl X td tm ts H4 := fun u hu => by rw [trl u hu, tmv u hu]; exact ⟨rfl, fun h => absurd h (by decide)⟩
  have hNR : NRl X td nd na H4 := fun u j hu _ h => by
    rw [trl u hu] at h
    have : (-1 : Int32).toInt = -1 := by decide
    omega
  have mk : sI H4 q1 (X.1.2 10 11) = 0 := (by unfold sI sv; rw [hO q1 0 (by decide) (by decide) g1] : sI H4 q1 (X.1.2 10 11) = sI H3 q1 (X.1.2 10 11)).trans mk
  have g1 := hl5 _ _ (nek g1 gq2 (by decide)) (by decide) g1
  have fl : sI H4 ra (X.1.2 4 1) = 0 := (by unfold sI sv; rw [hO ra 2 (by decide) (by decide) u2.1] : sI H4 ra (X.1.2 4 1) = sI H3 ra (X.1.2 4 1)).trans fl
  have u2 := u2.call hKb hl5 gq2 (by decide) g2 (by decide) (by decide)
  have hMR : mkI X H4 q1 = mmI X H4 q2 := by unfold mkI mmI; rw [mk, mm]
  have hFR : flI X H4 ra = tpdI X H4 q2 := by unfold flI tpdI; rw [fl, mt]
  refine lv_astore_n hx hb dL_law_15 rfl hl (by decide) rfl (fun ls hl => ?_)
  have hl : lv_has ls 4 [(2, .ref q2), (1, .ref q1), (0, .ref b)] := hl
  refine lv_iconst (v := 0) hx hb dL_law_16 rfl ?_
  refine lv_istore_n hx hb dL_law_17 rfl hl (by decide) rfl (fun ls hl => ?_)
  have hl : lv_has ls 4 [(3, .int 0), (2, .ref q2), (1, .ref q1), (0, .ref b)] := hl
  have K : LK p s m meth c X Γ4 b L xs q1 q2 ca ka oa ra tm ts na mo wk := ⟨E, g1, g2, u64.1, u64.2, u65.1, u65.2, u2.1, u2.2, u61.1, u61.2, u60.1, u60.2, u62.1, u62.2, gmo, gwk, u68.1, u68.2, hX, hbl, fun h => Nat.not_le.mpr hbl ((hW.2 b).mp h), hW.2, hL⟩
  exact law_loop l K (L + 7) H4 locs4 ls 0 0 (by omega) (by decide) (by decide) (by omega) hC hS (MI.start mm zz c0 c1) hMR hFR hSH hTR hNR hMO hWK hWR hl
