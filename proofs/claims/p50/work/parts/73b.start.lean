theorem tix_1 {w : Cond} (j : Nat) (hj : tables_1_1[j]? = some w) : w ∈ lw_tbl := by
  have h := List.mem_of_getElem? hj
  exact List.mem_append_right _ (show w ∈ tables_1 from List.mem_append_left _ h)
theorem tix_2 {w : Cond} (j : Nat) (hj : tables_1_2[j]? = some w) : w ∈ lw_tbl := by
  have h := List.mem_of_getElem? hj
  exact List.mem_append_right _ (show w ∈ tables_1 from List.mem_append_right _ (List.mem_append_left _ h))
theorem tix_3 {w : Cond} (j : Nat) (hj : tables_1_3[j]? = some w) : w ∈ lw_tbl := by
  have h := List.mem_of_getElem? hj
  exact List.mem_append_right _ (show w ∈ tables_1 from List.mem_append_right _ (List.mem_append_right _ (List.mem_append_left _ h)))
theorem tix_4 {w : Cond} (j : Nat) (hj : tables_1_4[j]? = some w) : w ∈ lw_tbl := by
  have h := List.mem_of_getElem? hj
  exact List.mem_append_right _ (show w ∈ tables_1 from List.mem_append_right _ (List.mem_append_right _ (List.mem_append_right _ (List.mem_append_left _ h))))
theorem tix_5 {w : Cond} (j : Nat) (hj : tables_1_5[j]? = some w) : w ∈ lw_tbl := by
  have h := List.mem_of_getElem? hj
  exact List.mem_append_right _ (show w ∈ tables_1 from List.mem_append_right _ (List.mem_append_right _ (List.mem_append_right _ (List.mem_append_right _ (h)))))
theorem st_prim {s : State} {args : Array Value} {ty : FieldType} (h : (Cond.arrayClass ty).before args s = true) (hp : ∀ cA, s.vm.findClass ("[" ++ ty.toString) = some cA → va_RA s cA ty) : ∃ cA : ClassId, ArrOfT s cA ty ∧ va_RA s cA ty := by
  obtain ⟨cA, kA', comp, hf, hk, hkind⟩ := Cond.arrayClass_spec h
  exact ⟨cA, fun n z => ⟨(fun k h => by cases h), kA', hk, comp, hkind⟩, hp _ hf⟩
theorem st_ref {s : State} {args : Array Value} {C : String} (h : (Cond.arrayOver (.object C)).before args s = true) : ∃ cA : ClassId, ArrOfT s cA (.object C) ∧ va_RA s cA (.object C) := by
  obtain ⟨comp, cA, kA', hcomp, hidx, hkA, hkindA, hnameA⟩ := Cond.arrayOver_spec h
  exact ⟨cA, fun n z => ⟨(fun k h => by cases h), kA', hkA, comp, hkindA⟩, kA', comp, hkA, hkindA, hcomp, hnameA⟩
set_option maxRecDepth 100000 in
theorem st_X {s : State} {args : Array Value} (hG : ∀ w ∈ GW, w.before args s = true) (hts : ∀ w ∈ lw_tbl, w.before args s = true) : ∃ X : xW, va_K X.1 vwCl (xty X) s := by
  obtain ⟨c0, i0, k0⟩ := u_known (C := RX0) (T := TX0) (N := 4) (n := 4) hG wsin_X0 (hts _ (tix_2 78 rfl))
  obtain ⟨c1, i1, k1⟩ := u_known (C := RX1) (T := TX1) (N := 4) (n := 4) hG wsin_X1 (hts _ (tix_2 93 rfl))
  obtain ⟨c2, i2, k2⟩ := u_known (C := RX2) (T := TX2) (N := 9) (n := 9) hG wsin_X2 (hts _ (tix_1 239 rfl))
  obtain ⟨c3, i3, k3⟩ := u_known (C := RX3) (T := TX3) (N := 4) (n := 4) hG wsin_X3 (hts _ (tix_1 143 rfl))
  obtain ⟨c4, i4, k4⟩ := u_known (C := RX4) (T := TX4) (N := 17) (n := 17) hG wsin_X4 (hts _ (tix_1 47 rfl))
  obtain ⟨c5, i5, k5⟩ := u_known (C := RX5) (T := TX5) (N := 7) (n := 7) hG wsin_X5 (hts _ (tix_2 110 rfl))
  obtain ⟨c6, i6, k6⟩ := u_known (C := RX6) (T := TX6) (N := 3) (n := 3) hG wsin_X6 (hts _ (tix_1 31 rfl))
  obtain ⟨c7, i7, k7⟩ := u_known (C := RX7) (T := TX7) (N := 8) (n := 8) hG wsin_X7 (hts _ (tix_2 45 rfl))
  obtain ⟨c8, i8, k8⟩ := u_known (C := RX9) (T := TX9) (N := 18) (n := 18) hG wsin_X9 (hts _ (tix_1 162 rfl))
  obtain ⟨c9, i9, k9⟩ := u_known (C := RX10) (T := TX10) (N := 5) (n := 5) hG wsin_X10 (hts _ (tix_1 121 rfl))
  obtain ⟨c10, i10, k10⟩ := u_known (C := RX11) (T := TX11) (N := 18) (n := 18) hG wsin_X11 (hts _ (tix_1 22 rfl))
  obtain ⟨a0, A0⟩ := st_prim (hts _ (tix_1 118 rfl)) (fun _ h => h)
  obtain ⟨a1, A1⟩ := st_prim (hts _ (tix_1 119 rfl)) (fun _ h => h)
  obtain ⟨a2, A2⟩ := st_prim (hts _ (tix_1 45 rfl)) (fun _ h => h)
  obtain ⟨a3, A3⟩ := st_prim (hts _ (tix_2 132 rfl)) (fun _ h => h)
  obtain ⟨a4, A4⟩ := st_ref (hts _ (tix_1 30 rfl))
  obtain ⟨a5, A5⟩ := st_ref (hts _ (tix_2 42 rfl))
  obtain ⟨a6, A6⟩ := st_ref (hts _ (tix_2 43 rfl))
  obtain ⟨a7, A7⟩ := st_ref (hts _ (tix_1 53 rfl))
  refine ⟨((fun k => match k with | 0 => c0 | 1 => c1 | 2 => c2 | 3 => c3 | 4 => c4 | 5 => c5 | 6 => c6 | 7 => c7 | 8 => c8 | 9 => c9 | _ => c10, fun k => match k with | 0 => i0 | 1 => i1 | 2 => i2 | 3 => i3 | 4 => i4 | 5 => i5 | 6 => i6 | 7 => i7 | 8 => i8 | 9 => i9 | _ => i10), fun t => match t with | 0 => a0 | 1 => a1 | 2 => a2 | 3 => a3 | 4 => a4 | 5 => a5 | 6 => a6 | _ => a7), ?_, ?_⟩
  · intro k q hq
    match k, hq with
    | 0, hq => cases hq; exact k0
    | 1, hq => cases hq; exact k1
    | 2, hq => cases hq; exact k2
    | 3, hq => cases hq; exact k3
    | 4, hq => cases hq; exact k4
    | 5, hq => cases hq; exact k5
    | 6, hq => cases hq; exact k6
    | 7, hq => cases hq; exact k7
    | 8, hq => cases hq; exact k8
    | 9, hq => cases hq; exact k9
    | 10, hq => cases hq; exact k10
    | k + 11, hq => cases hq
  · intro k q hq
    match k, hq with
    | 0, hq => cases hq; exact A0
    | 1, hq => cases hq; exact A1
    | 2, hq => cases hq; exact A2
    | 3, hq => cases hq; exact A3
    | 4, hq => cases hq; exact A4
    | 5, hq => cases hq; exact A5
    | 6, hq => cases hq; exact A6
    | 7, hq => cases hq; exact A7
    | k + 8, hq => cases hq
set_option maxRecDepth 100000 in
theorem st_ap {s : State} {args : Array Value} {X : xW} (hG : ∀ w ∈ GW, w.before args s = true) (hK : va_K X.1 vwCl (xty X) s) : ∀ (ci : Nat) (q : vw_C), vwCl[ci]? = some q → ∀ x y, x < q.2.2 → y < q.2.2 → x ≠ y → X.1.2 ci x ≠ X.1.2 ci y := by
  intro k q hq
  match k, hq with
  | 0, hq => cases hq; exact va_apart (D := X.1) (cl := vwCl) (tys := xty X) (own := "") (ci := 0) hG wsin_X0 (fun k => ([.long, .int, .int, .int] : List FieldType).getD k .int) (by decide +kernel) (by decide +kernel) hK rfl
  | 1, hq => cases hq; exact va_apart (D := X.1) (cl := vwCl) (tys := xty X) (own := "") (ci := 1) hG wsin_X1 (fun k => ([.long, .long, (.array .long), .long] : List FieldType).getD k .int) (by decide +kernel) (by decide +kernel) hK rfl
  | 2, hq => cases hq; exact va_apart (D := X.1) (cl := vwCl) (tys := xty X) (own := "") (ci := 2) hG wsin_X2 (fun k => ([.boolean, .int, .int, (.array .int), (.array .int), (.array .int), (.array .int), (.array .int), (.array .int)] : List FieldType).getD k .int) (by decide +kernel) (by decide +kernel) hK rfl
  | 3, hq => cases hq; exact va_apart (D := X.1) (cl := vwCl) (tys := xty X) (own := "") (ci := 3) hG wsin_X3 (fun k => ([(.object "SnowForts$Reader"), (.array .int), .int, .int] : List FieldType).getD k .int) (by decide +kernel) (by decide +kernel) hK rfl
  | 4, hq => cases hq; exact va_apart (D := X.1) (cl := vwCl) (tys := xty X) (own := "") (ci := 4) hG wsin_X4 (fun k => ([(.array .byte), .int, (.array .int), (.array .int), (.array .long), (.array (.object "SnowForts$Word")), .int, .int, .int, .int, .int, .long, (.object "SnowForts$Word"), .int, .int, .int, .int] : List FieldType).getD k .int) (by decide +kernel) (by decide +kernel) hK rfl
  | 5, hq => cases hq; exact va_apart (D := X.1) (cl := vwCl) (tys := xty X) (own := "") (ci := 5) hG wsin_X5 (fun k => ([.int, .int, .int, .int, .boolean, .int, (.array .int)] : List FieldType).getD k .int) (by decide +kernel) (by decide +kernel) hK rfl
  | 6, hq => cases hq; exact va_apart (D := X.1) (cl := vwCl) (tys := xty X) (own := "") (ci := 6) hG wsin_X6 (fun k => ([(.array .long), .int, .int] : List FieldType).getD k .int) (by decide +kernel) (by decide +kernel) hK rfl
  | 7, hq => cases hq; exact va_apart (D := X.1) (cl := vwCl) (tys := xty X) (own := "") (ci := 7) hG wsin_X7 (fun k => ([(.array .int), .int, (.array .int), (.array .int), .int, .int, .int, .int] : List FieldType).getD k .int) (by decide +kernel) (by decide +kernel) hK rfl
  | 8, hq => cases hq; exact va_apart (D := X.1) (cl := vwCl) (tys := xty X) (own := "") (ci := 8) hG wsin_X9 (fun k => ([.int, .int, .int, .int, .int, .int, .int, (.array .int), (.array .int), (.array .int), (.array .int), (.array .int), (.array .int), (.array .int), (.array .int), (.array .int), (.array .int), (.array .int)] : List FieldType).getD k .int) (by decide +kernel) (by decide +kernel) hK rfl
  | 9, hq => cases hq; exact va_apart (D := X.1) (cl := vwCl) (tys := xty X) (own := "") (ci := 9) hG wsin_X10 (fun k => ([(.object "SnowForts$Reader"), (.array .int), (.array .int), (.array .int), .long] : List FieldType).getD k .int) (by decide +kernel) (by decide +kernel) hK rfl
  | 10, hq => cases hq; exact va_apart (D := X.1) (cl := vwCl) (tys := xty X) (own := "") (ci := 10) hG wsin_X11 (fun k => ([.int, (.array (.object "SnowForts$Tray")), (.object "SnowForts$Reader"), (.object "SnowForts$YardText"), (.object "SnowForts$OrdersText"), (.object "SnowForts$Yard"), (.object "SnowForts$Yard"), (.object "SnowForts$Orders"), (.object "SnowForts$Orders"), (.array (.object "SnowForts$Yard")), (.array (.object "SnowForts$Orders")), .int, (.object "SnowForts$Walk"), (.object "SnowForts$Mornings"), (.object "SnowForts$Odds"), (.array .boolean), (.object "SnowForts$Runner"), (.object "SnowForts$Runner")] : List FieldType).getD k .int) (by decide +kernel) (by decide +kernel) hK rfl
  | k + 11, hq => cases hq
theorem st_obj {args : Array Value} {s : State} {E d nm : String} {A : Nat → Prop} (hl : (Cond.laysStatic E nm d).before args s = true) (hini : (Cond.initialized E).before args s = true) (hex : (Cond.exactly (.static E nm d) E).before args s = true) (hA : ∀ a : Nat, a < s.heap.size → ¬ A a) : ∃ t : Nat, (Term.static E nm d).eval args s none [] s = some (.ref t) ∧ va_Z E nm d (.ref t) A s s.heap ∧ va_O E t A s s.heap := by
  obtain ⟨a, c, cell, k, q1, q2, q3, q4, q5, q6, -⟩ := Cond.exactly_spec hex
  exact ⟨a, q1, va_Zref hl hini q1 hA, cell, q3, q5, by rw [q6]; exact q2, hA a (Array.getElem?_eq_some_iff.mp q3).1⟩
theorem st_lit {args : Array Value} {s : State} {k n : Nat} {bs : List Int32} {A : Nat → Prop} (hn : n < 2 ^ 31) (hex : (Cond.exactly (.string "SnowFortsLaw" k) "java/lang/String").before args s = true) (hco : (Cond.eq (.field (.string "SnowFortsLaw" k) "java/lang/String" "coder" "B") (.int 0)).before args s = true) (har : (Cond.arrayOf (.field (.string "SnowFortsLaw" k) "java/lang/String" "value" "[B") .byte).before args s = true) (hle : (Cond.eq (.length (.field (.string "SnowFortsLaw" k) "java/lang/String" "value" "[B")) (.int (Int32.ofNat n))).before args s = true) (hel : ∀ j, j < n → (Cond.eq (.elem (.field (.string "SnowFortsLaw" k) "java/lang/String" "value" "[B") (.int (Int32.ofNat j))) (.int (bs.getD j 0))).before args s = true) (hA : ∀ a : Nat, a < s.heap.size → ¬ A a) : ∃ a v : Nat, (Term.string "SnowFortsLaw" k).eval args s none [] s = some (.ref a) ∧ va_O "java/lang/String" a A s s.heap ∧ va_OF "java/lang/String" "coder" "B" (.int 0) a A s s.heap ∧ va_OF "java/lang/String" "value" "[B" (.ref v) a A s s.heap ∧ va_T .byte v n (fun j => .int (bs.getD j 0)) A s s.heap := by
  obtain ⟨a, c, cA, kA, q1, q2, q3, q4, q5, q6, -⟩ := Cond.exactly_spec hex
  obtain ⟨t, ht, hT⟩ := va_Tof (f := fun j => .int (bs.getD j 0)) (A := A) hn har (va_eqv hle rfl) (fun j hj => va_eqv (hel j hj) rfl) hA
  exact ⟨a, t, q1, ⟨cA, q3, q5, by rw [q6]; exact q2, hA a (Array.getElem?_eq_some_iff.mp q3).1⟩, vk_OFof q1 (va_eqv hco rfl) hA, vk_OFof q1 ht hA, hT⟩
theorem st_fl {s : State} {args : Array Value} (hg : (Jvm.Cond.and given_1 narrow_1).before args s = true) (n : Nat) {w : Cond} (h : (flatC (Jvm.Cond.and given_1 narrow_1))[n]? = some w) : w.before args s = true := flat_of_before _ hg _ (List.mem_of_getElem? h)
theorem st_xi (x : Int32) : Int32.ofNat x.toBitVec.toNat = x := Int32.toBitVec_inj.mp (by show BitVec.ofNat 32 x.toBitVec.toNat = x.toBitVec; simp)
set_option maxRecDepth 100000 in
theorem st_lit_0 {s : State} {args : Array Value} {A : Nat → Prop} (hg : (Jvm.Cond.and given_1 narrow_1).before args s = true) (hA : ∀ a : Nat, a < s.heap.size → ¬ A a) : ∃ a v : Nat, (Term.string "SnowFortsLaw" (jsI 0)).eval args s none [] s = some (.ref a) ∧ va_O "java/lang/String" a A s s.heap ∧ va_OF "java/lang/String" "coder" "B" (.int 0) a A s s.heap ∧ va_OF "java/lang/String" "value" "[B" (.ref v) a A s s.heap ∧ va_T .byte v (jsL.getD 0 0) (fun j => .int ((jsB.getD 0 []).getD j 0)) A s s.heap := by
  refine st_lit (k := 46) (n := 4) (bs := [119, 105, 100, 101]) (by decide) (st_fl hg 192 (w := (Jvm.Cond.exactly (Jvm.Term.string "SnowFortsLaw" (46 : Nat)) "java/lang/String")) (by decide +kernel)) (st_fl hg 193 (w := (Jvm.Cond.eq (Jvm.Term.field (Jvm.Term.string "SnowFortsLaw" (46 : Nat)) "java/lang/String" "coder" "B") (Jvm.Term.int (0 : Int32)))) (by decide +kernel)) (st_fl hg 194 (w := (Jvm.Cond.arrayOf (Jvm.Term.field (Jvm.Term.string "SnowFortsLaw" (46 : Nat)) "java/lang/String" "value" "[B") Jvm.ClassFile.FieldType.byte)) (by decide +kernel)) (st_fl hg 195 (w := (Jvm.Cond.eq (Jvm.Term.length (Jvm.Term.field (Jvm.Term.string "SnowFortsLaw" (46 : Nat)) "java/lang/String" "value" "[B")) (Jvm.Term.int (4 : Int32)))) (by decide +kernel)) (fun j hj => ?_) hA
  match j, hj with
  | 0, _ => exact (st_fl hg 196 (w := (Jvm.Cond.eq (Jvm.Term.elem (Jvm.Term.field (Jvm.Term.string "SnowFortsLaw" (46 : Nat)) "java/lang/String" "value" "[B") (Jvm.Term.int (0 : Int32))) (Jvm.Term.int (119 : Int32)))) (by decide +kernel))
  | 1, _ => exact (st_fl hg 197 (w := (Jvm.Cond.eq (Jvm.Term.elem (Jvm.Term.field (Jvm.Term.string "SnowFortsLaw" (46 : Nat)) "java/lang/String" "value" "[B") (Jvm.Term.int (1 : Int32))) (Jvm.Term.int (105 : Int32)))) (by decide +kernel))
  | 2, _ => exact (st_fl hg 198 (w := (Jvm.Cond.eq (Jvm.Term.elem (Jvm.Term.field (Jvm.Term.string "SnowFortsLaw" (46 : Nat)) "java/lang/String" "value" "[B") (Jvm.Term.int (2 : Int32))) (Jvm.Term.int (100 : Int32)))) (by decide +kernel))
  | 3, _ => exact (st_fl hg 199 (w := (Jvm.Cond.eq (Jvm.Term.elem (Jvm.Term.field (Jvm.Term.string "SnowFortsLaw" (46 : Nat)) "java/lang/String" "value" "[B") (Jvm.Term.int (3 : Int32))) (Jvm.Term.int (101 : Int32)))) (by decide +kernel))
  | j + 4, hj => omega
set_option maxRecDepth 100000 in
theorem st_lit_1 {s : State} {args : Array Value} {A : Nat → Prop} (hg : (Jvm.Cond.and given_1 narrow_1).before args s = true) (hA : ∀ a : Nat, a < s.heap.size → ¬ A a) : ∃ a v : Nat, (Term.string "SnowFortsLaw" (jsI 1)).eval args s none [] s = some (.ref a) ∧ va_O "java/lang/String" a A s s.heap ∧ va_OF "java/lang/String" "coder" "B" (.int 0) a A s s.heap ∧ va_OF "java/lang/String" "value" "[B" (.ref v) a A s s.heap ∧ va_T .byte v (jsL.getD 1 0) (fun j => .int ((jsB.getD 1 []).getD j 0)) A s s.heap := by
  refine st_lit (k := 52) (n := 5) (bs := [32, 104, 105, 103, 104]) (by decide) (st_fl hg 200 (w := (Jvm.Cond.exactly (Jvm.Term.string "SnowFortsLaw" (52 : Nat)) "java/lang/String")) (by decide +kernel)) (st_fl hg 201 (w := (Jvm.Cond.eq (Jvm.Term.field (Jvm.Term.string "SnowFortsLaw" (52 : Nat)) "java/lang/String" "coder" "B") (Jvm.Term.int (0 : Int32)))) (by decide +kernel)) (st_fl hg 202 (w := (Jvm.Cond.arrayOf (Jvm.Term.field (Jvm.Term.string "SnowFortsLaw" (52 : Nat)) "java/lang/String" "value" "[B") Jvm.ClassFile.FieldType.byte)) (by decide +kernel)) (st_fl hg 203 (w := (Jvm.Cond.eq (Jvm.Term.length (Jvm.Term.field (Jvm.Term.string "SnowFortsLaw" (52 : Nat)) "java/lang/String" "value" "[B")) (Jvm.Term.int (5 : Int32)))) (by decide +kernel)) (fun j hj => ?_) hA
  match j, hj with
  | 0, _ => exact (st_fl hg 204 (w := (Jvm.Cond.eq (Jvm.Term.elem (Jvm.Term.field (Jvm.Term.string "SnowFortsLaw" (52 : Nat)) "java/lang/String" "value" "[B") (Jvm.Term.int (0 : Int32))) (Jvm.Term.int (32 : Int32)))) (by decide +kernel))
  | 1, _ => exact (st_fl hg 205 (w := (Jvm.Cond.eq (Jvm.Term.elem (Jvm.Term.field (Jvm.Term.string "SnowFortsLaw" (52 : Nat)) "java/lang/String" "value" "[B") (Jvm.Term.int (1 : Int32))) (Jvm.Term.int (104 : Int32)))) (by decide +kernel))
  | 2, _ => exact (st_fl hg 206 (w := (Jvm.Cond.eq (Jvm.Term.elem (Jvm.Term.field (Jvm.Term.string "SnowFortsLaw" (52 : Nat)) "java/lang/String" "value" "[B") (Jvm.Term.int (2 : Int32))) (Jvm.Term.int (105 : Int32)))) (by decide +kernel))
  | 3, _ => exact (st_fl hg 207 (w := (Jvm.Cond.eq (Jvm.Term.elem (Jvm.Term.field (Jvm.Term.string "SnowFortsLaw" (52 : Nat)) "java/lang/String" "value" "[B") (Jvm.Term.int (3 : Int32))) (Jvm.Term.int (103 : Int32)))) (by decide +kernel))
  | 4, _ => exact (st_fl hg 208 (w := (Jvm.Cond.eq (Jvm.Term.elem (Jvm.Term.field (Jvm.Term.string "SnowFortsLaw" (52 : Nat)) "java/lang/String" "value" "[B") (Jvm.Term.int (4 : Int32))) (Jvm.Term.int (104 : Int32)))) (by decide +kernel))
  | j + 5, hj => omega
set_option maxRecDepth 100000 in
theorem st_lit_2 {s : State} {args : Array Value} {A : Nat → Prop} (hg : (Jvm.Cond.and given_1 narrow_1).before args s = true) (hA : ∀ a : Nat, a < s.heap.size → ¬ A a) : ∃ a v : Nat, (Term.string "SnowFortsLaw" (jsI 2)).eval args s none [] s = some (.ref a) ∧ va_O "java/lang/String" a A s s.heap ∧ va_OF "java/lang/String" "coder" "B" (.int 0) a A s s.heap ∧ va_OF "java/lang/String" "value" "[B" (.ref v) a A s s.heap ∧ va_T .byte v (jsL.getD 2 0) (fun j => .int ((jsB.getD 2 []).getD j 0)) A s s.heap := by
  refine st_lit (k := 54) (n := 1) (bs := [59]) (by decide) (st_fl hg 209 (w := (Jvm.Cond.exactly (Jvm.Term.string "SnowFortsLaw" (54 : Nat)) "java/lang/String")) (by decide +kernel)) (st_fl hg 210 (w := (Jvm.Cond.eq (Jvm.Term.field (Jvm.Term.string "SnowFortsLaw" (54 : Nat)) "java/lang/String" "coder" "B") (Jvm.Term.int (0 : Int32)))) (by decide +kernel)) (st_fl hg 211 (w := (Jvm.Cond.arrayOf (Jvm.Term.field (Jvm.Term.string "SnowFortsLaw" (54 : Nat)) "java/lang/String" "value" "[B") Jvm.ClassFile.FieldType.byte)) (by decide +kernel)) (st_fl hg 212 (w := (Jvm.Cond.eq (Jvm.Term.length (Jvm.Term.field (Jvm.Term.string "SnowFortsLaw" (54 : Nat)) "java/lang/String" "value" "[B")) (Jvm.Term.int (1 : Int32)))) (by decide +kernel)) (fun j hj => ?_) hA
  match j, hj with
  | 0, _ => exact (st_fl hg 213 (w := (Jvm.Cond.eq (Jvm.Term.elem (Jvm.Term.field (Jvm.Term.string "SnowFortsLaw" (54 : Nat)) "java/lang/String" "value" "[B") (Jvm.Term.int (0 : Int32))) (Jvm.Term.int (59 : Int32)))) (by decide +kernel))
  | j + 1, hj => omega
set_option maxRecDepth 100000 in
theorem st_lit_3 {s : State} {args : Array Value} {A : Nat → Prop} (hg : (Jvm.Cond.and given_1 narrow_1).before args s = true) (hA : ∀ a : Nat, a < s.heap.size → ¬ A a) : ∃ a v : Nat, (Term.string "SnowFortsLaw" (jsI 3)).eval args s none [] s = some (.ref a) ∧ va_O "java/lang/String" a A s s.heap ∧ va_OF "java/lang/String" "coder" "B" (.int 0) a A s s.heap ∧ va_OF "java/lang/String" "value" "[B" (.ref v) a A s s.heap ∧ va_T .byte v (jsL.getD 3 0) (fun j => .int ((jsB.getD 3 []).getD j 0)) A s s.heap := by
  refine st_lit (k := 56) (n := 14) (bs := [115, 99, 104, 111, 111, 108, 32, 117, 32, 104, 97, 110, 100, 115]) (by decide) (st_fl hg 214 (w := (Jvm.Cond.exactly (Jvm.Term.string "SnowFortsLaw" (56 : Nat)) "java/lang/String")) (by decide +kernel)) (st_fl hg 215 (w := (Jvm.Cond.eq (Jvm.Term.field (Jvm.Term.string "SnowFortsLaw" (56 : Nat)) "java/lang/String" "coder" "B") (Jvm.Term.int (0 : Int32)))) (by decide +kernel)) (st_fl hg 216 (w := (Jvm.Cond.arrayOf (Jvm.Term.field (Jvm.Term.string "SnowFortsLaw" (56 : Nat)) "java/lang/String" "value" "[B") Jvm.ClassFile.FieldType.byte)) (by decide +kernel)) (st_fl hg 217 (w := (Jvm.Cond.eq (Jvm.Term.length (Jvm.Term.field (Jvm.Term.string "SnowFortsLaw" (56 : Nat)) "java/lang/String" "value" "[B")) (Jvm.Term.int (14 : Int32)))) (by decide +kernel)) (fun j hj => ?_) hA
  match j, hj with
  | 0, _ => exact (st_fl hg 218 (w := (Jvm.Cond.eq (Jvm.Term.elem (Jvm.Term.field (Jvm.Term.string "SnowFortsLaw" (56 : Nat)) "java/lang/String" "value" "[B") (Jvm.Term.int (0 : Int32))) (Jvm.Term.int (115 : Int32)))) (by decide +kernel))
  | 1, _ => exact (st_fl hg 219 (w := (Jvm.Cond.eq (Jvm.Term.elem (Jvm.Term.field (Jvm.Term.string "SnowFortsLaw" (56 : Nat)) "java/lang/String" "value" "[B") (Jvm.Term.int (1 : Int32))) (Jvm.Term.int (99 : Int32)))) (by decide +kernel))
  | 2, _ => exact (st_fl hg 220 (w := (Jvm.Cond.eq (Jvm.Term.elem (Jvm.Term.field (Jvm.Term.string "SnowFortsLaw" (56 : Nat)) "java/lang/String" "value" "[B") (Jvm.Term.int (2 : Int32))) (Jvm.Term.int (104 : Int32)))) (by decide +kernel))
  | 3, _ => exact (st_fl hg 221 (w := (Jvm.Cond.eq (Jvm.Term.elem (Jvm.Term.field (Jvm.Term.string "SnowFortsLaw" (56 : Nat)) "java/lang/String" "value" "[B") (Jvm.Term.int (3 : Int32))) (Jvm.Term.int (111 : Int32)))) (by decide +kernel))
  | 4, _ => exact (st_fl hg 222 (w := (Jvm.Cond.eq (Jvm.Term.elem (Jvm.Term.field (Jvm.Term.string "SnowFortsLaw" (56 : Nat)) "java/lang/String" "value" "[B") (Jvm.Term.int (4 : Int32))) (Jvm.Term.int (111 : Int32)))) (by decide +kernel))
  | 5, _ => exact (st_fl hg 223 (w := (Jvm.Cond.eq (Jvm.Term.elem (Jvm.Term.field (Jvm.Term.string "SnowFortsLaw" (56 : Nat)) "java/lang/String" "value" "[B") (Jvm.Term.int (5 : Int32))) (Jvm.Term.int (108 : Int32)))) (by decide +kernel))
  | 6, _ => exact (st_fl hg 224 (w := (Jvm.Cond.eq (Jvm.Term.elem (Jvm.Term.field (Jvm.Term.string "SnowFortsLaw" (56 : Nat)) "java/lang/String" "value" "[B") (Jvm.Term.int (6 : Int32))) (Jvm.Term.int (32 : Int32)))) (by decide +kernel))
  | 7, _ => exact (st_fl hg 225 (w := (Jvm.Cond.eq (Jvm.Term.elem (Jvm.Term.field (Jvm.Term.string "SnowFortsLaw" (56 : Nat)) "java/lang/String" "value" "[B") (Jvm.Term.int (7 : Int32))) (Jvm.Term.int (117 : Int32)))) (by decide +kernel))
  | 8, _ => exact (st_fl hg 226 (w := (Jvm.Cond.eq (Jvm.Term.elem (Jvm.Term.field (Jvm.Term.string "SnowFortsLaw" (56 : Nat)) "java/lang/String" "value" "[B") (Jvm.Term.int (8 : Int32))) (Jvm.Term.int (32 : Int32)))) (by decide +kernel))
  | 9, _ => exact (st_fl hg 227 (w := (Jvm.Cond.eq (Jvm.Term.elem (Jvm.Term.field (Jvm.Term.string "SnowFortsLaw" (56 : Nat)) "java/lang/String" "value" "[B") (Jvm.Term.int (9 : Int32))) (Jvm.Term.int (104 : Int32)))) (by decide +kernel))
  | 10, _ => exact (st_fl hg 228 (w := (Jvm.Cond.eq (Jvm.Term.elem (Jvm.Term.field (Jvm.Term.string "SnowFortsLaw" (56 : Nat)) "java/lang/String" "value" "[B") (Jvm.Term.int (10 : Int32))) (Jvm.Term.int (97 : Int32)))) (by decide +kernel))
  | 11, _ => exact (st_fl hg 229 (w := (Jvm.Cond.eq (Jvm.Term.elem (Jvm.Term.field (Jvm.Term.string "SnowFortsLaw" (56 : Nat)) "java/lang/String" "value" "[B") (Jvm.Term.int (11 : Int32))) (Jvm.Term.int (110 : Int32)))) (by decide +kernel))
  | 12, _ => exact (st_fl hg 230 (w := (Jvm.Cond.eq (Jvm.Term.elem (Jvm.Term.field (Jvm.Term.string "SnowFortsLaw" (56 : Nat)) "java/lang/String" "value" "[B") (Jvm.Term.int (12 : Int32))) (Jvm.Term.int (100 : Int32)))) (by decide +kernel))
  | 13, _ => exact (st_fl hg 231 (w := (Jvm.Cond.eq (Jvm.Term.elem (Jvm.Term.field (Jvm.Term.string "SnowFortsLaw" (56 : Nat)) "java/lang/String" "value" "[B") (Jvm.Term.int (13 : Int32))) (Jvm.Term.int (115 : Int32)))) (by decide +kernel))
  | j + 14, hj => omega
set_option maxRecDepth 100000 in
theorem st_lit_4 {s : State} {args : Array Value} {A : Nat → Prop} (hg : (Jvm.Cond.and given_1 narrow_1).before args s = true) (hA : ∀ a : Nat, a < s.heap.size → ¬ A a) : ∃ a v : Nat, (Term.string "SnowFortsLaw" (jsI 4)).eval args s none [] s = some (.ref a) ∧ va_O "java/lang/String" a A s s.heap ∧ va_OF "java/lang/String" "coder" "B" (.int 0) a A s s.heap ∧ va_OF "java/lang/String" "value" "[B" (.ref v) a A s s.heap ∧ va_T .byte v (jsL.getD 4 0) (fun j => .int ((jsB.getD 4 []).getD j 0)) A s s.heap := by
  refine st_lit (k := 58) (n := 14) (bs := [115, 99, 104, 111, 111, 108, 32, 118, 32, 104, 97, 110, 100, 115]) (by decide) (st_fl hg 232 (w := (Jvm.Cond.exactly (Jvm.Term.string "SnowFortsLaw" (58 : Nat)) "java/lang/String")) (by decide +kernel)) (st_fl hg 233 (w := (Jvm.Cond.eq (Jvm.Term.field (Jvm.Term.string "SnowFortsLaw" (58 : Nat)) "java/lang/String" "coder" "B") (Jvm.Term.int (0 : Int32)))) (by decide +kernel)) (st_fl hg 234 (w := (Jvm.Cond.arrayOf (Jvm.Term.field (Jvm.Term.string "SnowFortsLaw" (58 : Nat)) "java/lang/String" "value" "[B") Jvm.ClassFile.FieldType.byte)) (by decide +kernel)) (st_fl hg 235 (w := (Jvm.Cond.eq (Jvm.Term.length (Jvm.Term.field (Jvm.Term.string "SnowFortsLaw" (58 : Nat)) "java/lang/String" "value" "[B")) (Jvm.Term.int (14 : Int32)))) (by decide +kernel)) (fun j hj => ?_) hA
  match j, hj with
  | 0, _ => exact (st_fl hg 236 (w := (Jvm.Cond.eq (Jvm.Term.elem (Jvm.Term.field (Jvm.Term.string "SnowFortsLaw" (58 : Nat)) "java/lang/String" "value" "[B") (Jvm.Term.int (0 : Int32))) (Jvm.Term.int (115 : Int32)))) (by decide +kernel))
  | 1, _ => exact (st_fl hg 237 (w := (Jvm.Cond.eq (Jvm.Term.elem (Jvm.Term.field (Jvm.Term.string "SnowFortsLaw" (58 : Nat)) "java/lang/String" "value" "[B") (Jvm.Term.int (1 : Int32))) (Jvm.Term.int (99 : Int32)))) (by decide +kernel))
  | 2, _ => exact (st_fl hg 238 (w := (Jvm.Cond.eq (Jvm.Term.elem (Jvm.Term.field (Jvm.Term.string "SnowFortsLaw" (58 : Nat)) "java/lang/String" "value" "[B") (Jvm.Term.int (2 : Int32))) (Jvm.Term.int (104 : Int32)))) (by decide +kernel))
  | 3, _ => exact (st_fl hg 239 (w := (Jvm.Cond.eq (Jvm.Term.elem (Jvm.Term.field (Jvm.Term.string "SnowFortsLaw" (58 : Nat)) "java/lang/String" "value" "[B") (Jvm.Term.int (3 : Int32))) (Jvm.Term.int (111 : Int32)))) (by decide +kernel))
  | 4, _ => exact (st_fl hg 240 (w := (Jvm.Cond.eq (Jvm.Term.elem (Jvm.Term.field (Jvm.Term.string "SnowFortsLaw" (58 : Nat)) "java/lang/String" "value" "[B") (Jvm.Term.int (4 : Int32))) (Jvm.Term.int (111 : Int32)))) (by decide +kernel))
  | 5, _ => exact (st_fl hg 241 (w := (Jvm.Cond.eq (Jvm.Term.elem (Jvm.Term.field (Jvm.Term.string "SnowFortsLaw" (58 : Nat)) "java/lang/String" "value" "[B") (Jvm.Term.int (5 : Int32))) (Jvm.Term.int (108 : Int32)))) (by decide +kernel))
  | 6, _ => exact (st_fl hg 242 (w := (Jvm.Cond.eq (Jvm.Term.elem (Jvm.Term.field (Jvm.Term.string "SnowFortsLaw" (58 : Nat)) "java/lang/String" "value" "[B") (Jvm.Term.int (6 : Int32))) (Jvm.Term.int (32 : Int32)))) (by decide +kernel))
  | 7, _ => exact (st_fl hg 243 (w := (Jvm.Cond.eq (Jvm.Term.elem (Jvm.Term.field (Jvm.Term.string "SnowFortsLaw" (58 : Nat)) "java/lang/String" "value" "[B") (Jvm.Term.int (7 : Int32))) (Jvm.Term.int (118 : Int32)))) (by decide +kernel))
  | 8, _ => exact (st_fl hg 244 (w := (Jvm.Cond.eq (Jvm.Term.elem (Jvm.Term.field (Jvm.Term.string "SnowFortsLaw" (58 : Nat)) "java/lang/String" "value" "[B") (Jvm.Term.int (8 : Int32))) (Jvm.Term.int (32 : Int32)))) (by decide +kernel))
  | 9, _ => exact (st_fl hg 245 (w := (Jvm.Cond.eq (Jvm.Term.elem (Jvm.Term.field (Jvm.Term.string "SnowFortsLaw" (58 : Nat)) "java/lang/String" "value" "[B") (Jvm.Term.int (9 : Int32))) (Jvm.Term.int (104 : Int32)))) (by decide +kernel))
  | 10, _ => exact (st_fl hg 246 (w := (Jvm.Cond.eq (Jvm.Term.elem (Jvm.Term.field (Jvm.Term.string "SnowFortsLaw" (58 : Nat)) "java/lang/String" "value" "[B") (Jvm.Term.int (10 : Int32))) (Jvm.Term.int (97 : Int32)))) (by decide +kernel))
  | 11, _ => exact (st_fl hg 247 (w := (Jvm.Cond.eq (Jvm.Term.elem (Jvm.Term.field (Jvm.Term.string "SnowFortsLaw" (58 : Nat)) "java/lang/String" "value" "[B") (Jvm.Term.int (11 : Int32))) (Jvm.Term.int (110 : Int32)))) (by decide +kernel))
  | 12, _ => exact (st_fl hg 248 (w := (Jvm.Cond.eq (Jvm.Term.elem (Jvm.Term.field (Jvm.Term.string "SnowFortsLaw" (58 : Nat)) "java/lang/String" "value" "[B") (Jvm.Term.int (12 : Int32))) (Jvm.Term.int (100 : Int32)))) (by decide +kernel))
  | 13, _ => exact (st_fl hg 249 (w := (Jvm.Cond.eq (Jvm.Term.elem (Jvm.Term.field (Jvm.Term.string "SnowFortsLaw" (58 : Nat)) "java/lang/String" "value" "[B") (Jvm.Term.int (13 : Int32))) (Jvm.Term.int (115 : Int32)))) (by decide +kernel))
  | j + 14, hj => omega
set_option maxRecDepth 100000 in
theorem st_lit_5 {s : State} {args : Array Value} {A : Nat → Prop} (hg : (Jvm.Cond.and given_1 narrow_1).before args s = true) (hA : ∀ a : Nat, a < s.heap.size → ¬ A a) : ∃ a v : Nat, (Term.string "SnowFortsLaw" (jsI 5)).eval args s none [] s = some (.ref a) ∧ va_O "java/lang/String" a A s s.heap ∧ va_OF "java/lang/String" "coder" "B" (.int 0) a A s s.heap ∧ va_OF "java/lang/String" "value" "[B" (.ref v) a A s s.heap ∧ va_T .byte v (jsL.getD 5 0) (fun j => .int ((jsB.getD 5 []).getD j 0)) A s s.heap := by
  refine st_lit (k := 60) (n := 4) (bs := [115, 110, 111, 119]) (by decide) (st_fl hg 250 (w := (Jvm.Cond.exactly (Jvm.Term.string "SnowFortsLaw" (60 : Nat)) "java/lang/String")) (by decide +kernel)) (st_fl hg 251 (w := (Jvm.Cond.eq (Jvm.Term.field (Jvm.Term.string "SnowFortsLaw" (60 : Nat)) "java/lang/String" "coder" "B") (Jvm.Term.int (0 : Int32)))) (by decide +kernel)) (st_fl hg 252 (w := (Jvm.Cond.arrayOf (Jvm.Term.field (Jvm.Term.string "SnowFortsLaw" (60 : Nat)) "java/lang/String" "value" "[B") Jvm.ClassFile.FieldType.byte)) (by decide +kernel)) (st_fl hg 253 (w := (Jvm.Cond.eq (Jvm.Term.length (Jvm.Term.field (Jvm.Term.string "SnowFortsLaw" (60 : Nat)) "java/lang/String" "value" "[B")) (Jvm.Term.int (4 : Int32)))) (by decide +kernel)) (fun j hj => ?_) hA
  match j, hj with
  | 0, _ => exact (st_fl hg 254 (w := (Jvm.Cond.eq (Jvm.Term.elem (Jvm.Term.field (Jvm.Term.string "SnowFortsLaw" (60 : Nat)) "java/lang/String" "value" "[B") (Jvm.Term.int (0 : Int32))) (Jvm.Term.int (115 : Int32)))) (by decide +kernel))
  | 1, _ => exact (st_fl hg 255 (w := (Jvm.Cond.eq (Jvm.Term.elem (Jvm.Term.field (Jvm.Term.string "SnowFortsLaw" (60 : Nat)) "java/lang/String" "value" "[B") (Jvm.Term.int (1 : Int32))) (Jvm.Term.int (110 : Int32)))) (by decide +kernel))
  | 2, _ => exact (st_fl hg 256 (w := (Jvm.Cond.eq (Jvm.Term.elem (Jvm.Term.field (Jvm.Term.string "SnowFortsLaw" (60 : Nat)) "java/lang/String" "value" "[B") (Jvm.Term.int (2 : Int32))) (Jvm.Term.int (111 : Int32)))) (by decide +kernel))
  | 3, _ => exact (st_fl hg 257 (w := (Jvm.Cond.eq (Jvm.Term.elem (Jvm.Term.field (Jvm.Term.string "SnowFortsLaw" (60 : Nat)) "java/lang/String" "value" "[B") (Jvm.Term.int (3 : Int32))) (Jvm.Term.int (119 : Int32)))) (by decide +kernel))
  | j + 4, hj => omega
set_option maxRecDepth 100000 in
theorem st_lit_6 {s : State} {args : Array Value} {A : Nat → Prop} (hg : (Jvm.Cond.and given_1 narrow_1).before args s = true) (hA : ∀ a : Nat, a < s.heap.size → ¬ A a) : ∃ a v : Nat, (Term.string "SnowFortsLaw" (jsI 6)).eval args s none [] s = some (.ref a) ∧ va_O "java/lang/String" a A s s.heap ∧ va_OF "java/lang/String" "coder" "B" (.int 0) a A s s.heap ∧ va_OF "java/lang/String" "value" "[B" (.ref v) a A s s.heap ∧ va_T .byte v (jsL.getD 6 0) (fun j => .int ((jsB.getD 6 []).getD j 0)) A s s.heap := by
  refine st_lit (k := 62) (n := 5) (bs := [32, 100, 101, 101, 112]) (by decide) (st_fl hg 258 (w := (Jvm.Cond.exactly (Jvm.Term.string "SnowFortsLaw" (62 : Nat)) "java/lang/String")) (by decide +kernel)) (st_fl hg 259 (w := (Jvm.Cond.eq (Jvm.Term.field (Jvm.Term.string "SnowFortsLaw" (62 : Nat)) "java/lang/String" "coder" "B") (Jvm.Term.int (0 : Int32)))) (by decide +kernel)) (st_fl hg 260 (w := (Jvm.Cond.arrayOf (Jvm.Term.field (Jvm.Term.string "SnowFortsLaw" (62 : Nat)) "java/lang/String" "value" "[B") Jvm.ClassFile.FieldType.byte)) (by decide +kernel)) (st_fl hg 261 (w := (Jvm.Cond.eq (Jvm.Term.length (Jvm.Term.field (Jvm.Term.string "SnowFortsLaw" (62 : Nat)) "java/lang/String" "value" "[B")) (Jvm.Term.int (5 : Int32)))) (by decide +kernel)) (fun j hj => ?_) hA
  match j, hj with
  | 0, _ => exact (st_fl hg 262 (w := (Jvm.Cond.eq (Jvm.Term.elem (Jvm.Term.field (Jvm.Term.string "SnowFortsLaw" (62 : Nat)) "java/lang/String" "value" "[B") (Jvm.Term.int (0 : Int32))) (Jvm.Term.int (32 : Int32)))) (by decide +kernel))
  | 1, _ => exact (st_fl hg 263 (w := (Jvm.Cond.eq (Jvm.Term.elem (Jvm.Term.field (Jvm.Term.string "SnowFortsLaw" (62 : Nat)) "java/lang/String" "value" "[B") (Jvm.Term.int (1 : Int32))) (Jvm.Term.int (100 : Int32)))) (by decide +kernel))
  | 2, _ => exact (st_fl hg 264 (w := (Jvm.Cond.eq (Jvm.Term.elem (Jvm.Term.field (Jvm.Term.string "SnowFortsLaw" (62 : Nat)) "java/lang/String" "value" "[B") (Jvm.Term.int (2 : Int32))) (Jvm.Term.int (101 : Int32)))) (by decide +kernel))
  | 3, _ => exact (st_fl hg 265 (w := (Jvm.Cond.eq (Jvm.Term.elem (Jvm.Term.field (Jvm.Term.string "SnowFortsLaw" (62 : Nat)) "java/lang/String" "value" "[B") (Jvm.Term.int (3 : Int32))) (Jvm.Term.int (101 : Int32)))) (by decide +kernel))
  | 4, _ => exact (st_fl hg 266 (w := (Jvm.Cond.eq (Jvm.Term.elem (Jvm.Term.field (Jvm.Term.string "SnowFortsLaw" (62 : Nat)) "java/lang/String" "value" "[B") (Jvm.Term.int (4 : Int32))) (Jvm.Term.int (112 : Int32)))) (by decide +kernel))
  | j + 5, hj => omega
set_option maxRecDepth 100000 in
theorem st_lit_7 {s : State} {args : Array Value} {A : Nat → Prop} (hg : (Jvm.Cond.and given_1 narrow_1).before args s = true) (hA : ∀ a : Nat, a < s.heap.size → ¬ A a) : ∃ a v : Nat, (Term.string "SnowFortsLaw" (jsI 7)).eval args s none [] s = some (.ref a) ∧ va_O "java/lang/String" a A s s.heap ∧ va_OF "java/lang/String" "coder" "B" (.int 0) a A s s.heap ∧ va_OF "java/lang/String" "value" "[B" (.ref v) a A s s.heap ∧ va_T .byte v (jsL.getD 7 0) (fun j => .int ((jsB.getD 7 []).getD j 0)) A s s.heap := by
  refine st_lit (k := 68) (n := 4) (bs := [119, 97, 108, 108]) (by decide) (st_fl hg 267 (w := (Jvm.Cond.exactly (Jvm.Term.string "SnowFortsLaw" (68 : Nat)) "java/lang/String")) (by decide +kernel)) (st_fl hg 268 (w := (Jvm.Cond.eq (Jvm.Term.field (Jvm.Term.string "SnowFortsLaw" (68 : Nat)) "java/lang/String" "coder" "B") (Jvm.Term.int (0 : Int32)))) (by decide +kernel)) (st_fl hg 269 (w := (Jvm.Cond.arrayOf (Jvm.Term.field (Jvm.Term.string "SnowFortsLaw" (68 : Nat)) "java/lang/String" "value" "[B") Jvm.ClassFile.FieldType.byte)) (by decide +kernel)) (st_fl hg 270 (w := (Jvm.Cond.eq (Jvm.Term.length (Jvm.Term.field (Jvm.Term.string "SnowFortsLaw" (68 : Nat)) "java/lang/String" "value" "[B")) (Jvm.Term.int (4 : Int32)))) (by decide +kernel)) (fun j hj => ?_) hA
  match j, hj with
  | 0, _ => exact (st_fl hg 271 (w := (Jvm.Cond.eq (Jvm.Term.elem (Jvm.Term.field (Jvm.Term.string "SnowFortsLaw" (68 : Nat)) "java/lang/String" "value" "[B") (Jvm.Term.int (0 : Int32))) (Jvm.Term.int (119 : Int32)))) (by decide +kernel))
  | 1, _ => exact (st_fl hg 272 (w := (Jvm.Cond.eq (Jvm.Term.elem (Jvm.Term.field (Jvm.Term.string "SnowFortsLaw" (68 : Nat)) "java/lang/String" "value" "[B") (Jvm.Term.int (1 : Int32))) (Jvm.Term.int (97 : Int32)))) (by decide +kernel))
  | 2, _ => exact (st_fl hg 273 (w := (Jvm.Cond.eq (Jvm.Term.elem (Jvm.Term.field (Jvm.Term.string "SnowFortsLaw" (68 : Nat)) "java/lang/String" "value" "[B") (Jvm.Term.int (2 : Int32))) (Jvm.Term.int (108 : Int32)))) (by decide +kernel))
  | 3, _ => exact (st_fl hg 274 (w := (Jvm.Cond.eq (Jvm.Term.elem (Jvm.Term.field (Jvm.Term.string "SnowFortsLaw" (68 : Nat)) "java/lang/String" "value" "[B") (Jvm.Term.int (3 : Int32))) (Jvm.Term.int (108 : Int32)))) (by decide +kernel))
  | j + 4, hj => omega
set_option maxRecDepth 100000 in
theorem st_lit_8 {s : State} {args : Array Value} {A : Nat → Prop} (hg : (Jvm.Cond.and given_1 narrow_1).before args s = true) (hA : ∀ a : Nat, a < s.heap.size → ¬ A a) : ∃ a v : Nat, (Term.string "SnowFortsLaw" (jsI 8)).eval args s none [] s = some (.ref a) ∧ va_O "java/lang/String" a A s s.heap ∧ va_OF "java/lang/String" "coder" "B" (.int 0) a A s s.heap ∧ va_OF "java/lang/String" "value" "[B" (.ref v) a A s s.heap ∧ va_T .byte v (jsL.getD 8 0) (fun j => .int ((jsB.getD 8 []).getD j 0)) A s s.heap := by
  refine st_lit (k := 70) (n := 5) (bs := [32, 116, 97, 108, 108]) (by decide) (st_fl hg 275 (w := (Jvm.Cond.exactly (Jvm.Term.string "SnowFortsLaw" (70 : Nat)) "java/lang/String")) (by decide +kernel)) (st_fl hg 276 (w := (Jvm.Cond.eq (Jvm.Term.field (Jvm.Term.string "SnowFortsLaw" (70 : Nat)) "java/lang/String" "coder" "B") (Jvm.Term.int (0 : Int32)))) (by decide +kernel)) (st_fl hg 277 (w := (Jvm.Cond.arrayOf (Jvm.Term.field (Jvm.Term.string "SnowFortsLaw" (70 : Nat)) "java/lang/String" "value" "[B") Jvm.ClassFile.FieldType.byte)) (by decide +kernel)) (st_fl hg 278 (w := (Jvm.Cond.eq (Jvm.Term.length (Jvm.Term.field (Jvm.Term.string "SnowFortsLaw" (70 : Nat)) "java/lang/String" "value" "[B")) (Jvm.Term.int (5 : Int32)))) (by decide +kernel)) (fun j hj => ?_) hA
  match j, hj with
  | 0, _ => exact (st_fl hg 279 (w := (Jvm.Cond.eq (Jvm.Term.elem (Jvm.Term.field (Jvm.Term.string "SnowFortsLaw" (70 : Nat)) "java/lang/String" "value" "[B") (Jvm.Term.int (0 : Int32))) (Jvm.Term.int (32 : Int32)))) (by decide +kernel))
  | 1, _ => exact (st_fl hg 280 (w := (Jvm.Cond.eq (Jvm.Term.elem (Jvm.Term.field (Jvm.Term.string "SnowFortsLaw" (70 : Nat)) "java/lang/String" "value" "[B") (Jvm.Term.int (1 : Int32))) (Jvm.Term.int (116 : Int32)))) (by decide +kernel))
  | 2, _ => exact (st_fl hg 281 (w := (Jvm.Cond.eq (Jvm.Term.elem (Jvm.Term.field (Jvm.Term.string "SnowFortsLaw" (70 : Nat)) "java/lang/String" "value" "[B") (Jvm.Term.int (2 : Int32))) (Jvm.Term.int (97 : Int32)))) (by decide +kernel))
  | 3, _ => exact (st_fl hg 282 (w := (Jvm.Cond.eq (Jvm.Term.elem (Jvm.Term.field (Jvm.Term.string "SnowFortsLaw" (70 : Nat)) "java/lang/String" "value" "[B") (Jvm.Term.int (3 : Int32))) (Jvm.Term.int (108 : Int32)))) (by decide +kernel))
  | 4, _ => exact (st_fl hg 283 (w := (Jvm.Cond.eq (Jvm.Term.elem (Jvm.Term.field (Jvm.Term.string "SnowFortsLaw" (70 : Nat)) "java/lang/String" "value" "[B") (Jvm.Term.int (4 : Int32))) (Jvm.Term.int (108 : Int32)))) (by decide +kernel))
  | j + 5, hj => omega
set_option maxRecDepth 100000 in
theorem st_lit_9 {s : State} {args : Array Value} {A : Nat → Prop} (hg : (Jvm.Cond.and given_1 narrow_1).before args s = true) (hA : ∀ a : Nat, a < s.heap.size → ¬ A a) : ∃ a v : Nat, (Term.string "SnowFortsLaw" (jsI 9)).eval args s none [] s = some (.ref a) ∧ va_O "java/lang/String" a A s s.heap ∧ va_OF "java/lang/String" "coder" "B" (.int 0) a A s s.heap ∧ va_OF "java/lang/String" "value" "[B" (.ref v) a A s s.heap ∧ va_T .byte v (jsL.getD 9 0) (fun j => .int ((jsB.getD 9 []).getD j 0)) A s s.heap := by
  refine st_lit (k := 72) (n := 3) (bs := [115, 117, 110]) (by decide) (st_fl hg 284 (w := (Jvm.Cond.exactly (Jvm.Term.string "SnowFortsLaw" (72 : Nat)) "java/lang/String")) (by decide +kernel)) (st_fl hg 285 (w := (Jvm.Cond.eq (Jvm.Term.field (Jvm.Term.string "SnowFortsLaw" (72 : Nat)) "java/lang/String" "coder" "B") (Jvm.Term.int (0 : Int32)))) (by decide +kernel)) (st_fl hg 286 (w := (Jvm.Cond.arrayOf (Jvm.Term.field (Jvm.Term.string "SnowFortsLaw" (72 : Nat)) "java/lang/String" "value" "[B") Jvm.ClassFile.FieldType.byte)) (by decide +kernel)) (st_fl hg 287 (w := (Jvm.Cond.eq (Jvm.Term.length (Jvm.Term.field (Jvm.Term.string "SnowFortsLaw" (72 : Nat)) "java/lang/String" "value" "[B")) (Jvm.Term.int (3 : Int32)))) (by decide +kernel)) (fun j hj => ?_) hA
  match j, hj with
  | 0, _ => exact (st_fl hg 288 (w := (Jvm.Cond.eq (Jvm.Term.elem (Jvm.Term.field (Jvm.Term.string "SnowFortsLaw" (72 : Nat)) "java/lang/String" "value" "[B") (Jvm.Term.int (0 : Int32))) (Jvm.Term.int (115 : Int32)))) (by decide +kernel))
  | 1, _ => exact (st_fl hg 289 (w := (Jvm.Cond.eq (Jvm.Term.elem (Jvm.Term.field (Jvm.Term.string "SnowFortsLaw" (72 : Nat)) "java/lang/String" "value" "[B") (Jvm.Term.int (1 : Int32))) (Jvm.Term.int (117 : Int32)))) (by decide +kernel))
  | 2, _ => exact (st_fl hg 290 (w := (Jvm.Cond.eq (Jvm.Term.elem (Jvm.Term.field (Jvm.Term.string "SnowFortsLaw" (72 : Nat)) "java/lang/String" "value" "[B") (Jvm.Term.int (2 : Int32))) (Jvm.Term.int (110 : Int32)))) (by decide +kernel))
  | j + 3, hj => omega
set_option maxRecDepth 100000 in
theorem st_lit_10 {s : State} {args : Array Value} {A : Nat → Prop} (hg : (Jvm.Cond.and given_1 narrow_1).before args s = true) (hA : ∀ a : Nat, a < s.heap.size → ¬ A a) : ∃ a v : Nat, (Term.string "SnowFortsLaw" (jsI 10)).eval args s none [] s = some (.ref a) ∧ va_O "java/lang/String" a A s s.heap ∧ va_OF "java/lang/String" "coder" "B" (.int 0) a A s s.heap ∧ va_OF "java/lang/String" "value" "[B" (.ref v) a A s s.heap ∧ va_T .byte v (jsL.getD 10 0) (fun j => .int ((jsB.getD 10 []).getD j 0)) A s s.heap := by
  refine st_lit (k := 74) (n := 3) (bs := [32, 98, 121]) (by decide) (st_fl hg 291 (w := (Jvm.Cond.exactly (Jvm.Term.string "SnowFortsLaw" (74 : Nat)) "java/lang/String")) (by decide +kernel)) (st_fl hg 292 (w := (Jvm.Cond.eq (Jvm.Term.field (Jvm.Term.string "SnowFortsLaw" (74 : Nat)) "java/lang/String" "coder" "B") (Jvm.Term.int (0 : Int32)))) (by decide +kernel)) (st_fl hg 293 (w := (Jvm.Cond.arrayOf (Jvm.Term.field (Jvm.Term.string "SnowFortsLaw" (74 : Nat)) "java/lang/String" "value" "[B") Jvm.ClassFile.FieldType.byte)) (by decide +kernel)) (st_fl hg 294 (w := (Jvm.Cond.eq (Jvm.Term.length (Jvm.Term.field (Jvm.Term.string "SnowFortsLaw" (74 : Nat)) "java/lang/String" "value" "[B")) (Jvm.Term.int (3 : Int32)))) (by decide +kernel)) (fun j hj => ?_) hA
  match j, hj with
  | 0, _ => exact (st_fl hg 295 (w := (Jvm.Cond.eq (Jvm.Term.elem (Jvm.Term.field (Jvm.Term.string "SnowFortsLaw" (74 : Nat)) "java/lang/String" "value" "[B") (Jvm.Term.int (0 : Int32))) (Jvm.Term.int (32 : Int32)))) (by decide +kernel))
  | 1, _ => exact (st_fl hg 296 (w := (Jvm.Cond.eq (Jvm.Term.elem (Jvm.Term.field (Jvm.Term.string "SnowFortsLaw" (74 : Nat)) "java/lang/String" "value" "[B") (Jvm.Term.int (1 : Int32))) (Jvm.Term.int (98 : Int32)))) (by decide +kernel))
  | 2, _ => exact (st_fl hg 297 (w := (Jvm.Cond.eq (Jvm.Term.elem (Jvm.Term.field (Jvm.Term.string "SnowFortsLaw" (74 : Nat)) "java/lang/String" "value" "[B") (Jvm.Term.int (2 : Int32))) (Jvm.Term.int (121 : Int32)))) (by decide +kernel))
  | j + 3, hj => omega
set_option maxRecDepth 100000 in
theorem st_lit_11 {s : State} {args : Array Value} {A : Nat → Prop} (hg : (Jvm.Cond.and given_1 narrow_1).before args s = true) (hA : ∀ a : Nat, a < s.heap.size → ¬ A a) : ∃ a v : Nat, (Term.string "SnowFortsLaw" (jsI 11)).eval args s none [] s = some (.ref a) ∧ va_O "java/lang/String" a A s s.heap ∧ va_OF "java/lang/String" "coder" "B" (.int 0) a A s s.heap ∧ va_OF "java/lang/String" "value" "[B" (.ref v) a A s s.heap ∧ va_T .byte v (jsL.getD 11 0) (fun j => .int ((jsB.getD 11 []).getD j 0)) A s s.heap := by
  refine st_lit (k := 76) (n := 13) (bs := [110, 111, 32, 119, 97, 108, 108, 32, 97, 98, 111, 118, 101]) (by decide) (st_fl hg 298 (w := (Jvm.Cond.exactly (Jvm.Term.string "SnowFortsLaw" (76 : Nat)) "java/lang/String")) (by decide +kernel)) (st_fl hg 299 (w := (Jvm.Cond.eq (Jvm.Term.field (Jvm.Term.string "SnowFortsLaw" (76 : Nat)) "java/lang/String" "coder" "B") (Jvm.Term.int (0 : Int32)))) (by decide +kernel)) (st_fl hg 300 (w := (Jvm.Cond.arrayOf (Jvm.Term.field (Jvm.Term.string "SnowFortsLaw" (76 : Nat)) "java/lang/String" "value" "[B") Jvm.ClassFile.FieldType.byte)) (by decide +kernel)) (st_fl hg 301 (w := (Jvm.Cond.eq (Jvm.Term.length (Jvm.Term.field (Jvm.Term.string "SnowFortsLaw" (76 : Nat)) "java/lang/String" "value" "[B")) (Jvm.Term.int (13 : Int32)))) (by decide +kernel)) (fun j hj => ?_) hA
  match j, hj with
  | 0, _ => exact (st_fl hg 302 (w := (Jvm.Cond.eq (Jvm.Term.elem (Jvm.Term.field (Jvm.Term.string "SnowFortsLaw" (76 : Nat)) "java/lang/String" "value" "[B") (Jvm.Term.int (0 : Int32))) (Jvm.Term.int (110 : Int32)))) (by decide +kernel))
  | 1, _ => exact (st_fl hg 303 (w := (Jvm.Cond.eq (Jvm.Term.elem (Jvm.Term.field (Jvm.Term.string "SnowFortsLaw" (76 : Nat)) "java/lang/String" "value" "[B") (Jvm.Term.int (1 : Int32))) (Jvm.Term.int (111 : Int32)))) (by decide +kernel))
  | 2, _ => exact (st_fl hg 304 (w := (Jvm.Cond.eq (Jvm.Term.elem (Jvm.Term.field (Jvm.Term.string "SnowFortsLaw" (76 : Nat)) "java/lang/String" "value" "[B") (Jvm.Term.int (2 : Int32))) (Jvm.Term.int (32 : Int32)))) (by decide +kernel))
  | 3, _ => exact (st_fl hg 305 (w := (Jvm.Cond.eq (Jvm.Term.elem (Jvm.Term.field (Jvm.Term.string "SnowFortsLaw" (76 : Nat)) "java/lang/String" "value" "[B") (Jvm.Term.int (3 : Int32))) (Jvm.Term.int (119 : Int32)))) (by decide +kernel))
  | 4, _ => exact (st_fl hg 306 (w := (Jvm.Cond.eq (Jvm.Term.elem (Jvm.Term.field (Jvm.Term.string "SnowFortsLaw" (76 : Nat)) "java/lang/String" "value" "[B") (Jvm.Term.int (4 : Int32))) (Jvm.Term.int (97 : Int32)))) (by decide +kernel))
  | 5, _ => exact (st_fl hg 307 (w := (Jvm.Cond.eq (Jvm.Term.elem (Jvm.Term.field (Jvm.Term.string "SnowFortsLaw" (76 : Nat)) "java/lang/String" "value" "[B") (Jvm.Term.int (5 : Int32))) (Jvm.Term.int (108 : Int32)))) (by decide +kernel))
  | 6, _ => exact (st_fl hg 308 (w := (Jvm.Cond.eq (Jvm.Term.elem (Jvm.Term.field (Jvm.Term.string "SnowFortsLaw" (76 : Nat)) "java/lang/String" "value" "[B") (Jvm.Term.int (6 : Int32))) (Jvm.Term.int (108 : Int32)))) (by decide +kernel))
  | 7, _ => exact (st_fl hg 309 (w := (Jvm.Cond.eq (Jvm.Term.elem (Jvm.Term.field (Jvm.Term.string "SnowFortsLaw" (76 : Nat)) "java/lang/String" "value" "[B") (Jvm.Term.int (7 : Int32))) (Jvm.Term.int (32 : Int32)))) (by decide +kernel))
  | 8, _ => exact (st_fl hg 310 (w := (Jvm.Cond.eq (Jvm.Term.elem (Jvm.Term.field (Jvm.Term.string "SnowFortsLaw" (76 : Nat)) "java/lang/String" "value" "[B") (Jvm.Term.int (8 : Int32))) (Jvm.Term.int (97 : Int32)))) (by decide +kernel))
  | 9, _ => exact (st_fl hg 311 (w := (Jvm.Cond.eq (Jvm.Term.elem (Jvm.Term.field (Jvm.Term.string "SnowFortsLaw" (76 : Nat)) "java/lang/String" "value" "[B") (Jvm.Term.int (9 : Int32))) (Jvm.Term.int (98 : Int32)))) (by decide +kernel))
  | 10, _ => exact (st_fl hg 312 (w := (Jvm.Cond.eq (Jvm.Term.elem (Jvm.Term.field (Jvm.Term.string "SnowFortsLaw" (76 : Nat)) "java/lang/String" "value" "[B") (Jvm.Term.int (10 : Int32))) (Jvm.Term.int (111 : Int32)))) (by decide +kernel))
  | 11, _ => exact (st_fl hg 313 (w := (Jvm.Cond.eq (Jvm.Term.elem (Jvm.Term.field (Jvm.Term.string "SnowFortsLaw" (76 : Nat)) "java/lang/String" "value" "[B") (Jvm.Term.int (11 : Int32))) (Jvm.Term.int (118 : Int32)))) (by decide +kernel))
  | 12, _ => exact (st_fl hg 314 (w := (Jvm.Cond.eq (Jvm.Term.elem (Jvm.Term.field (Jvm.Term.string "SnowFortsLaw" (76 : Nat)) "java/lang/String" "value" "[B") (Jvm.Term.int (12 : Int32))) (Jvm.Term.int (101 : Int32)))) (by decide +kernel))
  | j + 13, hj => omega
set_option maxRecDepth 100000 in
theorem st_lit_12 {s : State} {args : Array Value} {A : Nat → Prop} (hg : (Jvm.Cond.and given_1 narrow_1).before args s = true) (hA : ∀ a : Nat, a < s.heap.size → ¬ A a) : ∃ a v : Nat, (Term.string "SnowFortsLaw" (jsI 12)).eval args s none [] s = some (.ref a) ∧ va_O "java/lang/String" a A s s.heap ∧ va_OF "java/lang/String" "coder" "B" (.int 0) a A s s.heap ∧ va_OF "java/lang/String" "value" "[B" (.ref v) a A s s.heap ∧ va_T .byte v (jsL.getD 12 0) (fun j => .int ((jsB.getD 12 []).getD j 0)) A s s.heap := by
  refine st_lit (k := 78) (n := 15) (bs := [110, 111, 32, 98, 117, 105, 108, 100, 32, 98, 101, 104, 105, 110, 100]) (by decide) (st_fl hg 315 (w := (Jvm.Cond.exactly (Jvm.Term.string "SnowFortsLaw" (78 : Nat)) "java/lang/String")) (by decide +kernel)) (st_fl hg 316 (w := (Jvm.Cond.eq (Jvm.Term.field (Jvm.Term.string "SnowFortsLaw" (78 : Nat)) "java/lang/String" "coder" "B") (Jvm.Term.int (0 : Int32)))) (by decide +kernel)) (st_fl hg 317 (w := (Jvm.Cond.arrayOf (Jvm.Term.field (Jvm.Term.string "SnowFortsLaw" (78 : Nat)) "java/lang/String" "value" "[B") Jvm.ClassFile.FieldType.byte)) (by decide +kernel)) (st_fl hg 318 (w := (Jvm.Cond.eq (Jvm.Term.length (Jvm.Term.field (Jvm.Term.string "SnowFortsLaw" (78 : Nat)) "java/lang/String" "value" "[B")) (Jvm.Term.int (15 : Int32)))) (by decide +kernel)) (fun j hj => ?_) hA
  match j, hj with
  | 0, _ => exact (st_fl hg 319 (w := (Jvm.Cond.eq (Jvm.Term.elem (Jvm.Term.field (Jvm.Term.string "SnowFortsLaw" (78 : Nat)) "java/lang/String" "value" "[B") (Jvm.Term.int (0 : Int32))) (Jvm.Term.int (110 : Int32)))) (by decide +kernel))
  | 1, _ => exact (st_fl hg 320 (w := (Jvm.Cond.eq (Jvm.Term.elem (Jvm.Term.field (Jvm.Term.string "SnowFortsLaw" (78 : Nat)) "java/lang/String" "value" "[B") (Jvm.Term.int (1 : Int32))) (Jvm.Term.int (111 : Int32)))) (by decide +kernel))
  | 2, _ => exact (st_fl hg 321 (w := (Jvm.Cond.eq (Jvm.Term.elem (Jvm.Term.field (Jvm.Term.string "SnowFortsLaw" (78 : Nat)) "java/lang/String" "value" "[B") (Jvm.Term.int (2 : Int32))) (Jvm.Term.int (32 : Int32)))) (by decide +kernel))
  | 3, _ => exact (st_fl hg 322 (w := (Jvm.Cond.eq (Jvm.Term.elem (Jvm.Term.field (Jvm.Term.string "SnowFortsLaw" (78 : Nat)) "java/lang/String" "value" "[B") (Jvm.Term.int (3 : Int32))) (Jvm.Term.int (98 : Int32)))) (by decide +kernel))
  | 4, _ => exact (st_fl hg 323 (w := (Jvm.Cond.eq (Jvm.Term.elem (Jvm.Term.field (Jvm.Term.string "SnowFortsLaw" (78 : Nat)) "java/lang/String" "value" "[B") (Jvm.Term.int (4 : Int32))) (Jvm.Term.int (117 : Int32)))) (by decide +kernel))
  | 5, _ => exact (st_fl hg 324 (w := (Jvm.Cond.eq (Jvm.Term.elem (Jvm.Term.field (Jvm.Term.string "SnowFortsLaw" (78 : Nat)) "java/lang/String" "value" "[B") (Jvm.Term.int (5 : Int32))) (Jvm.Term.int (105 : Int32)))) (by decide +kernel))
  | 6, _ => exact (st_fl hg 325 (w := (Jvm.Cond.eq (Jvm.Term.elem (Jvm.Term.field (Jvm.Term.string "SnowFortsLaw" (78 : Nat)) "java/lang/String" "value" "[B") (Jvm.Term.int (6 : Int32))) (Jvm.Term.int (108 : Int32)))) (by decide +kernel))
  | 7, _ => exact (st_fl hg 326 (w := (Jvm.Cond.eq (Jvm.Term.elem (Jvm.Term.field (Jvm.Term.string "SnowFortsLaw" (78 : Nat)) "java/lang/String" "value" "[B") (Jvm.Term.int (7 : Int32))) (Jvm.Term.int (100 : Int32)))) (by decide +kernel))
  | 8, _ => exact (st_fl hg 327 (w := (Jvm.Cond.eq (Jvm.Term.elem (Jvm.Term.field (Jvm.Term.string "SnowFortsLaw" (78 : Nat)) "java/lang/String" "value" "[B") (Jvm.Term.int (8 : Int32))) (Jvm.Term.int (32 : Int32)))) (by decide +kernel))
  | 9, _ => exact (st_fl hg 328 (w := (Jvm.Cond.eq (Jvm.Term.elem (Jvm.Term.field (Jvm.Term.string "SnowFortsLaw" (78 : Nat)) "java/lang/String" "value" "[B") (Jvm.Term.int (9 : Int32))) (Jvm.Term.int (98 : Int32)))) (by decide +kernel))
  | 10, _ => exact (st_fl hg 329 (w := (Jvm.Cond.eq (Jvm.Term.elem (Jvm.Term.field (Jvm.Term.string "SnowFortsLaw" (78 : Nat)) "java/lang/String" "value" "[B") (Jvm.Term.int (10 : Int32))) (Jvm.Term.int (101 : Int32)))) (by decide +kernel))
  | 11, _ => exact (st_fl hg 330 (w := (Jvm.Cond.eq (Jvm.Term.elem (Jvm.Term.field (Jvm.Term.string "SnowFortsLaw" (78 : Nat)) "java/lang/String" "value" "[B") (Jvm.Term.int (11 : Int32))) (Jvm.Term.int (104 : Int32)))) (by decide +kernel))
  | 12, _ => exact (st_fl hg 331 (w := (Jvm.Cond.eq (Jvm.Term.elem (Jvm.Term.field (Jvm.Term.string "SnowFortsLaw" (78 : Nat)) "java/lang/String" "value" "[B") (Jvm.Term.int (12 : Int32))) (Jvm.Term.int (105 : Int32)))) (by decide +kernel))
  | 13, _ => exact (st_fl hg 332 (w := (Jvm.Cond.eq (Jvm.Term.elem (Jvm.Term.field (Jvm.Term.string "SnowFortsLaw" (78 : Nat)) "java/lang/String" "value" "[B") (Jvm.Term.int (13 : Int32))) (Jvm.Term.int (110 : Int32)))) (by decide +kernel))
  | 14, _ => exact (st_fl hg 333 (w := (Jvm.Cond.eq (Jvm.Term.elem (Jvm.Term.field (Jvm.Term.string "SnowFortsLaw" (78 : Nat)) "java/lang/String" "value" "[B") (Jvm.Term.int (14 : Int32))) (Jvm.Term.int (100 : Int32)))) (by decide +kernel))
  | j + 15, hj => omega
set_option maxRecDepth 100000 in
theorem st_lit_13 {s : State} {args : Array Value} {A : Nat → Prop} (hg : (Jvm.Cond.and given_1 narrow_1).before args s = true) (hA : ∀ a : Nat, a < s.heap.size → ¬ A a) : ∃ a v : Nat, (Term.string "SnowFortsLaw" (jsI 13)).eval args s none [] s = some (.ref a) ∧ va_O "java/lang/String" a A s s.heap ∧ va_OF "java/lang/String" "coder" "B" (.int 0) a A s s.heap ∧ va_OF "java/lang/String" "value" "[B" (.ref v) a A s s.heap ∧ va_T .byte v (jsL.getD 13 0) (fun j => .int ((jsB.getD 13 []).getD j 0)) A s s.heap := by
  refine st_lit (k := 80) (n := 9) (bs := [110, 111, 32, 115, 116, 101, 97, 108, 59]) (by decide) (st_fl hg 334 (w := (Jvm.Cond.exactly (Jvm.Term.string "SnowFortsLaw" (80 : Nat)) "java/lang/String")) (by decide +kernel)) (st_fl hg 335 (w := (Jvm.Cond.eq (Jvm.Term.field (Jvm.Term.string "SnowFortsLaw" (80 : Nat)) "java/lang/String" "coder" "B") (Jvm.Term.int (0 : Int32)))) (by decide +kernel)) (st_fl hg 336 (w := (Jvm.Cond.arrayOf (Jvm.Term.field (Jvm.Term.string "SnowFortsLaw" (80 : Nat)) "java/lang/String" "value" "[B") Jvm.ClassFile.FieldType.byte)) (by decide +kernel)) (st_fl hg 337 (w := (Jvm.Cond.eq (Jvm.Term.length (Jvm.Term.field (Jvm.Term.string "SnowFortsLaw" (80 : Nat)) "java/lang/String" "value" "[B")) (Jvm.Term.int (9 : Int32)))) (by decide +kernel)) (fun j hj => ?_) hA
  match j, hj with
  | 0, _ => exact (st_fl hg 338 (w := (Jvm.Cond.eq (Jvm.Term.elem (Jvm.Term.field (Jvm.Term.string "SnowFortsLaw" (80 : Nat)) "java/lang/String" "value" "[B") (Jvm.Term.int (0 : Int32))) (Jvm.Term.int (110 : Int32)))) (by decide +kernel))
  | 1, _ => exact (st_fl hg 339 (w := (Jvm.Cond.eq (Jvm.Term.elem (Jvm.Term.field (Jvm.Term.string "SnowFortsLaw" (80 : Nat)) "java/lang/String" "value" "[B") (Jvm.Term.int (1 : Int32))) (Jvm.Term.int (111 : Int32)))) (by decide +kernel))
  | 2, _ => exact (st_fl hg 340 (w := (Jvm.Cond.eq (Jvm.Term.elem (Jvm.Term.field (Jvm.Term.string "SnowFortsLaw" (80 : Nat)) "java/lang/String" "value" "[B") (Jvm.Term.int (2 : Int32))) (Jvm.Term.int (32 : Int32)))) (by decide +kernel))
  | 3, _ => exact (st_fl hg 341 (w := (Jvm.Cond.eq (Jvm.Term.elem (Jvm.Term.field (Jvm.Term.string "SnowFortsLaw" (80 : Nat)) "java/lang/String" "value" "[B") (Jvm.Term.int (3 : Int32))) (Jvm.Term.int (115 : Int32)))) (by decide +kernel))
  | 4, _ => exact (st_fl hg 342 (w := (Jvm.Cond.eq (Jvm.Term.elem (Jvm.Term.field (Jvm.Term.string "SnowFortsLaw" (80 : Nat)) "java/lang/String" "value" "[B") (Jvm.Term.int (4 : Int32))) (Jvm.Term.int (116 : Int32)))) (by decide +kernel))
  | 5, _ => exact (st_fl hg 343 (w := (Jvm.Cond.eq (Jvm.Term.elem (Jvm.Term.field (Jvm.Term.string "SnowFortsLaw" (80 : Nat)) "java/lang/String" "value" "[B") (Jvm.Term.int (5 : Int32))) (Jvm.Term.int (101 : Int32)))) (by decide +kernel))
  | 6, _ => exact (st_fl hg 344 (w := (Jvm.Cond.eq (Jvm.Term.elem (Jvm.Term.field (Jvm.Term.string "SnowFortsLaw" (80 : Nat)) "java/lang/String" "value" "[B") (Jvm.Term.int (6 : Int32))) (Jvm.Term.int (97 : Int32)))) (by decide +kernel))
  | 7, _ => exact (st_fl hg 345 (w := (Jvm.Cond.eq (Jvm.Term.elem (Jvm.Term.field (Jvm.Term.string "SnowFortsLaw" (80 : Nat)) "java/lang/String" "value" "[B") (Jvm.Term.int (7 : Int32))) (Jvm.Term.int (108 : Int32)))) (by decide +kernel))
  | 8, _ => exact (st_fl hg 346 (w := (Jvm.Cond.eq (Jvm.Term.elem (Jvm.Term.field (Jvm.Term.string "SnowFortsLaw" (80 : Nat)) "java/lang/String" "value" "[B") (Jvm.Term.int (8 : Int32))) (Jvm.Term.int (59 : Int32)))) (by decide +kernel))
  | j + 9, hj => omega
set_option maxRecDepth 100000 in
theorem st_lit_14 {s : State} {args : Array Value} {A : Nat → Prop} (hg : (Jvm.Cond.and given_1 narrow_1).before args s = true) (hA : ∀ a : Nat, a < s.heap.size → ¬ A a) : ∃ a v : Nat, (Term.string "SnowFortsLaw" (jsI 14)).eval args s none [] s = some (.ref a) ∧ va_O "java/lang/String" a A s s.heap ∧ va_OF "java/lang/String" "coder" "B" (.int 0) a A s s.heap ∧ va_OF "java/lang/String" "value" "[B" (.ref v) a A s s.heap ∧ va_T .byte v (jsL.getD 14 0) (fun j => .int ((jsB.getD 14 []).getD j 0)) A s s.heap := by
  refine st_lit (k := 82) (n := 12) (bs := [110, 111, 32, 105, 99, 101, 32, 97, 98, 111, 118, 101]) (by decide) (st_fl hg 347 (w := (Jvm.Cond.exactly (Jvm.Term.string "SnowFortsLaw" (82 : Nat)) "java/lang/String")) (by decide +kernel)) (st_fl hg 348 (w := (Jvm.Cond.eq (Jvm.Term.field (Jvm.Term.string "SnowFortsLaw" (82 : Nat)) "java/lang/String" "coder" "B") (Jvm.Term.int (0 : Int32)))) (by decide +kernel)) (st_fl hg 349 (w := (Jvm.Cond.arrayOf (Jvm.Term.field (Jvm.Term.string "SnowFortsLaw" (82 : Nat)) "java/lang/String" "value" "[B") Jvm.ClassFile.FieldType.byte)) (by decide +kernel)) (st_fl hg 350 (w := (Jvm.Cond.eq (Jvm.Term.length (Jvm.Term.field (Jvm.Term.string "SnowFortsLaw" (82 : Nat)) "java/lang/String" "value" "[B")) (Jvm.Term.int (12 : Int32)))) (by decide +kernel)) (fun j hj => ?_) hA
  match j, hj with
  | 0, _ => exact (st_fl hg 351 (w := (Jvm.Cond.eq (Jvm.Term.elem (Jvm.Term.field (Jvm.Term.string "SnowFortsLaw" (82 : Nat)) "java/lang/String" "value" "[B") (Jvm.Term.int (0 : Int32))) (Jvm.Term.int (110 : Int32)))) (by decide +kernel))
  | 1, _ => exact (st_fl hg 352 (w := (Jvm.Cond.eq (Jvm.Term.elem (Jvm.Term.field (Jvm.Term.string "SnowFortsLaw" (82 : Nat)) "java/lang/String" "value" "[B") (Jvm.Term.int (1 : Int32))) (Jvm.Term.int (111 : Int32)))) (by decide +kernel))
  | 2, _ => exact (st_fl hg 353 (w := (Jvm.Cond.eq (Jvm.Term.elem (Jvm.Term.field (Jvm.Term.string "SnowFortsLaw" (82 : Nat)) "java/lang/String" "value" "[B") (Jvm.Term.int (2 : Int32))) (Jvm.Term.int (32 : Int32)))) (by decide +kernel))
  | 3, _ => exact (st_fl hg 354 (w := (Jvm.Cond.eq (Jvm.Term.elem (Jvm.Term.field (Jvm.Term.string "SnowFortsLaw" (82 : Nat)) "java/lang/String" "value" "[B") (Jvm.Term.int (3 : Int32))) (Jvm.Term.int (105 : Int32)))) (by decide +kernel))
  | 4, _ => exact (st_fl hg 355 (w := (Jvm.Cond.eq (Jvm.Term.elem (Jvm.Term.field (Jvm.Term.string "SnowFortsLaw" (82 : Nat)) "java/lang/String" "value" "[B") (Jvm.Term.int (4 : Int32))) (Jvm.Term.int (99 : Int32)))) (by decide +kernel))
  | 5, _ => exact (st_fl hg 356 (w := (Jvm.Cond.eq (Jvm.Term.elem (Jvm.Term.field (Jvm.Term.string "SnowFortsLaw" (82 : Nat)) "java/lang/String" "value" "[B") (Jvm.Term.int (5 : Int32))) (Jvm.Term.int (101 : Int32)))) (by decide +kernel))
  | 6, _ => exact (st_fl hg 357 (w := (Jvm.Cond.eq (Jvm.Term.elem (Jvm.Term.field (Jvm.Term.string "SnowFortsLaw" (82 : Nat)) "java/lang/String" "value" "[B") (Jvm.Term.int (6 : Int32))) (Jvm.Term.int (32 : Int32)))) (by decide +kernel))
  | 7, _ => exact (st_fl hg 358 (w := (Jvm.Cond.eq (Jvm.Term.elem (Jvm.Term.field (Jvm.Term.string "SnowFortsLaw" (82 : Nat)) "java/lang/String" "value" "[B") (Jvm.Term.int (7 : Int32))) (Jvm.Term.int (97 : Int32)))) (by decide +kernel))
  | 8, _ => exact (st_fl hg 359 (w := (Jvm.Cond.eq (Jvm.Term.elem (Jvm.Term.field (Jvm.Term.string "SnowFortsLaw" (82 : Nat)) "java/lang/String" "value" "[B") (Jvm.Term.int (8 : Int32))) (Jvm.Term.int (98 : Int32)))) (by decide +kernel))
  | 9, _ => exact (st_fl hg 360 (w := (Jvm.Cond.eq (Jvm.Term.elem (Jvm.Term.field (Jvm.Term.string "SnowFortsLaw" (82 : Nat)) "java/lang/String" "value" "[B") (Jvm.Term.int (9 : Int32))) (Jvm.Term.int (111 : Int32)))) (by decide +kernel))
  | 10, _ => exact (st_fl hg 361 (w := (Jvm.Cond.eq (Jvm.Term.elem (Jvm.Term.field (Jvm.Term.string "SnowFortsLaw" (82 : Nat)) "java/lang/String" "value" "[B") (Jvm.Term.int (10 : Int32))) (Jvm.Term.int (118 : Int32)))) (by decide +kernel))
  | 11, _ => exact (st_fl hg 362 (w := (Jvm.Cond.eq (Jvm.Term.elem (Jvm.Term.field (Jvm.Term.string "SnowFortsLaw" (82 : Nat)) "java/lang/String" "value" "[B") (Jvm.Term.int (11 : Int32))) (Jvm.Term.int (101 : Int32)))) (by decide +kernel))
  | j + 12, hj => omega
theorem st_rs_0 {s : State} {args : Array Value} (hts : ∀ w ∈ lw_tbl, w.before args s = true) : (Cond.stringRef "SnowFortsLaw" (jsI 0) (jsT 0)).before args s = true := hts _ (tix_3 223 rfl)
theorem st_rs_1 {s : State} {args : Array Value} (hts : ∀ w ∈ lw_tbl, w.before args s = true) : (Cond.stringRef "SnowFortsLaw" (jsI 1) (jsT 1)).before args s = true := hts _ (tix_4 55 rfl)
theorem st_rs_2 {s : State} {args : Array Value} (hts : ∀ w ∈ lw_tbl, w.before args s = true) : (Cond.stringRef "SnowFortsLaw" (jsI 2) (jsT 2)).before args s = true := hts _ (tix_4 56 rfl)
theorem st_rs_3 {s : State} {args : Array Value} (hts : ∀ w ∈ lw_tbl, w.before args s = true) : (Cond.stringRef "SnowFortsLaw" (jsI 3) (jsT 3)).before args s = true := hts _ (tix_4 57 rfl)
theorem st_rs_4 {s : State} {args : Array Value} (hts : ∀ w ∈ lw_tbl, w.before args s = true) : (Cond.stringRef "SnowFortsLaw" (jsI 4) (jsT 4)).before args s = true := hts _ (tix_4 58 rfl)
theorem st_rs_5 {s : State} {args : Array Value} (hts : ∀ w ∈ lw_tbl, w.before args s = true) : (Cond.stringRef "SnowFortsLaw" (jsI 5) (jsT 5)).before args s = true := hts _ (tix_4 59 rfl)
theorem st_rs_6 {s : State} {args : Array Value} (hts : ∀ w ∈ lw_tbl, w.before args s = true) : (Cond.stringRef "SnowFortsLaw" (jsI 6) (jsT 6)).before args s = true := hts _ (tix_4 60 rfl)
theorem st_rs_7 {s : State} {args : Array Value} (hts : ∀ w ∈ lw_tbl, w.before args s = true) : (Cond.stringRef "SnowFortsLaw" (jsI 7) (jsT 7)).before args s = true := hts _ (tix_4 67 rfl)
theorem st_rs_8 {s : State} {args : Array Value} (hts : ∀ w ∈ lw_tbl, w.before args s = true) : (Cond.stringRef "SnowFortsLaw" (jsI 8) (jsT 8)).before args s = true := hts _ (tix_4 68 rfl)
theorem st_rs_9 {s : State} {args : Array Value} (hts : ∀ w ∈ lw_tbl, w.before args s = true) : (Cond.stringRef "SnowFortsLaw" (jsI 9) (jsT 9)).before args s = true := hts _ (tix_4 69 rfl)
theorem st_rs_10 {s : State} {args : Array Value} (hts : ∀ w ∈ lw_tbl, w.before args s = true) : (Cond.stringRef "SnowFortsLaw" (jsI 10) (jsT 10)).before args s = true := hts _ (tix_4 70 rfl)
theorem st_rs_11 {s : State} {args : Array Value} (hts : ∀ w ∈ lw_tbl, w.before args s = true) : (Cond.stringRef "SnowFortsLaw" (jsI 11) (jsT 11)).before args s = true := hts _ (tix_4 71 rfl)
theorem st_rs_12 {s : State} {args : Array Value} (hts : ∀ w ∈ lw_tbl, w.before args s = true) : (Cond.stringRef "SnowFortsLaw" (jsI 12) (jsT 12)).before args s = true := hts _ (tix_4 72 rfl)
theorem st_rs_13 {s : State} {args : Array Value} (hts : ∀ w ∈ lw_tbl, w.before args s = true) : (Cond.stringRef "SnowFortsLaw" (jsI 13) (jsT 13)).before args s = true := hts _ (tix_4 73 rfl)
theorem st_rs_14 {s : State} {args : Array Value} (hts : ∀ w ∈ lw_tbl, w.before args s = true) : (Cond.stringRef "SnowFortsLaw" (jsI 14) (jsT 14)).before args s = true := hts _ (tix_4 74 rfl)
set_option maxRecDepth 100000 in
set_option maxHeartbeats 8000000 in
theorem st_cst {s : State} {args : Array Value} (X0 : xW) (hts : ∀ w ∈ lw_tbl, w.before args s = true) (hg : (Jvm.Cond.and given_1 narrow_1).before args s = true) {b L : Nat} {xs : Nat → Int32} (hX : va_X b L xs s s.heap) (hbl : b < s.heap.size) : ∃ (X : xW) (Γ : Nat → Option Nat), X.1 = X0.1 ∧ (∀ t, t < 100 → X.2 t = X0.2 t) ∧ sad X = b ∧ sln X = L ∧ Cst X Γ s s.heap ∧ NwG Γ s.heap.size s.heap ∧ (∀ x k, Γ x = some k → k = 12 ∨ k = 13) := by
  have hA : ∀ a : Nat, a < s.heap.size → ¬ (fun q : Nat => s.heap.size ≤ q) a := fun a h => Nat.not_le.mpr h
  obtain ⟨tR, eR, TR⟩ := va_Tof (tm := (Jvm.Term.static "SnowForts$Walk" "RIGHT" "[I")) (ty := .int) (N := 4) (f := fRIGHT) (A := fun q : Nat => s.heap.size ≤ q) (by decide) (st_fl hg 5 (w := (Jvm.Cond.arrayOf (Jvm.Term.static "SnowForts$Walk" "RIGHT" "[I") Jvm.ClassFile.FieldType.int)) (by decide +kernel)) (va_eqv (st_fl hg 6 (w := (Jvm.Cond.eq (Jvm.Term.length (Jvm.Term.static "SnowForts$Walk" "RIGHT" "[I")) (Jvm.Term.int (4 : Int32)))) (by decide +kernel)) rfl) (fun j hj => by
    match j, hj with
    | 0, _ => exact va_eqv (u := .int 1) (st_fl hg 7 (w := (Jvm.Cond.eq (Jvm.Term.elem (Jvm.Term.static "SnowForts$Walk" "RIGHT" "[I") (Jvm.Term.int (0 : Int32))) (Jvm.Term.int (1 : Int32)))) (by decide +kernel)) rfl
    | 1, _ => exact va_eqv (u := .int 0) (st_fl hg 8 (w := (Jvm.Cond.eq (Jvm.Term.elem (Jvm.Term.static "SnowForts$Walk" "RIGHT" "[I") (Jvm.Term.int (1 : Int32))) (Jvm.Term.int (0 : Int32)))) (by decide +kernel)) rfl
    | 2, _ => exact va_eqv (u := .int 0) (st_fl hg 9 (w := (Jvm.Cond.eq (Jvm.Term.elem (Jvm.Term.static "SnowForts$Walk" "RIGHT" "[I") (Jvm.Term.int (2 : Int32))) (Jvm.Term.int (0 : Int32)))) (by decide +kernel)) rfl
    | 3, _ => exact va_eqv (u := .int (-1)) (st_fl hg 10 (w := (Jvm.Cond.eq (Jvm.Term.elem (Jvm.Term.static "SnowForts$Walk" "RIGHT" "[I") (Jvm.Term.int (3 : Int32))) (Jvm.Term.int (-1 : Int32)))) (by decide +kernel)) rfl
    | j + 4, hj => omega) hA
  have ZR := va_Zref (hts _ (tix_3 187 rfl)) (hts _ (tix_1 8 rfl)) eR hA
  obtain ⟨tD, eD, TD⟩ := va_Tof (tm := (Jvm.Term.static "SnowForts$Walk" "DOWN" "[I")) (ty := .int) (N := 4) (f := fDOWN) (A := fun q : Nat => s.heap.size ≤ q) (by decide) (st_fl hg 12 (w := (Jvm.Cond.arrayOf (Jvm.Term.static "SnowForts$Walk" "DOWN" "[I") Jvm.ClassFile.FieldType.int)) (by decide +kernel)) (va_eqv (st_fl hg 13 (w := (Jvm.Cond.eq (Jvm.Term.length (Jvm.Term.static "SnowForts$Walk" "DOWN" "[I")) (Jvm.Term.int (4 : Int32)))) (by decide +kernel)) rfl) (fun j hj => by
    match j, hj with
    | 0, _ => exact va_eqv (u := .int 0) (st_fl hg 14 (w := (Jvm.Cond.eq (Jvm.Term.elem (Jvm.Term.static "SnowForts$Walk" "DOWN" "[I") (Jvm.Term.int (0 : Int32))) (Jvm.Term.int (0 : Int32)))) (by decide +kernel)) rfl
    | 1, _ => exact va_eqv (u := .int 1) (st_fl hg 15 (w := (Jvm.Cond.eq (Jvm.Term.elem (Jvm.Term.static "SnowForts$Walk" "DOWN" "[I") (Jvm.Term.int (1 : Int32))) (Jvm.Term.int (1 : Int32)))) (by decide +kernel)) rfl
    | 2, _ => exact va_eqv (u := .int (-1)) (st_fl hg 16 (w := (Jvm.Cond.eq (Jvm.Term.elem (Jvm.Term.static "SnowForts$Walk" "DOWN" "[I") (Jvm.Term.int (2 : Int32))) (Jvm.Term.int (-1 : Int32)))) (by decide +kernel)) rfl
    | 3, _ => exact va_eqv (u := .int 0) (st_fl hg 17 (w := (Jvm.Cond.eq (Jvm.Term.elem (Jvm.Term.static "SnowForts$Walk" "DOWN" "[I") (Jvm.Term.int (3 : Int32))) (Jvm.Term.int (0 : Int32)))) (by decide +kernel)) rfl
    | j + 4, hj => omega) hA
  have ZD := va_Zref (hts _ (tix_3 189 rfl)) (hts _ (tix_1 8 rfl)) eD hA
  obtain ⟨w0, e0, z0, o0⟩ := st_obj (A := fun q : Nat => s.heap.size ≤ q) (hts _ (tix_4 138 rfl)) (hts _ (tix_1 19 rfl)) (st_fl hg 57 (w := (Jvm.Cond.exactly (Jvm.Term.static "SnowForts$Word" "WIDE" "LSnowForts$Word;") "SnowForts$Word")) (by decide +kernel)) hA
  obtain ⟨w1, e1, z1, o1⟩ := st_obj (A := fun q : Nat => s.heap.size ≤ q) (hts _ (tix_4 158 rfl)) (hts _ (tix_1 19 rfl)) (st_fl hg 60 (w := (Jvm.Cond.exactly (Jvm.Term.static "SnowForts$Word" "HIGH" "LSnowForts$Word;") "SnowForts$Word")) (by decide +kernel)) hA
  obtain ⟨w2, e2, z2, o2⟩ := st_obj (A := fun q : Nat => s.heap.size ≤ q) (hts _ (tix_4 168 rfl)) (hts _ (tix_1 19 rfl)) (st_fl hg 63 (w := (Jvm.Cond.exactly (Jvm.Term.static "SnowForts$Word" "SCHOOL" "LSnowForts$Word;") "SnowForts$Word")) (by decide +kernel)) hA
  obtain ⟨w3, e3, z3, o3⟩ := st_obj (A := fun q : Nat => s.heap.size ≤ q) (hts _ (tix_4 181 rfl)) (hts _ (tix_1 19 rfl)) (st_fl hg 66 (w := (Jvm.Cond.exactly (Jvm.Term.static "SnowForts$Word" "HANDS" "LSnowForts$Word;") "SnowForts$Word")) (by decide +kernel)) hA
  obtain ⟨w4, e4, z4, o4⟩ := st_obj (A := fun q : Nat => s.heap.size ≤ q) (hts _ (tix_4 183 rfl)) (hts _ (tix_1 19 rfl)) (st_fl hg 69 (w := (Jvm.Cond.exactly (Jvm.Term.static "SnowForts$Word" "SNOW" "LSnowForts$Word;") "SnowForts$Word")) (by decide +kernel)) hA
  obtain ⟨w5, e5, z5, o5⟩ := st_obj (A := fun q : Nat => s.heap.size ≤ q) (hts _ (tix_4 185 rfl)) (hts _ (tix_1 19 rfl)) (st_fl hg 72 (w := (Jvm.Cond.exactly (Jvm.Term.static "SnowForts$Word" "DEEP" "LSnowForts$Word;") "SnowForts$Word")) (by decide +kernel)) hA
  obtain ⟨w6, e6, z6, o6⟩ := st_obj (A := fun q : Nat => s.heap.size ≤ q) (hts _ (tix_4 191 rfl)) (hts _ (tix_1 19 rfl)) (st_fl hg 75 (w := (Jvm.Cond.exactly (Jvm.Term.static "SnowForts$Word" "WALL" "LSnowForts$Word;") "SnowForts$Word")) (by decide +kernel)) hA
  obtain ⟨w7, e7, z7, o7⟩ := st_obj (A := fun q : Nat => s.heap.size ≤ q) (hts _ (tix_4 193 rfl)) (hts _ (tix_1 19 rfl)) (st_fl hg 78 (w := (Jvm.Cond.exactly (Jvm.Term.static "SnowForts$Word" "TALL" "LSnowForts$Word;") "SnowForts$Word")) (by decide +kernel)) hA
  obtain ⟨w8, e8, z8, o8⟩ := st_obj (A := fun q : Nat => s.heap.size ≤ q) (hts _ (tix_4 195 rfl)) (hts _ (tix_1 19 rfl)) (st_fl hg 81 (w := (Jvm.Cond.exactly (Jvm.Term.static "SnowForts$Word" "SUN" "LSnowForts$Word;") "SnowForts$Word")) (by decide +kernel)) hA
  obtain ⟨w9, e9, z9, o9⟩ := st_obj (A := fun q : Nat => s.heap.size ≤ q) (hts _ (tix_4 197 rfl)) (hts _ (tix_1 19 rfl)) (st_fl hg 84 (w := (Jvm.Cond.exactly (Jvm.Term.static "SnowForts$Word" "BY" "LSnowForts$Word;") "SnowForts$Word")) (by decide +kernel)) hA
  obtain ⟨w10, e10, z10, o10⟩ := st_obj (A := fun q : Nat => s.heap.size ≤ q) (hts _ (tix_4 199 rfl)) (hts _ (tix_1 19 rfl)) (st_fl hg 87 (w := (Jvm.Cond.exactly (Jvm.Term.static "SnowForts$Word" "NO" "LSnowForts$Word;") "SnowForts$Word")) (by decide +kernel)) hA
  obtain ⟨w11, e11, z11, o11⟩ := st_obj (A := fun q : Nat => s.heap.size ≤ q) (hts _ (tix_4 209 rfl)) (hts _ (tix_1 19 rfl)) (st_fl hg 90 (w := (Jvm.Cond.exactly (Jvm.Term.static "SnowForts$Word" "ABOVE" "LSnowForts$Word;") "SnowForts$Word")) (by decide +kernel)) hA
  obtain ⟨w12, e12, z12, o12⟩ := st_obj (A := fun q : Nat => s.heap.size ≤ q) (hts _ (tix_4 215 rfl)) (hts _ (tix_1 19 rfl)) (st_fl hg 93 (w := (Jvm.Cond.exactly (Jvm.Term.static "SnowForts$Word" "BUILD" "LSnowForts$Word;") "SnowForts$Word")) (by decide +kernel)) hA
  obtain ⟨w13, e13, z13, o13⟩ := st_obj (A := fun q : Nat => s.heap.size ≤ q) (hts _ (tix_4 217 rfl)) (hts _ (tix_1 19 rfl)) (st_fl hg 96 (w := (Jvm.Cond.exactly (Jvm.Term.static "SnowForts$Word" "BEHIND" "LSnowForts$Word;") "SnowForts$Word")) (by decide +kernel)) hA
  obtain ⟨w14, e14, z14, o14⟩ := st_obj (A := fun q : Nat => s.heap.size ≤ q) (hts _ (tix_4 221 rfl)) (hts _ (tix_1 19 rfl)) (st_fl hg 102 (w := (Jvm.Cond.exactly (Jvm.Term.static "SnowForts$Word" "STEAL" "LSnowForts$Word;") "SnowForts$Word")) (by decide +kernel)) hA
  obtain ⟨w15, e15, z15, o15⟩ := st_obj (A := fun q : Nat => s.heap.size ≤ q) (hts _ (tix_4 219 rfl)) (hts _ (tix_1 19 rfl)) (st_fl hg 99 (w := (Jvm.Cond.exactly (Jvm.Term.static "SnowForts$Word" "ICE" "LSnowForts$Word;") "SnowForts$Word")) (by decide +kernel)) hA
  obtain ⟨w16, e16, z16, o16⟩ := st_obj (A := fun q : Nat => s.heap.size ≤ q) (hts _ (tix_5 17 rfl)) (hts _ (tix_1 19 rfl)) (st_fl hg 108 (w := (Jvm.Cond.exactly (Jvm.Term.static "SnowForts$Word" "FALL" "LSnowForts$Word;") "SnowForts$Word")) (by decide +kernel)) hA
  obtain ⟨w17, e17, z17, o17⟩ := st_obj (A := fun q : Nat => s.heap.size ≤ q) (hts _ (tix_5 19 rfl)) (hts _ (tix_1 19 rfl)) (st_fl hg 111 (w := (Jvm.Cond.exactly (Jvm.Term.static "SnowForts$Word" "THAW" "LSnowForts$Word;") "SnowForts$Word")) (by decide +kernel)) hA
  obtain ⟨w18, e18, z18, o18⟩ := st_obj (A := fun q : Nat => s.heap.size ≤ q) (hts _ (tix_5 21 rfl)) (hts _ (tix_1 19 rfl)) (st_fl hg 114 (w := (Jvm.Cond.exactly (Jvm.Term.static "SnowForts$Word" "STORM" "LSnowForts$Word;") "SnowForts$Word")) (by decide +kernel)) hA
  obtain ⟨w19, e19, z19, o19⟩ := st_obj (A := fun q : Nat => s.heap.size ≤ q) (hts _ (tix_5 69 rfl)) (hts _ (tix_1 19 rfl)) (st_fl hg 138 (w := (Jvm.Cond.exactly (Jvm.Term.static "SnowForts$Word" "TO" "LSnowForts$Word;") "SnowForts$Word")) (by decide +kernel)) hA
  obtain ⟨w20, e20, z20, o20⟩ := st_obj (A := fun q : Nat => s.heap.size ≤ q) (hts _ (tix_5 26 rfl)) (hts _ (tix_1 19 rfl)) (st_fl hg 117 (w := (Jvm.Cond.exactly (Jvm.Term.static "SnowForts$Word" "NIGHT" "LSnowForts$Word;") "SnowForts$Word")) (by decide +kernel)) hA
  obtain ⟨w21, e21, z21, o21⟩ := st_obj (A := fun q : Nat => s.heap.size ≤ q) (hts _ (tix_5 73 rfl)) (hts _ (tix_1 19 rfl)) (st_fl hg 141 (w := (Jvm.Cond.exactly (Jvm.Term.static "SnowForts$Word" "FROM" "LSnowForts$Word;") "SnowForts$Word")) (by decide +kernel)) hA
  obtain ⟨w22, e22, z22, o22⟩ := st_obj (A := fun q : Nat => s.heap.size ≤ q) (hts _ (tix_5 28 rfl)) (hts _ (tix_1 19 rfl)) (st_fl hg 120 (w := (Jvm.Cond.exactly (Jvm.Term.static "SnowForts$Word" "WHEN" "LSnowForts$Word;") "SnowForts$Word")) (by decide +kernel)) hA
  obtain ⟨w23, e23, z23, o23⟩ := st_obj (A := fun q : Nat => s.heap.size ≤ q) (hts _ (tix_5 41 rfl)) (hts _ (tix_1 19 rfl)) (st_fl hg 132 (w := (Jvm.Cond.exactly (Jvm.Term.static "SnowForts$Word" "DAY" "LSnowForts$Word;") "SnowForts$Word")) (by decide +kernel)) hA
  obtain ⟨w24, e24, z24, o24⟩ := st_obj (A := fun q : Nat => s.heap.size ≤ q) (hts _ (tix_5 39 rfl)) (hts _ (tix_1 19 rfl)) (st_fl hg 129 (w := (Jvm.Cond.exactly (Jvm.Term.static "SnowForts$Word" "BREACH" "LSnowForts$Word;") "SnowForts$Word")) (by decide +kernel)) hA
  obtain ⟨w25, e25, z25, o25⟩ := st_obj (A := fun q : Nat => s.heap.size ≤ q) (hts _ (tix_5 44 rfl)) (hts _ (tix_1 19 rfl)) (st_fl hg 135 (w := (Jvm.Cond.exactly (Jvm.Term.static "SnowForts$Word" "WAY" "LSnowForts$Word;") "SnowForts$Word")) (by decide +kernel)) hA
  obtain ⟨w26, e26, z26, o26⟩ := st_obj (A := fun q : Nat => s.heap.size ≤ q) (hts _ (tix_5 30 rfl)) (hts _ (tix_1 19 rfl)) (st_fl hg 123 (w := (Jvm.Cond.exactly (Jvm.Term.static "SnowForts$Word" "LOOP" "LSnowForts$Word;") "SnowForts$Word")) (by decide +kernel)) hA
  obtain ⟨w27, e27, z27, o27⟩ := st_obj (A := fun q : Nat => s.heap.size ≤ q) (hts _ (tix_4 238 rfl)) (hts _ (tix_1 19 rfl)) (st_fl hg 105 (w := (Jvm.Cond.exactly (Jvm.Term.static "SnowForts$Word" "END" "LSnowForts$Word;") "SnowForts$Word")) (by decide +kernel)) hA
  obtain ⟨w28, e28, z28, o28⟩ := st_obj (A := fun q : Nat => s.heap.size ≤ q) (hts _ (tix_5 32 rfl)) (hts _ (tix_1 19 rfl)) (st_fl hg 126 (w := (Jvm.Cond.exactly (Jvm.Term.static "SnowForts$Word" "STOP" "LSnowForts$Word;") "SnowForts$Word")) (by decide +kernel)) hA
  obtain ⟨k0, v0, lq0, la0, lb0, lc0, ld0⟩ := st_lit_0 (A := fun q : Nat => s.heap.size ≤ q) hg hA
  obtain ⟨k1, v1, lq1, la1, lb1, lc1, ld1⟩ := st_lit_1 (A := fun q : Nat => s.heap.size ≤ q) hg hA
  obtain ⟨k2, v2, lq2, la2, lb2, lc2, ld2⟩ := st_lit_2 (A := fun q : Nat => s.heap.size ≤ q) hg hA
  obtain ⟨k3, v3, lq3, la3, lb3, lc3, ld3⟩ := st_lit_3 (A := fun q : Nat => s.heap.size ≤ q) hg hA
  obtain ⟨k4, v4, lq4, la4, lb4, lc4, ld4⟩ := st_lit_4 (A := fun q : Nat => s.heap.size ≤ q) hg hA
  obtain ⟨k5, v5, lq5, la5, lb5, lc5, ld5⟩ := st_lit_5 (A := fun q : Nat => s.heap.size ≤ q) hg hA
  obtain ⟨k6, v6, lq6, la6, lb6, lc6, ld6⟩ := st_lit_6 (A := fun q : Nat => s.heap.size ≤ q) hg hA
  obtain ⟨k7, v7, lq7, la7, lb7, lc7, ld7⟩ := st_lit_7 (A := fun q : Nat => s.heap.size ≤ q) hg hA
  obtain ⟨k8, v8, lq8, la8, lb8, lc8, ld8⟩ := st_lit_8 (A := fun q : Nat => s.heap.size ≤ q) hg hA
  obtain ⟨k9, v9, lq9, la9, lb9, lc9, ld9⟩ := st_lit_9 (A := fun q : Nat => s.heap.size ≤ q) hg hA
  obtain ⟨k10, v10, lq10, la10, lb10, lc10, ld10⟩ := st_lit_10 (A := fun q : Nat => s.heap.size ≤ q) hg hA
  obtain ⟨k11, v11, lq11, la11, lb11, lc11, ld11⟩ := st_lit_11 (A := fun q : Nat => s.heap.size ≤ q) hg hA
  obtain ⟨k12, v12, lq12, la12, lb12, lc12, ld12⟩ := st_lit_12 (A := fun q : Nat => s.heap.size ≤ q) hg hA
  obtain ⟨k13, v13, lq13, la13, lb13, lc13, ld13⟩ := st_lit_13 (A := fun q : Nat => s.heap.size ≤ q) hg hA
  obtain ⟨k14, v14, lq14, la14, lb14, lc14, ld14⟩ := st_lit_14 (A := fun q : Nat => s.heap.size ≤ q) hg hA
  obtain ⟨ad, had⟩ : ∃ ad : Nat → Nat, ad 0 = w0 ∧ ad 1 = w1 ∧ ad 2 = w2 ∧ ad 3 = w3 ∧ ad 4 = w4 ∧ ad 5 = w5 ∧ ad 6 = w6 ∧ ad 7 = w7 ∧ ad 8 = w8 ∧ ad 9 = w9 ∧ ad 10 = w10 ∧ ad 11 = w11 ∧ ad 12 = w12 ∧ ad 13 = w13 ∧ ad 14 = w14 ∧ ad 15 = w15 ∧ ad 16 = w16 ∧ ad 17 = w17 ∧ ad 18 = w18 ∧ ad 19 = w19 ∧ ad 20 = w20 ∧ ad 21 = w21 ∧ ad 22 = w22 ∧ ad 23 = w23 ∧ ad 24 = w24 ∧ ad 25 = w25 ∧ ad 26 = w26 ∧ ad 27 = w27 ∧ ad 28 = w28 ∧ ad 100 = b ∧ ad 101 = L ∧ ad 110 = k0 ∧ ad 111 = k1 ∧ ad 112 = k2 ∧ ad 113 = k3 ∧ ad 114 = k4 ∧ ad 115 = k5 ∧ ad 116 = k6 ∧ ad 117 = k7 ∧ ad 118 = k8 ∧ ad 119 = k9 ∧ ad 120 = k10 ∧ ad 121 = k11 ∧ ad 122 = k12 ∧ ad 123 = k13 ∧ ad 124 = k14 ∧ ad 130 = v0 ∧ ad 131 = v1 ∧ ad 132 = v2 ∧ ad 133 = v3 ∧ ad 134 = v4 ∧ ad 135 = v5 ∧ ad 136 = v6 ∧ ad 137 = v7 ∧ ad 138 = v8 ∧ ad 139 = v9 ∧ ad 140 = v10 ∧ ad 141 = v11 ∧ ad 142 = v12 ∧ ad 143 = v13 ∧ ad 144 = v14 ∧ ∀ j, ad (200 + j) = (xs j).toBitVec.toNat := ⟨fun i => match i with | 0 => w0 | 1 => w1 | 2 => w2 | 3 => w3 | 4 => w4 | 5 => w5 | 6 => w6 | 7 => w7 | 8 => w8 | 9 => w9 | 10 => w10 | 11 => w11 | 12 => w12 | 13 => w13 | 14 => w14 | 15 => w15 | 16 => w16 | 17 => w17 | 18 => w18 | 19 => w19 | 20 => w20 | 21 => w21 | 22 => w22 | 23 => w23 | 24 => w24 | 25 => w25 | 26 => w26 | 27 => w27 | 28 => w28 | 100 => b | 101 => L | 110 => k0 | 111 => k1 | 112 => k2 | 113 => k3 | 114 => k4 | 115 => k5 | 116 => k6 | 117 => k7 | 118 => k8 | 119 => k9 | 120 => k10 | 121 => k11 | 122 => k12 | 123 => k13 | 124 => k14 | 130 => v0 | 131 => v1 | 132 => v2 | 133 => v3 | 134 => v4 | 135 => v5 | 136 => v6 | 137 => v7 | 138 => v8 | 139 => v9 | 140 => v10 | 141 => v11 | 142 => v12 | 143 => v13 | 144 => v14 | q => (xs (q - 200)).toBitVec.toNat, rfl, rfl, rfl, rfl, rfl, rfl, rfl, rfl, rfl, rfl, rfl, rfl, rfl, rfl, rfl, rfl, rfl, rfl, rfl, rfl, rfl, rfl, rfl, rfl, rfl, rfl, rfl, rfl, rfl, rfl, rfl, rfl, rfl, rfl, rfl, rfl, rfl, rfl, rfl, rfl, rfl, rfl, rfl, rfl, rfl, rfl, rfl, rfl, rfl, rfl, rfl, rfl, rfl, rfl, rfl, rfl, rfl, rfl, rfl, rfl, rfl, fun j => by
    show (match 200 + j with | 0 => w0 | 1 => w1 | 2 => w2 | 3 => w3 | 4 => w4 | 5 => w5 | 6 => w6 | 7 => w7 | 8 => w8 | 9 => w9 | 10 => w10 | 11 => w11 | 12 => w12 | 13 => w13 | 14 => w14 | 15 => w15 | 16 => w16 | 17 => w17 | 18 => w18 | 19 => w19 | 20 => w20 | 21 => w21 | 22 => w22 | 23 => w23 | 24 => w24 | 25 => w25 | 26 => w26 | 27 => w27 | 28 => w28 | 100 => b | 101 => L | 110 => k0 | 111 => k1 | 112 => k2 | 113 => k3 | 114 => k4 | 115 => k5 | 116 => k6 | 117 => k7 | 118 => k8 | 119 => k9 | 120 => k10 | 121 => k11 | 122 => k12 | 123 => k13 | 124 => k14 | 130 => v0 | 131 => v1 | 132 => v2 | 133 => v3 | 134 => v4 | 135 => v5 | 136 => v6 | 137 => v7 | 138 => v8 | 139 => v9 | 140 => v10 | 141 => v11 | 142 => v12 | 143 => v13 | 144 => v14 | q => (xs (q - 200)).toBitVec.toNat) = _
    split <;> first | omega | (rename_i q9 _; rw [Nat.add_sub_cancel_left]) | rw [Nat.add_sub_cancel_left]⟩
  obtain ⟨d0, d1, d2, d3, d4, d5, d6, d7, d8, d9, d10, d11, d12, d13, d14, d15, d16, d17, d18, d19, d20, d21, d22, d23, d24, d25, d26, d27, d28, dB, dL, dk0, dk1, dk2, dk3, dk4, dk5, dk6, dk7, dk8, dk9, dk10, dk11, dk12, dk13, dk14, dv0, dv1, dv2, dv3, dv4, dv5, dv6, dv7, dv8, dv9, dv10, dv11, dv12, dv13, dv14, dX⟩ := had
  obtain ⟨tA, eA, TA⟩ := va_Tof (tm := (Jvm.Term.static "SnowForts$Word" "ALL" "[LSnowForts$Word;")) (ty := .object "SnowForts$Word") (N := 29) (f := fun i => .ref (ad i)) (A := fun q : Nat => s.heap.size ≤ q) (by decide) (st_fl hg 25 (w := (Jvm.Cond.arrayOf (Jvm.Term.static "SnowForts$Word" "ALL" "[LSnowForts$Word;") (Jvm.ClassFile.FieldType.object "SnowForts$Word"))) (by decide +kernel)) (va_eqv (st_fl hg 26 (w := (Jvm.Cond.eq (Jvm.Term.length (Jvm.Term.static "SnowForts$Word" "ALL" "[LSnowForts$Word;")) (Jvm.Term.int (29 : Int32)))) (by decide +kernel)) rfl) (fun j hj => by
    match j, hj with
    | 0, _ => rw [d0]; exact va_eqv (st_fl hg 28 (w := (Jvm.Cond.eq (Jvm.Term.elem (Jvm.Term.static "SnowForts$Word" "ALL" "[LSnowForts$Word;") (Jvm.Term.int (0 : Int32))) (Jvm.Term.static "SnowForts$Word" "WIDE" "LSnowForts$Word;"))) (by decide +kernel)) e0
    | 1, _ => rw [d1]; exact va_eqv (st_fl hg 29 (w := (Jvm.Cond.eq (Jvm.Term.elem (Jvm.Term.static "SnowForts$Word" "ALL" "[LSnowForts$Word;") (Jvm.Term.int (1 : Int32))) (Jvm.Term.static "SnowForts$Word" "HIGH" "LSnowForts$Word;"))) (by decide +kernel)) e1
    | 2, _ => rw [d2]; exact va_eqv (st_fl hg 30 (w := (Jvm.Cond.eq (Jvm.Term.elem (Jvm.Term.static "SnowForts$Word" "ALL" "[LSnowForts$Word;") (Jvm.Term.int (2 : Int32))) (Jvm.Term.static "SnowForts$Word" "SCHOOL" "LSnowForts$Word;"))) (by decide +kernel)) e2
    | 3, _ => rw [d3]; exact va_eqv (st_fl hg 31 (w := (Jvm.Cond.eq (Jvm.Term.elem (Jvm.Term.static "SnowForts$Word" "ALL" "[LSnowForts$Word;") (Jvm.Term.int (3 : Int32))) (Jvm.Term.static "SnowForts$Word" "HANDS" "LSnowForts$Word;"))) (by decide +kernel)) e3
    | 4, _ => rw [d4]; exact va_eqv (st_fl hg 32 (w := (Jvm.Cond.eq (Jvm.Term.elem (Jvm.Term.static "SnowForts$Word" "ALL" "[LSnowForts$Word;") (Jvm.Term.int (4 : Int32))) (Jvm.Term.static "SnowForts$Word" "SNOW" "LSnowForts$Word;"))) (by decide +kernel)) e4
    | 5, _ => rw [d5]; exact va_eqv (st_fl hg 33 (w := (Jvm.Cond.eq (Jvm.Term.elem (Jvm.Term.static "SnowForts$Word" "ALL" "[LSnowForts$Word;") (Jvm.Term.int (5 : Int32))) (Jvm.Term.static "SnowForts$Word" "DEEP" "LSnowForts$Word;"))) (by decide +kernel)) e5
    | 6, _ => rw [d6]; exact va_eqv (st_fl hg 34 (w := (Jvm.Cond.eq (Jvm.Term.elem (Jvm.Term.static "SnowForts$Word" "ALL" "[LSnowForts$Word;") (Jvm.Term.int (6 : Int32))) (Jvm.Term.static "SnowForts$Word" "WALL" "LSnowForts$Word;"))) (by decide +kernel)) e6
    | 7, _ => rw [d7]; exact va_eqv (st_fl hg 35 (w := (Jvm.Cond.eq (Jvm.Term.elem (Jvm.Term.static "SnowForts$Word" "ALL" "[LSnowForts$Word;") (Jvm.Term.int (7 : Int32))) (Jvm.Term.static "SnowForts$Word" "TALL" "LSnowForts$Word;"))) (by decide +kernel)) e7
    | 8, _ => rw [d8]; exact va_eqv (st_fl hg 36 (w := (Jvm.Cond.eq (Jvm.Term.elem (Jvm.Term.static "SnowForts$Word" "ALL" "[LSnowForts$Word;") (Jvm.Term.int (8 : Int32))) (Jvm.Term.static "SnowForts$Word" "SUN" "LSnowForts$Word;"))) (by decide +kernel)) e8
    | 9, _ => rw [d9]; exact va_eqv (st_fl hg 37 (w := (Jvm.Cond.eq (Jvm.Term.elem (Jvm.Term.static "SnowForts$Word" "ALL" "[LSnowForts$Word;") (Jvm.Term.int (9 : Int32))) (Jvm.Term.static "SnowForts$Word" "BY" "LSnowForts$Word;"))) (by decide +kernel)) e9
    | 10, _ => rw [d10]; exact va_eqv (st_fl hg 38 (w := (Jvm.Cond.eq (Jvm.Term.elem (Jvm.Term.static "SnowForts$Word" "ALL" "[LSnowForts$Word;") (Jvm.Term.int (10 : Int32))) (Jvm.Term.static "SnowForts$Word" "NO" "LSnowForts$Word;"))) (by decide +kernel)) e10
    | 11, _ => rw [d11]; exact va_eqv (st_fl hg 39 (w := (Jvm.Cond.eq (Jvm.Term.elem (Jvm.Term.static "SnowForts$Word" "ALL" "[LSnowForts$Word;") (Jvm.Term.int (11 : Int32))) (Jvm.Term.static "SnowForts$Word" "ABOVE" "LSnowForts$Word;"))) (by decide +kernel)) e11
    | 12, _ => rw [d12]; exact va_eqv (st_fl hg 40 (w := (Jvm.Cond.eq (Jvm.Term.elem (Jvm.Term.static "SnowForts$Word" "ALL" "[LSnowForts$Word;") (Jvm.Term.int (12 : Int32))) (Jvm.Term.static "SnowForts$Word" "BUILD" "LSnowForts$Word;"))) (by decide +kernel)) e12
    | 13, _ => rw [d13]; exact va_eqv (st_fl hg 41 (w := (Jvm.Cond.eq (Jvm.Term.elem (Jvm.Term.static "SnowForts$Word" "ALL" "[LSnowForts$Word;") (Jvm.Term.int (13 : Int32))) (Jvm.Term.static "SnowForts$Word" "BEHIND" "LSnowForts$Word;"))) (by decide +kernel)) e13
    | 14, _ => rw [d14]; exact va_eqv (st_fl hg 42 (w := (Jvm.Cond.eq (Jvm.Term.elem (Jvm.Term.static "SnowForts$Word" "ALL" "[LSnowForts$Word;") (Jvm.Term.int (14 : Int32))) (Jvm.Term.static "SnowForts$Word" "STEAL" "LSnowForts$Word;"))) (by decide +kernel)) e14
    | 15, _ => rw [d15]; exact va_eqv (st_fl hg 43 (w := (Jvm.Cond.eq (Jvm.Term.elem (Jvm.Term.static "SnowForts$Word" "ALL" "[LSnowForts$Word;") (Jvm.Term.int (15 : Int32))) (Jvm.Term.static "SnowForts$Word" "ICE" "LSnowForts$Word;"))) (by decide +kernel)) e15
    | 16, _ => rw [d16]; exact va_eqv (st_fl hg 44 (w := (Jvm.Cond.eq (Jvm.Term.elem (Jvm.Term.static "SnowForts$Word" "ALL" "[LSnowForts$Word;") (Jvm.Term.int (16 : Int32))) (Jvm.Term.static "SnowForts$Word" "FALL" "LSnowForts$Word;"))) (by decide +kernel)) e16
    | 17, _ => rw [d17]; exact va_eqv (st_fl hg 45 (w := (Jvm.Cond.eq (Jvm.Term.elem (Jvm.Term.static "SnowForts$Word" "ALL" "[LSnowForts$Word;") (Jvm.Term.int (17 : Int32))) (Jvm.Term.static "SnowForts$Word" "THAW" "LSnowForts$Word;"))) (by decide +kernel)) e17
    | 18, _ => rw [d18]; exact va_eqv (st_fl hg 46 (w := (Jvm.Cond.eq (Jvm.Term.elem (Jvm.Term.static "SnowForts$Word" "ALL" "[LSnowForts$Word;") (Jvm.Term.int (18 : Int32))) (Jvm.Term.static "SnowForts$Word" "STORM" "LSnowForts$Word;"))) (by decide +kernel)) e18
    | 19, _ => rw [d19]; exact va_eqv (st_fl hg 47 (w := (Jvm.Cond.eq (Jvm.Term.elem (Jvm.Term.static "SnowForts$Word" "ALL" "[LSnowForts$Word;") (Jvm.Term.int (19 : Int32))) (Jvm.Term.static "SnowForts$Word" "TO" "LSnowForts$Word;"))) (by decide +kernel)) e19
    | 20, _ => rw [d20]; exact va_eqv (st_fl hg 48 (w := (Jvm.Cond.eq (Jvm.Term.elem (Jvm.Term.static "SnowForts$Word" "ALL" "[LSnowForts$Word;") (Jvm.Term.int (20 : Int32))) (Jvm.Term.static "SnowForts$Word" "NIGHT" "LSnowForts$Word;"))) (by decide +kernel)) e20
    | 21, _ => rw [d21]; exact va_eqv (st_fl hg 49 (w := (Jvm.Cond.eq (Jvm.Term.elem (Jvm.Term.static "SnowForts$Word" "ALL" "[LSnowForts$Word;") (Jvm.Term.int (21 : Int32))) (Jvm.Term.static "SnowForts$Word" "FROM" "LSnowForts$Word;"))) (by decide +kernel)) e21
    | 22, _ => rw [d22]; exact va_eqv (st_fl hg 50 (w := (Jvm.Cond.eq (Jvm.Term.elem (Jvm.Term.static "SnowForts$Word" "ALL" "[LSnowForts$Word;") (Jvm.Term.int (22 : Int32))) (Jvm.Term.static "SnowForts$Word" "WHEN" "LSnowForts$Word;"))) (by decide +kernel)) e22
    | 23, _ => rw [d23]; exact va_eqv (st_fl hg 51 (w := (Jvm.Cond.eq (Jvm.Term.elem (Jvm.Term.static "SnowForts$Word" "ALL" "[LSnowForts$Word;") (Jvm.Term.int (23 : Int32))) (Jvm.Term.static "SnowForts$Word" "DAY" "LSnowForts$Word;"))) (by decide +kernel)) e23
    | 24, _ => rw [d24]; exact va_eqv (st_fl hg 52 (w := (Jvm.Cond.eq (Jvm.Term.elem (Jvm.Term.static "SnowForts$Word" "ALL" "[LSnowForts$Word;") (Jvm.Term.int (24 : Int32))) (Jvm.Term.static "SnowForts$Word" "BREACH" "LSnowForts$Word;"))) (by decide +kernel)) e24
    | 25, _ => rw [d25]; exact va_eqv (st_fl hg 53 (w := (Jvm.Cond.eq (Jvm.Term.elem (Jvm.Term.static "SnowForts$Word" "ALL" "[LSnowForts$Word;") (Jvm.Term.int (25 : Int32))) (Jvm.Term.static "SnowForts$Word" "WAY" "LSnowForts$Word;"))) (by decide +kernel)) e25
    | 26, _ => rw [d26]; exact va_eqv (st_fl hg 54 (w := (Jvm.Cond.eq (Jvm.Term.elem (Jvm.Term.static "SnowForts$Word" "ALL" "[LSnowForts$Word;") (Jvm.Term.int (26 : Int32))) (Jvm.Term.static "SnowForts$Word" "LOOP" "LSnowForts$Word;"))) (by decide +kernel)) e26
    | 27, _ => rw [d27]; exact va_eqv (st_fl hg 55 (w := (Jvm.Cond.eq (Jvm.Term.elem (Jvm.Term.static "SnowForts$Word" "ALL" "[LSnowForts$Word;") (Jvm.Term.int (27 : Int32))) (Jvm.Term.static "SnowForts$Word" "END" "LSnowForts$Word;"))) (by decide +kernel)) e27
    | 28, _ => rw [d28]; exact va_eqv (st_fl hg 56 (w := (Jvm.Cond.eq (Jvm.Term.elem (Jvm.Term.static "SnowForts$Word" "ALL" "[LSnowForts$Word;") (Jvm.Term.int (28 : Int32))) (Jvm.Term.static "SnowForts$Word" "STOP" "LSnowForts$Word;"))) (by decide +kernel)) e28
    | j + 29, hj => omega) hA
  have ZA := va_Zref (hts _ (tix_4 124 rfl)) (hts _ (tix_1 19 rfl)) eA hA
  have hw : ∀ i, i < 29 → va_Z "SnowForts$Word" (wdN i) "LSnowForts$Word;" (.ref (ad i)) (fun q : Nat => s.heap.size ≤ q) s s.heap ∧ va_O "SnowForts$Word" (ad i) (fun q : Nat => s.heap.size ≤ q) s s.heap := by
    intro i hi
    match i, hi with
    | 0, _ => rw [d0]; exact ⟨z0, o0⟩
    | 1, _ => rw [d1]; exact ⟨z1, o1⟩
    | 2, _ => rw [d2]; exact ⟨z2, o2⟩
    | 3, _ => rw [d3]; exact ⟨z3, o3⟩
    | 4, _ => rw [d4]; exact ⟨z4, o4⟩
    | 5, _ => rw [d5]; exact ⟨z5, o5⟩
    | 6, _ => rw [d6]; exact ⟨z6, o6⟩
    | 7, _ => rw [d7]; exact ⟨z7, o7⟩
    | 8, _ => rw [d8]; exact ⟨z8, o8⟩
    | 9, _ => rw [d9]; exact ⟨z9, o9⟩
    | 10, _ => rw [d10]; exact ⟨z10, o10⟩
    | 11, _ => rw [d11]; exact ⟨z11, o11⟩
    | 12, _ => rw [d12]; exact ⟨z12, o12⟩
    | 13, _ => rw [d13]; exact ⟨z13, o13⟩
    | 14, _ => rw [d14]; exact ⟨z14, o14⟩
    | 15, _ => rw [d15]; exact ⟨z15, o15⟩
    | 16, _ => rw [d16]; exact ⟨z16, o16⟩
    | 17, _ => rw [d17]; exact ⟨z17, o17⟩
    | 18, _ => rw [d18]; exact ⟨z18, o18⟩
    | 19, _ => rw [d19]; exact ⟨z19, o19⟩
    | 20, _ => rw [d20]; exact ⟨z20, o20⟩
    | 21, _ => rw [d21]; exact ⟨z21, o21⟩
    | 22, _ => rw [d22]; exact ⟨z22, o22⟩
    | 23, _ => rw [d23]; exact ⟨z23, o23⟩
    | 24, _ => rw [d24]; exact ⟨z24, o24⟩
    | 25, _ => rw [d25]; exact ⟨z25, o25⟩
    | 26, _ => rw [d26]; exact ⟨z26, o26⟩
    | 27, _ => rw [d27]; exact ⟨z27, o27⟩
    | 28, _ => rw [d28]; exact ⟨z28, o28⟩
    | i + 29, hi => omega
  have hf := va_Efof (N := 29) (E := "SnowForts$Word") (d0 := "LSnowForts$Word;") (o := "SnowForts$Word") (n := "letters") (d := "J") (nm := ["WIDE", "HIGH", "SCHOOL", "HANDS", "SNOW", "DEEP", "WALL", "TALL", "SUN", "BY", "NO", "ABOVE", "BUILD", "BEHIND", "STEAL", "ICE", "FALL", "THAW", "STORM", "TO", "NIGHT", "FROM", "WHEN", "DAY", "BREACH", "WAY", "LOOP", "END", "STOP"]) (v := fun i => .long (([459383, 164222, 274392372, 4281544, 384611, 82528, 453774, 394725, 14432, 79, 393, 582341, 1483114, 31519426, 10494723, 6647, 119163, 399542, 10502473, 555, 7622660, 131638, 458690, 2968, 38362985, 16819, 247552, 4027, 388978] : List Int64).getD i 0)) (tm := fun i => .long (([459383, 164222, 274392372, 4281544, 384611, 82528, 453774, 394725, 14432, 79, 393, 582341, 1483114, 31519426, 10494723, 6647, 119163, 399542, 10502473, 555, 7622660, 131638, 458690, 2968, 38362985, 16819, 247552, 4027, 388978] : List Int64).getD i 0)) (ad := ad) (A := fun q : Nat => s.heap.size ≤ q) (s := s) (args := args) (fun i hi => by
    match i, hi with
    | 0, _ => rw [d0]; exact e0
    | 1, _ => rw [d1]; exact e1
    | 2, _ => rw [d2]; exact e2
    | 3, _ => rw [d3]; exact e3
    | 4, _ => rw [d4]; exact e4
    | 5, _ => rw [d5]; exact e5
    | 6, _ => rw [d6]; exact e6
    | 7, _ => rw [d7]; exact e7
    | 8, _ => rw [d8]; exact e8
    | 9, _ => rw [d9]; exact e9
    | 10, _ => rw [d10]; exact e10
    | 11, _ => rw [d11]; exact e11
    | 12, _ => rw [d12]; exact e12
    | 13, _ => rw [d13]; exact e13
    | 14, _ => rw [d14]; exact e14
    | 15, _ => rw [d15]; exact e15
    | 16, _ => rw [d16]; exact e16
    | 17, _ => rw [d17]; exact e17
    | 18, _ => rw [d18]; exact e18
    | 19, _ => rw [d19]; exact e19
    | 20, _ => rw [d20]; exact e20
    | 21, _ => rw [d21]; exact e21
    | 22, _ => rw [d22]; exact e22
    | 23, _ => rw [d23]; exact e23
    | 24, _ => rw [d24]; exact e24
    | 25, _ => rw [d25]; exact e25
    | 26, _ => rw [d26]; exact e26
    | 27, _ => rw [d27]; exact e27
    | 28, _ => rw [d28]; exact e28
    | i + 29, hi => omega) (fun i hi => by
    match i, hi with
    | 0, _ => exact (st_fl hg 59 (w := (Jvm.Cond.eq (Jvm.Term.field (Jvm.Term.static "SnowForts$Word" "WIDE" "LSnowForts$Word;") "SnowForts$Word" "letters" "J") (Jvm.Term.long (459383 : Int64)))) (by decide +kernel))
    | 1, _ => exact (st_fl hg 62 (w := (Jvm.Cond.eq (Jvm.Term.field (Jvm.Term.static "SnowForts$Word" "HIGH" "LSnowForts$Word;") "SnowForts$Word" "letters" "J") (Jvm.Term.long (164222 : Int64)))) (by decide +kernel))
    | 2, _ => exact (st_fl hg 65 (w := (Jvm.Cond.eq (Jvm.Term.field (Jvm.Term.static "SnowForts$Word" "SCHOOL" "LSnowForts$Word;") "SnowForts$Word" "letters" "J") (Jvm.Term.long (274392372 : Int64)))) (by decide +kernel))
    | 3, _ => exact (st_fl hg 68 (w := (Jvm.Cond.eq (Jvm.Term.field (Jvm.Term.static "SnowForts$Word" "HANDS" "LSnowForts$Word;") "SnowForts$Word" "letters" "J") (Jvm.Term.long (4281544 : Int64)))) (by decide +kernel))
    | 4, _ => exact (st_fl hg 71 (w := (Jvm.Cond.eq (Jvm.Term.field (Jvm.Term.static "SnowForts$Word" "SNOW" "LSnowForts$Word;") "SnowForts$Word" "letters" "J") (Jvm.Term.long (384611 : Int64)))) (by decide +kernel))
    | 5, _ => exact (st_fl hg 74 (w := (Jvm.Cond.eq (Jvm.Term.field (Jvm.Term.static "SnowForts$Word" "DEEP" "LSnowForts$Word;") "SnowForts$Word" "letters" "J") (Jvm.Term.long (82528 : Int64)))) (by decide +kernel))
    | 6, _ => exact (st_fl hg 77 (w := (Jvm.Cond.eq (Jvm.Term.field (Jvm.Term.static "SnowForts$Word" "WALL" "LSnowForts$Word;") "SnowForts$Word" "letters" "J") (Jvm.Term.long (453774 : Int64)))) (by decide +kernel))
    | 7, _ => exact (st_fl hg 80 (w := (Jvm.Cond.eq (Jvm.Term.field (Jvm.Term.static "SnowForts$Word" "TALL" "LSnowForts$Word;") "SnowForts$Word" "letters" "J") (Jvm.Term.long (394725 : Int64)))) (by decide +kernel))
    | 8, _ => exact (st_fl hg 83 (w := (Jvm.Cond.eq (Jvm.Term.field (Jvm.Term.static "SnowForts$Word" "SUN" "LSnowForts$Word;") "SnowForts$Word" "letters" "J") (Jvm.Term.long (14432 : Int64)))) (by decide +kernel))
    | 9, _ => exact (st_fl hg 86 (w := (Jvm.Cond.eq (Jvm.Term.field (Jvm.Term.static "SnowForts$Word" "BY" "LSnowForts$Word;") "SnowForts$Word" "letters" "J") (Jvm.Term.long (79 : Int64)))) (by decide +kernel))
    | 10, _ => exact (st_fl hg 89 (w := (Jvm.Cond.eq (Jvm.Term.field (Jvm.Term.static "SnowForts$Word" "NO" "LSnowForts$Word;") "SnowForts$Word" "letters" "J") (Jvm.Term.long (393 : Int64)))) (by decide +kernel))
    | 11, _ => exact (st_fl hg 92 (w := (Jvm.Cond.eq (Jvm.Term.field (Jvm.Term.static "SnowForts$Word" "ABOVE" "LSnowForts$Word;") "SnowForts$Word" "letters" "J") (Jvm.Term.long (582341 : Int64)))) (by decide +kernel))
    | 12, _ => exact (st_fl hg 95 (w := (Jvm.Cond.eq (Jvm.Term.field (Jvm.Term.static "SnowForts$Word" "BUILD" "LSnowForts$Word;") "SnowForts$Word" "letters" "J") (Jvm.Term.long (1483114 : Int64)))) (by decide +kernel))
    | 13, _ => exact (st_fl hg 98 (w := (Jvm.Cond.eq (Jvm.Term.field (Jvm.Term.static "SnowForts$Word" "BEHIND" "LSnowForts$Word;") "SnowForts$Word" "letters" "J") (Jvm.Term.long (31519426 : Int64)))) (by decide +kernel))
    | 14, _ => exact (st_fl hg 104 (w := (Jvm.Cond.eq (Jvm.Term.field (Jvm.Term.static "SnowForts$Word" "STEAL" "LSnowForts$Word;") "SnowForts$Word" "letters" "J") (Jvm.Term.long (10494723 : Int64)))) (by decide +kernel))
    | 15, _ => exact (st_fl hg 101 (w := (Jvm.Cond.eq (Jvm.Term.field (Jvm.Term.static "SnowForts$Word" "ICE" "LSnowForts$Word;") "SnowForts$Word" "letters" "J") (Jvm.Term.long (6647 : Int64)))) (by decide +kernel))
    | 16, _ => exact (st_fl hg 110 (w := (Jvm.Cond.eq (Jvm.Term.field (Jvm.Term.static "SnowForts$Word" "FALL" "LSnowForts$Word;") "SnowForts$Word" "letters" "J") (Jvm.Term.long (119163 : Int64)))) (by decide +kernel))
    | 17, _ => exact (st_fl hg 113 (w := (Jvm.Cond.eq (Jvm.Term.field (Jvm.Term.static "SnowForts$Word" "THAW" "LSnowForts$Word;") "SnowForts$Word" "letters" "J") (Jvm.Term.long (399542 : Int64)))) (by decide +kernel))
    | 18, _ => exact (st_fl hg 116 (w := (Jvm.Cond.eq (Jvm.Term.field (Jvm.Term.static "SnowForts$Word" "STORM" "LSnowForts$Word;") "SnowForts$Word" "letters" "J") (Jvm.Term.long (10502473 : Int64)))) (by decide +kernel))
    | 19, _ => exact (st_fl hg 140 (w := (Jvm.Cond.eq (Jvm.Term.field (Jvm.Term.static "SnowForts$Word" "TO" "LSnowForts$Word;") "SnowForts$Word" "letters" "J") (Jvm.Term.long (555 : Int64)))) (by decide +kernel))
    | 20, _ => exact (st_fl hg 119 (w := (Jvm.Cond.eq (Jvm.Term.field (Jvm.Term.static "SnowForts$Word" "NIGHT" "LSnowForts$Word;") "SnowForts$Word" "letters" "J") (Jvm.Term.long (7622660 : Int64)))) (by decide +kernel))
    | 21, _ => exact (st_fl hg 143 (w := (Jvm.Cond.eq (Jvm.Term.field (Jvm.Term.static "SnowForts$Word" "FROM" "LSnowForts$Word;") "SnowForts$Word" "letters" "J") (Jvm.Term.long (131638 : Int64)))) (by decide +kernel))
    | 22, _ => exact (st_fl hg 122 (w := (Jvm.Cond.eq (Jvm.Term.field (Jvm.Term.static "SnowForts$Word" "WHEN" "LSnowForts$Word;") "SnowForts$Word" "letters" "J") (Jvm.Term.long (458690 : Int64)))) (by decide +kernel))
    | 23, _ => exact (st_fl hg 134 (w := (Jvm.Cond.eq (Jvm.Term.field (Jvm.Term.static "SnowForts$Word" "DAY" "LSnowForts$Word;") "SnowForts$Word" "letters" "J") (Jvm.Term.long (2968 : Int64)))) (by decide +kernel))
    | 24, _ => exact (st_fl hg 131 (w := (Jvm.Cond.eq (Jvm.Term.field (Jvm.Term.static "SnowForts$Word" "BREACH" "LSnowForts$Word;") "SnowForts$Word" "letters" "J") (Jvm.Term.long (38362985 : Int64)))) (by decide +kernel))
    | 25, _ => exact (st_fl hg 137 (w := (Jvm.Cond.eq (Jvm.Term.field (Jvm.Term.static "SnowForts$Word" "WAY" "LSnowForts$Word;") "SnowForts$Word" "letters" "J") (Jvm.Term.long (16819 : Int64)))) (by decide +kernel))
    | 26, _ => exact (st_fl hg 125 (w := (Jvm.Cond.eq (Jvm.Term.field (Jvm.Term.static "SnowForts$Word" "LOOP" "LSnowForts$Word;") "SnowForts$Word" "letters" "J") (Jvm.Term.long (247552 : Int64)))) (by decide +kernel))
    | 27, _ => exact (st_fl hg 107 (w := (Jvm.Cond.eq (Jvm.Term.field (Jvm.Term.static "SnowForts$Word" "END" "LSnowForts$Word;") "SnowForts$Word" "letters" "J") (Jvm.Term.long (4027 : Int64)))) (by decide +kernel))
    | 28, _ => exact (st_fl hg 128 (w := (Jvm.Cond.eq (Jvm.Term.field (Jvm.Term.static "SnowForts$Word" "STOP" "LSnowForts$Word;") "SnowForts$Word" "letters" "J") (Jvm.Term.long (388978 : Int64)))) (by decide +kernel))
    | i + 29, hi => omega) (fun _ _ => rfl) hA
  have ZC := va_Zof (hts _ (tix_3 236 rfl)) (hts _ (tix_1 12 rfl)) (va_eqv (u := .int 1) (st_fl hg 18 (w := (Jvm.Cond.eq (Jvm.Term.static "java/lang/String" "COMPACT_STRINGS" "Z") (Jvm.Term.int (1 : Int32)))) (by decide +kernel)) rfl) hA
  have ZS := va_Zqof (hts _ (tix_4 12 rfl)) (hts _ (tix_1 14 rfl)) (st_fl hg 19 (w := (Jvm.Cond.isRef (Jvm.Term.static "jdk/internal/util/Preconditions" "SIOOBE_FORMATTER" "Ljava/util/function/BiFunction;"))) (by decide +kernel)) hA
  have hlit : ∀ i, i < 15 → va_O "java/lang/String" (ad (110 + i)) (fun q : Nat => s.heap.size ≤ q) s s.heap ∧ va_OF "java/lang/String" "coder" "B" (.int 0) (ad (110 + i)) (fun q : Nat => s.heap.size ≤ q) s s.heap ∧ va_OF "java/lang/String" "value" "[B" (.ref (ad (130 + i))) (ad (110 + i)) (fun q : Nat => s.heap.size ≤ q) s s.heap ∧ va_T .byte (ad (130 + i)) (jsL.getD i 0) (fun j => .int ((jsB.getD i []).getD j 0)) (fun q : Nat => s.heap.size ≤ q) s s.heap := by
    intro i hi
    match i, hi with
    | 0, _ => rw [show ad (110 + 0) = k0 from dk0, show ad (130 + 0) = v0 from dv0]; exact ⟨la0, lb0, lc0, ld0⟩
    | 1, _ => rw [show ad (110 + 1) = k1 from dk1, show ad (130 + 1) = v1 from dv1]; exact ⟨la1, lb1, lc1, ld1⟩
    | 2, _ => rw [show ad (110 + 2) = k2 from dk2, show ad (130 + 2) = v2 from dv2]; exact ⟨la2, lb2, lc2, ld2⟩
    | 3, _ => rw [show ad (110 + 3) = k3 from dk3, show ad (130 + 3) = v3 from dv3]; exact ⟨la3, lb3, lc3, ld3⟩
    | 4, _ => rw [show ad (110 + 4) = k4 from dk4, show ad (130 + 4) = v4 from dv4]; exact ⟨la4, lb4, lc4, ld4⟩
    | 5, _ => rw [show ad (110 + 5) = k5 from dk5, show ad (130 + 5) = v5 from dv5]; exact ⟨la5, lb5, lc5, ld5⟩
    | 6, _ => rw [show ad (110 + 6) = k6 from dk6, show ad (130 + 6) = v6 from dv6]; exact ⟨la6, lb6, lc6, ld6⟩
    | 7, _ => rw [show ad (110 + 7) = k7 from dk7, show ad (130 + 7) = v7 from dv7]; exact ⟨la7, lb7, lc7, ld7⟩
    | 8, _ => rw [show ad (110 + 8) = k8 from dk8, show ad (130 + 8) = v8 from dv8]; exact ⟨la8, lb8, lc8, ld8⟩
    | 9, _ => rw [show ad (110 + 9) = k9 from dk9, show ad (130 + 9) = v9 from dv9]; exact ⟨la9, lb9, lc9, ld9⟩
    | 10, _ => rw [show ad (110 + 10) = k10 from dk10, show ad (130 + 10) = v10 from dv10]; exact ⟨la10, lb10, lc10, ld10⟩
    | 11, _ => rw [show ad (110 + 11) = k11 from dk11, show ad (130 + 11) = v11 from dv11]; exact ⟨la11, lb11, lc11, ld11⟩
    | 12, _ => rw [show ad (110 + 12) = k12 from dk12, show ad (130 + 12) = v12 from dv12]; exact ⟨la12, lb12, lc12, ld12⟩
    | 13, _ => rw [show ad (110 + 13) = k13 from dk13, show ad (130 + 13) = v13 from dv13]; exact ⟨la13, lb13, lc13, ld13⟩
    | 14, _ => rw [show ad (110 + 14) = k14 from dk14, show ad (130 + 14) = v14 from dv14]; exact ⟨la14, lb14, lc14, ld14⟩
    | i + 15, hi => omega
  have hrs : ∀ i, i < 15 → vk_R "SnowFortsLaw" (jsI i) (jsT i) (ad (110 + i)) s := by
    intro i hi
    match i, hi with
    | 0, _ => rw [show ad (110 + 0) = k0 from dk0]; exact vk_R.of (st_rs_0 hts) lq0
    | 1, _ => rw [show ad (110 + 1) = k1 from dk1]; exact vk_R.of (st_rs_1 hts) lq1
    | 2, _ => rw [show ad (110 + 2) = k2 from dk2]; exact vk_R.of (st_rs_2 hts) lq2
    | 3, _ => rw [show ad (110 + 3) = k3 from dk3]; exact vk_R.of (st_rs_3 hts) lq3
    | 4, _ => rw [show ad (110 + 4) = k4 from dk4]; exact vk_R.of (st_rs_4 hts) lq4
    | 5, _ => rw [show ad (110 + 5) = k5 from dk5]; exact vk_R.of (st_rs_5 hts) lq5
    | 6, _ => rw [show ad (110 + 6) = k6 from dk6]; exact vk_R.of (st_rs_6 hts) lq6
    | 7, _ => rw [show ad (110 + 7) = k7 from dk7]; exact vk_R.of (st_rs_7 hts) lq7
    | 8, _ => rw [show ad (110 + 8) = k8 from dk8]; exact vk_R.of (st_rs_8 hts) lq8
    | 9, _ => rw [show ad (110 + 9) = k9 from dk9]; exact vk_R.of (st_rs_9 hts) lq9
    | 10, _ => rw [show ad (110 + 10) = k10 from dk10]; exact vk_R.of (st_rs_10 hts) lq10
    | 11, _ => rw [show ad (110 + 11) = k11 from dk11]; exact vk_R.of (st_rs_11 hts) lq11
    | 12, _ => rw [show ad (110 + 12) = k12 from dk12]; exact vk_R.of (st_rs_12 hts) lq12
    | 13, _ => rw [show ad (110 + 13) = k13 from dk13]; exact vk_R.of (st_rs_13 hts) lq13
    | 14, _ => rw [show ad (110 + 14) = k14 from dk14]; exact vk_R.of (st_rs_14 hts) lq14
    | i + 15, hi => omega
  obtain ⟨scr, x1, x2, x3, x4, x5⟩ := hX
  have hTX : va_T .int b L (fun j => .int (xs j)) (fun q : Nat => s.heap.size ≤ q) s s.heap := ⟨scr, x1, x2, x3, Nat.le_of_eq x4.symm, by rw [x4], x5, hA b hbl⟩
  have hlt : ∀ i, i < 29 → ad i < s.heap.size := fun i hi => by
    obtain ⟨cell, h1, -⟩ := (hw i hi).2
    exact (Array.getElem?_eq_some_iff.mp h1).1
  obtain ⟨X, hX1, hX2, hXa⟩ : ∃ X : xW, X.1 = X0.1 ∧ (∀ t, t < 100 → X.2 t = X0.2 t) ∧ ∀ i, X.2 (100 + i) = ad i := ⟨(X0.1, fun t => if t < 100 then X0.2 t else ad (t - 100)), rfl, fun t ht => if_pos ht, fun i => by
    show (if 100 + i < 100 then X0.2 (100 + i) else ad (100 + i - 100)) = ad i
    rw [if_neg (by omega), Nat.add_sub_cancel_left]⟩
  have hwd : wad X = ad := funext fun i => hXa i
  have hsa : sad X = b := (hXa 100).trans dB
  have hsl : sln X = L := (hXa 101).trans dL
  have hsk : ∀ i, skd X i = ad (110 + i) := fun i => by
    unfold skd
    rw [show 210 + i = 100 + (110 + i) by omega, hXa]
  have hsv : ∀ i, svd X i = ad (130 + i) := fun i => by
    unfold svd
    rw [show 230 + i = 100 + (130 + i) by omega, hXa]
  have hse : sel X = xs := funext fun j => by
    unfold sel
    rw [show 300 + j = 100 + (200 + j) by omega, hXa, dX, st_xi]
  refine ⟨X, fun q => if s.heap.size ≤ q then some 13 else if (List.range 29).any (fun i => ad i == q) then some 12 else none, hX1, hX2, hsa, hsl, ?_⟩
  have hk : ∀ x k, (if s.heap.size ≤ x then some 13 else if (List.range 29).any (fun i => ad i == x) then some 12 else none) = some k → (k = 13 ∧ s.heap.size ≤ x) ∨ (k = 12 ∧ ∃ i, i < 29 ∧ x = ad i) := fun x k h => by
    split at h
    · rename_i h1
      cases h
      exact Or.inl ⟨rfl, h1⟩
    · split at h
      · rename_i h2
        cases h
        obtain ⟨i, i1, i2⟩ := List.any_eq_true.mp h2
        exact Or.inr ⟨rfl, i, List.mem_range.mp i1, ((by simpa using i2 : ad i = x).symm)⟩
      · cases h
  have hAe : AΓ (fun q => if s.heap.size ≤ q then some 13 else if (List.range 29).any (fun i => ad i == q) then some 12 else none) = fun q : Nat => s.heap.size ≤ q := funext fun q => propext ⟨fun ⟨r, h1, h2⟩ => by
    rcases hk q r h1 with ⟨-, h⟩ | ⟨h, -⟩
    · exact h
    · exact absurd h h2, fun h => ⟨13, if_pos h, by decide⟩⟩
  have h12 : ∀ i, i < 29 → (if s.heap.size ≤ ad i then some 13 else if (List.range 29).any (fun j => ad j == ad i) then some 12 else none) = some 12 := fun i hi => by
    rw [if_neg (Nat.not_le.mpr (hlt i hi)), if_pos (List.any_eq_true.mpr ⟨i, List.mem_range.mpr hi, by simp⟩)]
  refine ⟨⟨tR, tD, tA, ?_⟩, ⟨fun q hq => if_pos hq, fun q => by rw [hAe]⟩, fun x k h => ?_⟩
  · rw [hAe, hwd]
    refine ⟨ZR, TR, ZD, TD, fun i hi => ⟨(hw i hi).1, h12 i hi⟩, ZA, TA, fun a ha => ?_, hf, ⟨by rw [hsa, hsl, hse]; exact hTX, fun i hi => by rw [hsk, hsv]; exact hlit i hi, ZC, ZS⟩, fun i hi => by rw [hsk]; exact hrs i hi⟩
    rcases hk a 12 ha with ⟨h, -⟩ | ⟨-, i, hi, e⟩
    · cases h
    · exact ⟨e ▸ (hw i hi).2, i, hi, e⟩
  · rcases hk x k h with ⟨h, -⟩ | ⟨h, -⟩
    · exact Or.inr h
    · exact Or.inl h
theorem no_RL_18 : NO "SnowFortsLaw" 18 200 10 18 [.int, (.array (.object "SnowForts$Tray")), (.object "SnowForts$Reader"), (.object "SnowForts$YardText"), (.object "SnowForts$OrdersText"), (.object "SnowForts$Yard"), (.object "SnowForts$Yard"), (.object "SnowForts$Orders"), (.object "SnowForts$Orders"), (.array (.object "SnowForts$Yard")), (.array (.object "SnowForts$Orders")), .int, (.object "SnowForts$Walk"), (.object "SnowForts$Mornings"), (.object "SnowForts$Odds"), (.array .boolean), (.object "SnowForts$Runner"), (.object "SnowForts$Runner")] := ⟨_, _, _, rfl, rfl, by decide +kernel, rfl, rfl, by decide +kernel, wsin_X11, w_21, w_22, w_1, by decide, by decide⟩
theorem cn_RL_91 : Cond.methodLink "SnowFortsLaw" 91 yX11_init ∈ GW ∧ Cond.instanceMethod yX11_init ∈ GW := ⟨w_23, w_24⟩
theorem st_nest {s : State} {args : Array Value} (hts : ∀ w ∈ lw_tbl, w.before args s = true) : ∀ q ∈ nwL, va_Nw (.methodLinkNest q.1 q.2.1 q.2.2.1 q.2.2.2) s := by
  refine List.forall_mem_cons.mpr ⟨va_Nw.of rfl (hts _ (tix_1 32 rfl)), List.forall_mem_cons.mpr ⟨va_Nw.of rfl (hts _ (tix_1 48 rfl)), List.forall_mem_cons.mpr ⟨va_Nw.of rfl (hts _ (tix_1 163 rfl)), List.forall_mem_cons.mpr ⟨va_Nw.of rfl (hts _ (tix_2 0 rfl)), List.forall_mem_cons.mpr ⟨va_Nw.of rfl (hts _ (tix_2 46 rfl)), List.forall_mem_cons.mpr ⟨va_Nw.of rfl (hts _ (tix_2 79 rfl)), List.forall_mem_cons.mpr ⟨va_Nw.of rfl (hts _ (tix_2 94 rfl)), List.forall_mem_cons.mpr ⟨va_Nw.of rfl (hts _ (tix_2 111 rfl)), List.forall_mem_cons.mpr ⟨va_Nw.of rfl (hts _ (tix_3 203 rfl)), List.forall_mem_cons.mpr ⟨va_Nw.of rfl (hts _ (tix_4 151 rfl)), List.forall_mem_cons.mpr ⟨va_Nw.of rfl (hts _ (tix_4 173 rfl)), List.forall_mem_cons.mpr ⟨va_Nw.of rfl (hts _ (tix_5 3 rfl)), fun _ h => absurd h List.not_mem_nil⟩⟩⟩⟩⟩⟩⟩⟩⟩⟩⟩⟩
set_option maxRecDepth 100000 in
set_option maxHeartbeats 8000000 in
theorem dfB_ite {c : Prop} [Decidable c] {a b : xT} {ty : FieldType} (ha : dfB a ty = true) (hb : dfB b ty = true) : dfB (if c then a else b) ty = true := by split <;> assumption
theorem z_arr {H : Heap} {q N j : Nat} {cA : ClassId} (h : H[q]? = some (arrV cA N (fun _ => defaultValue .int))) (hj : j < N) : sI H q j = 0 := sI_z (v := .int 0) (by
  unfold sv
  rw [h, Option.bind_some, arrV_read _ _ hj]
  rfl) rfl
theorem sR_v {H : Heap} {a j q w : Nat} (h : sv H a j = some (.ref q)) (e : sR H a j = some w) : w = q := by
  unfold sR at e
  rw [h] at e
  exact (Option.some.inj e).symm
theorem whole_start {p : Program} {e : Env} {s : State} {m : MethodId} {below : List Frame} {meth : Method} {c : Code} (l : Launch) (hflags : l.flags = flags0) {b L : Nat} {xs : Nat → Int32} (hL : L ≤ 260) (C0 : lw_At p s m meth c b L xs) : W p l e room_1 s m #[Value.ref b] below meth c s.heap [] 0 0 (lw_Z below #[Value.ref b] s) (entryFrame m ([Value.ref b] : List Value).toArray 15) := by
  obtain ⟨hx, hb, hr, hml, hown, hts, hX, hbl, hlocks, hgv⟩ := id C0
  have hG : ∀ w ∈ GW, w.before #[Value.ref b] s = true := fun w hw => hts w (List.mem_filter.mp hw).1
  obtain ⟨X0, hK0⟩ := st_X hG hts
  obtain ⟨X, Γ, hX1, hX2, hsa, hsl, hCst, hW, hkn⟩ := st_cst X0 hts hgv hX hbl
  have hK : va_K X.1 vwCl (xty X) s := by
    rw [hX1, show xty X = xty X0 from by unfold xty; rw [hX2 0 (by decide), hX2 1 (by decide), hX2 2 (by decide), hX2 3 (by decide), hX2 4 (by decide), hX2 5 (by decide), hX2 6 (by decide), hX2 7 (by decide)]]
    exact hK0
  have E : Ev p s m #[Value.ref b] meth c cL_law 15 "SnowFortsLaw" ret X Γ s.heap := ⟨hx, hb, hml, hown, hG, ⟨rfl, hK, st_ap hG hK, st_nest hts, hCst⟩, hlocks, hr⟩
  have hC : Conf X Γ s.heap := fun a r ha => by
    rcases hkn a r ha with rfl | rfl <;> trivial
  have hS : va_S (AΓ Γ) s.heap s.heap [] := va_S.rf
  have hAO : AO4 s := ⟨va_AO.of (hts _ (tix_1 30 rfl)), va_AO.of (hts _ (tix_1 53 rfl)), va_AO.of (hts _ (tix_2 42 rfl)), va_AO.of (hts _ (tix_2 43 rfl))⟩
  have v2 : NoK 2 Γ := fun x h => by
    rcases hkn x 2 h with h | h <;> omega
  have hl := lv_entry ([.ref b]) (n := 15) (Nat.le_of_ble_eq_true rfl)
  rw [lg_entry_eq]
  generalize (lg_sl ([.ref b]) ++ List.replicate (15 - (lg_sl ([.ref b])).length) Slot.unset).toArray = ls at hl ⊢
  have hl : lv_has ls 15 [(0, .ref b)] := hl
  have hl : lv_has ls 15 [(0, .ref (sad X))] := by rw [hsa]; exact hl
  refine q_newO E hC hS hW (Nat.le_refl _) no_RL_18 (by decide) (by decide) dL_law_0 (fun q1 H1 Γ1 zq zs ho hzz gq hL1 hK1 E hC hS hW => ?_)
  have hx := E.1; have hb := E.2.1
  have v2 := v2.al hK1 (by decide)
  refine lv_dup hx hb dL_law_3 rfl ?_
  refine q_goN (q_runI (As := []) (rest := [.ref q1]) E hAO hS (m_X11_init l X Γ1 H1 s.heap.size hC hW (by omega) q1 gq v2) cw_X11_init cn_RL_91 rfl rfl hl.1 rfl (show _ ≤ _ from by simp [Value.category]) (by decide) (by decide) (by decide) (by decide) dL_law_4) E hS hW.2 (fun H2 Γ2 locs2 zq2 g1 hl5 h12 hP hW E hC hS => ?_)
  have hx := E.1; have hb := E.2.1
  obtain ⟨-, -, ⟨ra, u2, fl⟩, ⟨wk0, hwk0, wz⟩⟩ := hP
  obtain ⟨wk, hwk, gwk⟩ := f_ref hC g1 (ci := 10) (kf := 12) rfl rfl
  have hwe := sR_v hwk0 hwk
  subst hwe
  have hra := nw_lt hW u2.1 (by decide); have hq1 := nw_lt hW g1 (by decide); have hwl := nw_lt hW gwk (by decide)
  refine lv_astore_n hx hb dL_law_7 rfl hl (by decide) rfl (fun ls hl => ?_)
  have hl : lv_has ls 15 [(1, .ref q1), (0, .ref (sad X))] := hl
  refine lv_bipush (v := 24) hx hb dL_law_8 rfl ?_
  refine q_newP E hC hS hW (by omega) (r := 90) (t := 1) (N := 24) (ty := .int) rfl rfl rfl rfl (fun _ _ h => h) (fun j => by show dfB (cF90 j) .int = true; unfold cF90; (repeat refine dfB_ite rfl ?_); rfl) w_119 (by decide) (by decide) (by decide) (by decide) (by decide) (by decide) dL_law_10 (fun q2 H3 Γ3 zq3 zs3 ho3 hc3 gq2 hL3 hK3 E hC hS hW => ?_)
  have hx := E.1; have hb := E.2.1
  have fl := (sI_al (j := X.1.2 4 1) ho3 hra).trans fl; have wz := (sI_al (j := X.1.2 7 4) ho3 hwl).trans wz; have g1 := hL3 _ _ (by decide) g1; have u2 := u2.al hL3 hK3 (by decide) (by decide); have gwk := hL3 _ _ (by decide) gwk
  have hwk : sR H3 q1 (X.1.2 10 12) = some wk := by rw [← hwk]; unfold sR sv; rw [ho3 q1 hq1]
  have hra := nw_lt hW u2.1 (by decide); have hq1 := nw_lt hW g1 (by decide); have hwl := nw_lt hW gwk (by decide); have hq2 := nw_lt hW gq2 (by decide)
  refine lv_astore_n hx hb dL_law_12 rfl hl (by decide) rfl (fun ls hl => ?_)
  have hl : lv_has ls 15 [(2, .ref q2), (1, .ref q1), (0, .ref (sad X))] := hl
  refine lv_bipush (v := 120) hx hb dL_law_13 rfl ?_
  refine q_newP E hC hS hW (by omega) (r := 91) (t := 1) (N := 120) (ty := .int) rfl rfl rfl rfl (fun _ _ h => h) (fun j => by show dfB (cF91 j) .int = true; unfold cF91; (repeat refine dfB_ite rfl ?_); rfl) w_119 (by decide) (by decide) (by decide) (by decide) (by decide) (by decide) dL_law_15 (fun q3 H4 Γ4 zq4 zs4 ho4 hc4 gq3 hL4 hK4 E hC hS hW => ?_)
  have hx := E.1; have hb := E.2.1
  have m20 : aI H4 q2 20 = 0 := congrArg Int32.toInt ((sI_al (j := (20 : Int).toNat) ho4 hq2).trans (z_arr (j := (20 : Int).toNat) hc3 (by decide)))
  have m21 : aI H4 q2 21 = 0 := congrArg Int32.toInt ((sI_al (j := (21 : Int).toNat) ho4 hq2).trans (z_arr (j := (21 : Int).toNat) hc3 (by decide)))
  have fl := (sI_al (j := X.1.2 4 1) ho4 hra).trans fl; have wz := (sI_al (j := X.1.2 7 4) ho4 hwl).trans wz; have g1 := hL4 _ _ (by decide) g1; have u2 := u2.al hL4 hK4 (by decide) (by decide); have gwk := hL4 _ _ (by decide) gwk; have gq2 := hL4 _ _ (by decide) gq2
  have hwk : sR H4 q1 (X.1.2 10 12) = some wk := by rw [← hwk]; unfold sR sv; rw [ho4 q1 hq1]
  refine lv_astore_n hx hb dL_law_17 rfl hl (by decide) rfl (fun ls hl => ?_)
  have hl : lv_has ls 15 [(3, .ref q3), (2, .ref q2), (1, .ref q1), (0, .ref (sad X))] := hl
  obtain ⟨tp, htp, gtp⟩ := f_ref hC u2.1 (ci := 4) (kf := 0) rfl rfl
  have hsl9 : sln X ≤ 260 := by rw [hsl]; exact hL
  have lt9 : LT X H4 ra tp q2 [] := ⟨0, 0, ⟨by decide, by decide, rfl, fun j a z => by omega, fun j a z => by omega⟩, by rw [fl]; rfl, by decide, by decide, m20, m21⟩
  refine sg_lay l E H4 hC _ hS q1 g1 q2 q3 gq2 gq3 hsl9 ra u2.1 u2.2 tp htp gtp lt9 hl (fun H5 locs5 y4 u4 ls hC5 hS5 hk5 ey4 d0 d1 d2 d3 hyd hl => ?_)
  obtain ⟨yd, sn, wl, su, lw, ic, kn, hd, us, br, ar, fi, y0, gyd, yn, y1, y2, y3, y4a, y5, y6, y7, us0, us1, br0, br1⟩ := hyd
  have hwk := (kp_R hk5 g1 (ci := 10) (k := 12) rfl (by decide) rfl).trans hwk
  have wz := congrArg Int32.toInt ((kp_I hk5 gwk (ci := 7) (k := 4) rfl (by decide) rfl).trans wz)
  obtain ⟨pa, hh, wt, wn⟩ := WN.of hC5 gwk
  refine sg_told l E H5 hC5 _ hS5 q1 g1 q2 q3 gq2 gq3 yd y0 gyd sn wl su lw ic kn hd us br ar fi yn y4 ey4 hl (fun H6 locs6 y6v u6 y5v u5 ls hC hS hk6 ey6 ey5 hu5 hu50 hu51 hu6 hl => ?_)
  have rs5 : RS9 X Γ4 H5 q1 q3 yd sn wl su lw ic kn hd us br ar fi wk pa hh wt (aI H5 q3 0) (aI H5 q3 1) (aI H5 q3 2) := ⟨y0, yn, hwk, wn, rfl, rfl, rfl, y1, y2, y3⟩
  have rm5 : RM9 X H5 yd 0 0 0 0 := ⟨y5, y6, y7, y4a⟩
  have rw5 : RW9 X H5 wk hh wt := Or.inl wz
  have uh5 : UHD H5 us hd := UHD.zero us0 us1 hC5 yn.hd.2
  have hb5 : aI H6 br 1 = 0 := (aI_kp hk6 yn.br.2 rfl rfl).trans br1
  refine rounds l E q1 g1 q2 q3 gq2 gq3 hsl9 yd gyd sn wl su lw ic kn hd us br ar fi wk gwk pa hh wt _ _ _ d0 ⟨d1, d2⟩ d3 y5v y4 u5 ey5 ⟨hu50, hu51⟩ (fun H locs ls hC hS => ?_) 6 H6 locs6 y6v 0 0 0 0 0 ls (by decide) (ey6.trans hu6) (by decide) (by decide) hC hS (rs5.kp hk6 g1 gq3 gyd gwk rfl rfl rfl rfl) (rm5.kp hk6 gyd rfl rfl rfl rfl) (rw5.kp hk6 gwk wn.hh.2 wn.wt.2 rfl rfl) (uh5.kp hk6 yn.us.2 yn.hd.2 rfl rfl) (fun _ => hb5) (by omega) (by omega) hl
  refine lv_iconst (v := 1) hx hb dL_law_884 rfl ?_
  exact va_forget (fun q hq => (hW.2 _).mp (hS.2.2 q hq)) (W.widen (by decide) (by decide) (lw_ret hx hb hr hlocks dL_law_885))

