-- p50: the JDK's own members over the literals; the script; calls and rows of numbers in the law's room
section JDK
variable {p : Program} {l : Launch} {e : Env} {R : Room} {s : State} {m : MethodId} {args : Array Value} {below : List Frame} {meth : Method} {c : Code} {H H0 H1 : Heap} {locs : List Loc} {Q : State → Prop}
variable {cc by1 : ByteArray} {pc mL kc ks lv mL1 lv1 n index ci : Nat} {own C : String} {ret ret1 : Option FieldType} {ls : Array Slot} {rest As st : List Value} {X : xW} {Γ : Nat → Option Nat} {y : MethodName} {b r : Nat}
theorem E_js (E : Ev p s m args meth c cc mL own ret X Γ H0) : Jst X (AΓ Γ) s H0 ∧ Jrs X s := by
  obtain ⟨-, -, -, -, -, ⟨-, -, -, -, tR, tD, tA, -, -, -, -, -, -, -, -, -, hj, hr⟩, -⟩ := E
  exact ⟨hj, hr⟩
theorem E_h (E : Ev p s m args meth c cc mL own ret X Γ H0) : s.heap = H0 := E.2.2.2.2.2.1.1
theorem slnI (h : sln X ≤ 260) : (Int32.ofNat (sln X)).toInt = ((sln X : Nat) : Int) := Int32.toInt_ofNat_of_lt (by omega)
theorem q_lenX (E : Ev p s m args meth c cc mL own ret X Γ H0) (hS : va_S (AΓ Γ) H0 H locs) (hdg : decode cc pc = .ok (.arraylength, 1))
    (kk : W p l e R s m args below meth c H locs kc ks Q (F0 m (pc + 1) ls (.int (Int32.ofNat (sln X)) :: rest))) : W p l e R s m args below meth c H locs kc ks Q (F0 m pc ls (.ref (sad X) :: rest)) := by
  have hj := (E_js E).1.1
  obtain rfl := E_h E
  exact va_tlen E.1 E.2.1 hj hS rfl hdg kk
theorem q_ldX (E : Ev p s m args meth c cc mL own ret X Γ H0) (hS : va_S (AΓ Γ) H0 H locs) {i : Int32} {a : Int} (ha : i.toInt = a) (h0 : 0 ≤ a) (h1 : a < ((sln X : Nat) : Int)) (hdg : decode cc pc = .ok (.iaload, 1))
    (kk : ∀ v : Int32, W p l e R s m args below meth c H locs kc ks Q (F0 m (pc + 1) ls (.int v :: rest))) : W p l e R s m args below meth c H locs kc ks Q (F0 m pc ls (.int i :: .ref (sad X) :: rest)) := by
  have hj := (E_js E).1.1
  obtain rfl := E_h E
  exact va_ti E.1 E.2.1 hj hS (i_in ha h0 h1) rfl hdg (kk _)
theorem q_ldcS (E : Ev p s m args meth c cc mL "SnowFortsLaw" ret X Γ H0) (hS : va_S (AΓ Γ) H0 H locs) {i : Nat} (hi : i < 15) {k : Nat} (hdg : decode cc pc = .ok (.ldc k, 2))
    (kk : W p l e R s m args below meth c H locs kc ks Q (F0 m (pc + 2) ls (.ref (skd X i) :: rest))) (hk : jsI i = k := by rfl) : W p l e R s m args below meth c H locs kc ks Q (F0 m pc ls rest) := by
  subst hk
  exact va_ldcS E.1 E.2.1 E.2.2.2.1 ((E_js E).2 i hi) hdg kk
theorem q_cstr (E : Ev p s m args meth c cc mL own ret X Γ H0) (hS : va_S (AΓ Γ) H0 H locs) (hl : Cond.fieldLink own index "java/lang/String" "COMPACT_STRINGS" "Z" ∈ GW) (hdg : decode cc pc = .ok (.getstatic index, 3))
    (kk : W p l e R s m args below meth c H locs kc ks Q (F0 m (pc + 3) ls (.int 1 :: rest))) : W p l e R s m args below meth c H locs kc ks Q (F0 m pc ls rest) := by
  have hj := (E_js E).1.2.2.1
  obtain rfl := E_h E
  exact va_gets E.1 E.2.1 hj hS E.2.2.2.1 (E.2.2.2.2.1 _ hl) (fun _ h => h) hdg kk
theorem q_siob (E : Ev p s m args meth c cc mL own ret X Γ H0) (hS : va_S (AΓ Γ) H0 H locs) (hl : Cond.fieldLink own index "jdk/internal/util/Preconditions" "SIOOBE_FORMATTER" "Ljava/util/function/BiFunction;" ∈ GW) (hdg : decode cc pc = .ok (.getstatic index, 3))
    (kk : ∀ o : Option Nat, W p l e R s m args below meth c H locs kc ks Q (F0 m (pc + 3) ls (va_rf o :: rest))) : W p l e R s m args below meth c H locs kc ks Q (F0 m pc ls rest) := by
  have hj := (E_js E).1.2.2.2
  obtain rfl := E_h E
  rcases hj with h | ⟨t, h⟩
  · exact va_gets E.1 E.2.1 h hS E.2.2.2.1 (E.2.2.2.2.1 _ hl) (fun _ h => h) hdg (kk none)
  · exact va_gets E.1 E.2.1 h hS E.2.2.2.1 (E.2.2.2.2.1 _ hl) (fun _ h => h) hdg (kk (some t))
theorem q_sval (E : Ev p s m args meth c cc mL own ret X Γ H0) (hS : va_S (AΓ Γ) H0 H locs) {i : Nat} (hi : i < 15) (hl : Cond.fieldLink own index "java/lang/String" "value" "[B" ∈ GW) (hdg : decode cc pc = .ok (.getfield index, 3))
    (kk : W p l e R s m args below meth c H locs kc ks Q (F0 m (pc + 3) ls (.ref (svd X i) :: rest))) : W p l e R s m args below meth c H locs kc ks Q (F0 m pc ls (.ref (skd X i) :: rest)) := by
  have hj := ((E_js E).1.2.1 i hi).2.2.1
  obtain rfl := E_h E
  exact vk_getf E.1 E.2.1 hj hS E.2.2.2.1 (E.2.2.2.2.1 _ hl) (fun _ h => h) hdg kk
theorem q_scod (E : Ev p s m args meth c cc mL own ret X Γ H0) (hS : va_S (AΓ Γ) H0 H locs) {i : Nat} (hi : i < 15) (hl : Cond.fieldLink own index "java/lang/String" "coder" "B" ∈ GW) (hdg : decode cc pc = .ok (.getfield index, 3))
    (kk : W p l e R s m args below meth c H locs kc ks Q (F0 m (pc + 3) ls (.int 0 :: rest))) : W p l e R s m args below meth c H locs kc ks Q (F0 m pc ls (.ref (skd X i) :: rest)) := by
  have hj := ((E_js E).1.2.1 i hi).2.1
  obtain rfl := E_h E
  exact vk_getf E.1 E.2.1 hj hS E.2.2.2.1 (E.2.2.2.2.1 _ hl) (fun _ h => h) hdg kk
theorem q_slen (E : Ev p s m args meth c cc mL own ret X Γ H0) (hS : va_S (AΓ Γ) H0 H locs) {i : Nat} (hi : i < 15) (hdg : decode cc pc = .ok (.arraylength, 1))
    (kk : W p l e R s m args below meth c H locs kc ks Q (F0 m (pc + 1) ls (.int (Int32.ofNat (jsL.getD i 0)) :: rest))) : W p l e R s m args below meth c H locs kc ks Q (F0 m pc ls (.ref (svd X i) :: rest)) := by
  have hj := ((E_js E).1.2.1 i hi).2.2.2
  obtain rfl := E_h E
  exact va_tlen E.1 E.2.1 hj hS rfl hdg kk
theorem q_sbyt (E : Ev p s m args meth c cc mL own ret X Γ H0) (hS : va_S (AΓ Γ) H0 H locs) {i : Nat} (hi : i < 15) {k : Int32} {a : Int} (ha : k.toInt = a) (h0 : 0 ≤ a) (h1 : a < ((jsL.getD i 0 : Nat) : Int)) (hdg : decode cc pc = .ok (.baload, 1))
    (kk : W p l e R s m args below meth c H locs kc ks Q (F0 m (pc + 1) ls (.int ((jsB.getD i []).getD a.toNat 0) :: rest))) : W p l e R s m args below meth c H locs kc ks Q (F0 m pc ls (.int k :: .ref (svd X i) :: rest)) := by
  have hj := ((E_js E).1.2.1 i hi).2.2.2
  obtain rfl := E_h E
  exact va_tb E.1 E.2.1 hj hS (i_in ha h0 h1) (by rw [i_ix ha]) hdg kk
theorem q_runVS {Qc : Array Value → State → Outcome → State → Prop} (E : Ev p s m args meth c cc mL own ret X Γ H0) (hS : va_S (AΓ Γ) H0 H locs) {i : Nat} (hi : i < 15) (hM : Ctr l X Γ y by1 mL1 ret1 lv1 (.ref (skd X i) :: As) H Qc) (hw : CWB y by1 mL1 ret1 n) (hl : Cond.methodLink own index y ∈ GW ∧ Cond.instanceMethod y ∈ GW ∧ Cond.selects "java/lang/String" y y ∈ GW)
    (hn : As.length = n) (hsz : ls.size = mL) (hst : st = As.reverse ++ .ref (skd X i) :: rest) (hcat : (rest.map fun v => v.category).sum ≤ 8) (hlv : lv1 + 1 ≤ lv ∧ 8 + (mL1 + 11) + 48 * lv1 ≤ 48 * lv) (hdg : decode cc pc = .ok (.invokevirtual index, 3)) :
    va_Run p l e (rmL lv) s m args below meth c H locs 0 0 0 0 (F0 m pc ls st) rest (Qc (Value.ref (skd X i) :: As).toArray) (AΓ Γ) := by
  have hj := (E_js E).1.2.1
  have hr : ∃ cell : Cell, H[skd X i]? = some cell ∧ cell.vm.isStatics = false ∧ s.vm.findClass "java/lang/String" = some cell.cls := by
    obtain rfl := E_h E
    obtain ⟨cell, h1, h2, h3, -⟩ := (hj i hi).1.kept hS.2.1
    exact ⟨cell, h1, h2, h3⟩
  exact va_runV (As := As) (rest := rest) (q_fix E) hM ⟨q_cB E hw hl.1 hlv, E.2.2.2.2.1 _ hl.2.1, E.2.2.2.2.1 _ hl.2.2⟩ ⟨blind, hr, q_pre E hS _⟩ rfl hn hsz hst (lv_room hcat) hdg ⟨Nat.zero_le _, Nat.zero_le _⟩
end JDK
section JDE
variable {l : Launch} {X : xW} {Γ : Nat → Option Nat} {y : MethodName} {b : ByteArray} {mL lv : Nat} {av : List Value} {H0 : Heap} {own : String}
theorem q_enterT {ty : FieldType} {post : Int32 → Heap → Prop} (hy : plainName y.cls = true) (hown : y.cls = own) (hlen : (lg_sl av).length ≤ mL)
    (body : ∀ (p : Program) (e : Env) (s : State) (m : MethodId) (args : Array Value) (below : List Frame) (meth : Method) (c : Code) (ls : Array Slot) (Qz : State → Prop), Ev p s m args meth c b mL own (some ty) X Γ H0 → lv_has ls mL (lv_args 0 av) →
      (∀ (v : Int32) (H1 : Heap) (locs1 : List Loc) (pc : Nat) (ls1 : Array Slot), decode b pc = .ok (.ireturn, 1) → narrow ty (.int v) = .int v → post v H1 → Conf X Γ H1 → va_S (AΓ Γ) H0 H1 locs1 → W p l e (rmL lv) s m args below meth c H1 locs1 0 0 Qz (F0 m pc ls1 [.int v])) →
      va_S (AΓ Γ) H0 H0 [] → W p l e (rmL lv) s m args below meth c H0 [] 0 0 Qz (F0 m 0 ls [])) : Ctr l X Γ y b mL (some ty) lv av H0 (QI X Γ post) :=
  q_enter hy hown hlen fun p e s m below meth c ls E hl => body p e s m _ below meth c ls _ E hl
    (fun v H1 locs1 pc ls1 hd hz hp hC hS => W.zret E.1 E.2.1 E.2.2.2.2.2.2.2 hz (fun t ht hW => ⟨⟨v, H1, rfl, hp, ht, hC⟩, hS.F0 E.2.2.2.2.2.1.1 ht⟩) hS.2.2 hd E.2.2.2.2.2.2.1) va_S.rf
end JDE
