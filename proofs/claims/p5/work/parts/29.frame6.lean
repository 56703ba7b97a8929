def pwr (k : Int) : Int := 16 ^ k.toNat
theorem pwr_le {k : Int} (h0 : 0 ≤ k) (h1 : k ≤ 8) : pwr k ≤ 4294967296 := by
  rcases (show k = 0 ∨ k = 1 ∨ k = 2 ∨ k = 3 ∨ k = 4 ∨ k = 5 ∨ k = 6 ∨ k = 7 ∨ k = 8 by omega) with rfl | rfl | rfl | rfl | rfl | rfl | rfl | rfl | rfl <;> decide
theorem pwr_step {p k : Int} (h0 : 0 ≤ k) (h : p ≤ pwr k) : p * 16 ≤ pwr (k + 1) := by
  unfold pwr at h ⊢
  rw [show (k + 1).toNat = k.toNat + 1 by omega, Int.pow_succ]
  omega
section FRJ
variable {p : Program} {l : Launch} {e : Env} {s : State} {m : MethodId} {args : Array Value} {below : List Frame} {meth : Method} {c : Code} {H H0 : Heap} {locs : List Loc} {Q : State → Prop}
variable {cc : ByteArray} {pc mL lv index : Nat} {own : String} {ret : Option FieldType} {ls : Array Slot} {rest : List Value} {X : xW} {Γ : Nat → Option Nat}
theorem q_mmaxJ (E : Ev p s m args meth c cc mL own ret X Γ H0) (hsz : ls.size = mL) (hl : Cond.methodLink own index Lib.MathLoose.max_long.x ∈ GW) (hw : Cond.static Lib.MathLoose.max_long.x ∈ GW ∧ Cond.initialized "java/lang/Math" ∈ GW ∧ Cond.code Lib.MathLoose.max_long.x Lib.MathLoose.max_long.code 4 (some .long) ∈ GW) {x y : Int64} (hlv : 1 ≤ lv) (hcat : (rest.map fun v => v.category).sum ≤ 8) (hdg : decode cc pc = .ok (.invokestatic index, 3))
    (kk : ∀ v : Int64, W p l e (rmL lv) s m args below meth c H locs 0 0 Q (F0 m (pc + 3) ls (.long v :: rest))) : W p l e (rmL lv) s m args below meth c H locs 0 0 Q (F0 m pc ls (.long y :: .long x :: rest)) := by
  have hts := E.2.2.2.2.1
  exact va_mmax_long E.1 E.2.1 (E.2.2.1.trans hsz.symm) E.2.2.2.1 (hts _ hl) (hts _ hw.1) (hts _ hw.2.1) (hts _ hw.2.2) hlv (by show _ + 15 ≤ 64 * lv; omega) (Nat.zero_le _) (Nat.zero_le _) hdg (kk _)
theorem q_mabsJ (E : Ev p s m args meth c cc mL own ret X Γ H0) (hsz : ls.size = mL) (hl : Cond.methodLink own index Lib.MathLoose.abs_long.x ∈ GW) (hw : Cond.static Lib.MathLoose.abs_long.x ∈ GW ∧ Cond.initialized "java/lang/Math" ∈ GW ∧ Cond.code Lib.MathLoose.abs_long.x Lib.MathLoose.abs_long.code 2 (some .long) ∈ GW) {x : Int64} (hlv : 1 ≤ lv) (hcat : (rest.map fun v => v.category).sum ≤ 8) (hdg : decode cc pc = .ok (.invokestatic index, 3))
    (kk : ∀ v : Int64, W p l e (rmL lv) s m args below meth c H locs 0 0 Q (F0 m (pc + 3) ls (.long v :: rest))) : W p l e (rmL lv) s m args below meth c H locs 0 0 Q (F0 m pc ls (.long x :: rest)) := by
  have hts := E.2.2.2.2.1
  exact va_mabs_long E.1 E.2.1 (E.2.2.1.trans hsz.symm) E.2.2.2.1 (hts _ hl) (hts _ hw.1) (hts _ hw.2.1) (hts _ hw.2.2) hlv (by show _ + 13 ≤ 64 * lv; omega) (Nat.zero_le _) (Nat.zero_le _) hdg (kk _)
end FRJ
