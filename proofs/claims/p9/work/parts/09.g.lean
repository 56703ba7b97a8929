def pwr (k : Int) : Int := 16 ^ k.toNat
theorem pwr_le {k : Int} (h0 : 0 ≤ k) (h1 : k ≤ 8) : pwr k ≤ 4294967296 := by
  rcases (show k = 0 ∨ k = 1 ∨ k = 2 ∨ k = 3 ∨ k = 4 ∨ k = 5 ∨ k = 6 ∨ k = 7 ∨ k = 8 by omega) with rfl | rfl | rfl | rfl | rfl | rfl | rfl | rfl | rfl <;> decide
theorem pwr_step {p k : Int} (h0 : 0 ≤ k) (h : p ≤ pwr k) : p * 16 ≤ pwr (k + 1) := by
  unfold pwr at h ⊢
  rw [show (k + 1).toNat = k.toNat + 1 by omega, Int.pow_succ]
  omega
section FRJ
variable {p : Program} {l : Launch} {e : Env} {s : State} {m : MethodId} {args : Array Value} {below : List Frame} {meth : Method} {c : Code} {H H0 : Heap} {locs : List Loc} {Q : State → Prop}
variable {cc : ByteArray} {pc mL lv index : Nat} {own : String} {ret : Option FieldType} {ls : Array Slot} {rest : List Value} {X : xW} {Γ : Nat → Option Nat}
theorem q_mmaxJ (E : Ev p s m args meth c cc mL own ret X Γ H0) (hsz : ls.size = mL) (hl : Cond.methodLink own index Lib.MathLoose.max_long.x ∈ GW) (hw : Cond.static Lib.MathLoose.max_long.x ∈ GW ∧ Cond.initialized "java/lang/Math" ∈ GW ∧ Cond.code Lib.MathLoose.max_long.x Lib.MathLoose.max_long.code 4 (some .long) ∈ GW) {x y : Int64} (hlv : 1 ≤ lv) (hcat : (rest.map fun v => v.category).sum ≤ 8) (hdg : decode cc pc = .ok (.invokestatic index, 3))
    {a b : Int} (ha : x.toInt = a) (hb : y.toInt = b) (kk : ∀ v : Int64, a ≤ v.toInt → b ≤ v.toInt → (v.toInt = a ∨ v.toInt = b) → W p l e (rmL lv) s m args below meth c H locs 0 0 Q (F0 m (pc + 3) ls (.long v :: rest))) : W p l e (rmL lv) s m args below meth c H locs 0 0 Q (F0 m pc ls (.long y :: .long x :: rest)) := by
  have hts := E.2.2.2.2.1
  refine va_mmax_long E.1 E.2.1 (E.2.2.1.trans hsz.symm) E.2.2.2.1 (hts _ hl) (hts _ hw.1) (hts _ hw.2.1) (hts _ hw.2.2) hlv (by show _ + 15 ≤ 64 * lv; omega) (Nat.zero_le _) (Nat.zero_le _) hdg (kk _ ?_ ?_ ?_) <;> subst ha <;> subst hb
  all_goals
    by_cases h : y < x
    · rw [if_pos h]
      have := Int64.lt_iff_toInt_lt.mp h
      omega
    · rw [if_neg h]
      have : ¬ y.toInt < x.toInt := fun q => h (Int64.lt_iff_toInt_lt.mpr q)
      omega
theorem q_mabsJ (E : Ev p s m args meth c cc mL own ret X Γ H0) (hsz : ls.size = mL) (hl : Cond.methodLink own index Lib.MathLoose.abs_long.x ∈ GW) (hw : Cond.static Lib.MathLoose.abs_long.x ∈ GW ∧ Cond.initialized "java/lang/Math" ∈ GW ∧ Cond.code Lib.MathLoose.abs_long.x Lib.MathLoose.abs_long.code 2 (some .long) ∈ GW) {x : Int64} (hlv : 1 ≤ lv) (hcat : (rest.map fun v => v.category).sum ≤ 8) (hdg : decode cc pc = .ok (.invokestatic index, 3))
    (kk : ∀ v : Int64, W p l e (rmL lv) s m args below meth c H locs 0 0 Q (F0 m (pc + 3) ls (.long v :: rest))) : W p l e (rmL lv) s m args below meth c H locs 0 0 Q (F0 m pc ls (.long x :: rest)) := by
  have hts := E.2.2.2.2.1
  exact va_mabs_long E.1 E.2.1 (E.2.2.1.trans hsz.symm) E.2.2.2.1 (hts _ hl) (hts _ hw.1) (hts _ hw.2.1) (hts _ hw.2.2) hlv (by show _ + 13 ≤ 64 * lv; omega) (Nat.zero_le _) (Nat.zero_le _) hdg (kk _)
end FRJ
theorem cT_nb {Γ : Nat → Option Nat} {a b k : Int} (ha : a = 2080 + k) (hb : b = k) (h5 : 0 ≤ k) (h6 : k < 520) {v : Value} (h : tv Γ (cTy a.toNat) v) : tv Γ (cTy b.toNat) v := by
  subst ha; subst hb
  by_cases h_n0 : 2080 + b ≤ 2081
  · rw [ct_n0 (by omega) (by omega)] at h; rw [ct_c0 (by omega) (by omega)]; obtain ⟨i, rfl, h1, h2⟩ := h; have h1 : (0 : Int) ≤ i.toInt := h1; have h2 : i.toInt ≤ (6 : Int) := h2; exact ⟨i, rfl, show (0 : Int) ≤ i.toInt by omega, show i.toInt ≤ (6 : Int) by omega⟩
  by_cases h_n2 : 2080 + b ≤ 2082
  · rw [ct_n2 (by omega) (by omega)] at h; rw [ct_c2 (by omega) (by omega)]; obtain ⟨i, rfl, h1, h2⟩ := h; have h1 : (0 : Int) ≤ i.toInt := h1; have h2 : i.toInt ≤ (2 : Int) := h2; exact ⟨i, rfl, show (0 : Int) ≤ i.toInt by omega, show i.toInt ≤ (2 : Int) by omega⟩
  by_cases h_n3 : 2080 + b ≤ 2091
  · rw [ct_c3 (by omega) (by omega)]; exact cT_any h
  by_cases h_n12 : 2080 + b ≤ 2093
  · rw [ct_n12 (by omega) (by omega)] at h; rw [ct_c12 (by omega) (by omega)]; obtain ⟨i, rfl, h1, h2⟩ := h; have h1 : (0 : Int) ≤ i.toInt := h1; have h2 : i.toInt ≤ (40 : Int) := h2; exact ⟨i, rfl, show (0 : Int) ≤ i.toInt by omega, show i.toInt ≤ (40 : Int) by omega⟩
  by_cases h_n14 : 2080 + b ≤ 2095
  · rw [ct_n14 (by omega) (by omega)] at h; rw [ct_c12 (by omega) (by omega)]; obtain ⟨i, rfl, h1, h2⟩ := h; have h1 : (0 : Int) ≤ i.toInt := h1; have h2 : i.toInt ≤ (0 : Int) := h2; exact ⟨i, rfl, show (0 : Int) ≤ i.toInt by omega, show i.toInt ≤ (40 : Int) by omega⟩
  by_cases h_n16 : 2080 + b ≤ 2105
  · rw [ct_c16 (by omega) (by omega)]; exact cT_any h
  by_cases h_n26 : 2080 + b ≤ 2177
  · rw [ct_n26 (by omega) (by omega)] at h; rw [ct_c26 (by omega) (by omega)]; obtain ⟨i, rfl, h1, h2⟩ := h; have h1 : (0 : Int) ≤ i.toInt := h1; have h2 : i.toInt ≤ (99 : Int) := h2; exact ⟨i, rfl, show (0 : Int) ≤ i.toInt by omega, show i.toInt ≤ (99 : Int) by omega⟩
  by_cases h_n98 : 2080 + b ≤ 2213
  · rw [ct_n98 (by omega) (by omega)] at h; rw [ct_c98 (by omega) (by omega)]; obtain ⟨i, rfl, h1, h2⟩ := h; have h1 : (0 : Int) ≤ i.toInt := h1; have h2 : i.toInt ≤ (9 : Int) := h2; exact ⟨i, rfl, show (0 : Int) ≤ i.toInt by omega, show i.toInt ≤ (9 : Int) by omega⟩
  by_cases h_n134 : 2080 + b ≤ 2322
  · rw [ct_c134 (by omega) (by omega)]; exact cT_any h
  by_cases h_n243 : 2080 + b ≤ 2323
  · rw [ct_n243 (by omega) (by omega)] at h; rw [ct_c243 (by omega) (by omega)]; obtain ⟨i, rfl, h1, h2⟩ := h; have h1 : (0 : Int) ≤ i.toInt := h1; have h2 : i.toInt ≤ (0 : Int) := h2; exact ⟨i, rfl, show (0 : Int) ≤ i.toInt by omega, show i.toInt ≤ (30 : Int) by omega⟩
  by_cases h_n244 : 2080 + b ≤ 2599
  · rw [ct_c244 (by omega) (by omega)]; exact cT_any h
  omega
theorem cT_nz {Γ : Nat → Option Nat} {a : Int} (h5 : 2080 ≤ a) (h6 : a < 2600) : tv Γ (cTy a.toNat) (.int 0) := by
  by_cases h_n0 : a ≤ 2081
  · rw [ct_n0 (by omega) (by omega)]; exact ⟨0, rfl, by decide, by decide⟩
  by_cases h_n2 : a ≤ 2082
  · rw [ct_n2 (by omega) (by omega)]; exact ⟨0, rfl, by decide, by decide⟩
  by_cases h_n3 : a ≤ 2091
  · rw [ct_n3 (by omega) (by omega)]; exact tv_F
  by_cases h_n12 : a ≤ 2093
  · rw [ct_n12 (by omega) (by omega)]; exact ⟨0, rfl, by decide, by decide⟩
  by_cases h_n14 : a ≤ 2095
  · rw [ct_n14 (by omega) (by omega)]; exact ⟨0, rfl, by decide, by decide⟩
  by_cases h_n16 : a ≤ 2105
  · rw [ct_n16 (by omega) (by omega)]; exact tv_F
  by_cases h_n26 : a ≤ 2177
  · rw [ct_n26 (by omega) (by omega)]; exact ⟨0, rfl, by decide, by decide⟩
  by_cases h_n98 : a ≤ 2213
  · rw [ct_n98 (by omega) (by omega)]; exact ⟨0, rfl, by decide, by decide⟩
  by_cases h_n134 : a ≤ 2322
  · rw [ct_n134 (by omega) (by omega)]; exact tv_F
  by_cases h_n243 : a ≤ 2323
  · rw [ct_n243 (by omega) (by omega)]; exact ⟨0, rfl, by decide, by decide⟩
  by_cases h_n244 : a ≤ 2599
  · rw [ct_n244 (by omega) (by omega)]; exact tv_F
  omega
/-- a token that isn't a sign counts one more -/
def tk (t : Int) : Int := if t = 3 then 0 else 1
theorem tk_or (t : Int) : (t = 3 ∧ tk t = 0) ∨ (t ≠ 3 ∧ tk t = 1) := by
  unfold tk
  by_cases h : t = 3
  · exact Or.inl ⟨h, if_pos h⟩
  · exact Or.inr ⟨h, if_neg h⟩
theorem tk_nn (t : Int) : 0 ≤ tk t ∧ tk t ≤ 1 := by
  rcases tk_or t with ⟨-, h⟩ | ⟨-, h⟩ <;> rw [h] <;> decide
