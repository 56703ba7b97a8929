def pwr (k : Int) : Int := 16 ^ k.toNat
theorem pwr_le {k : Int} (h0 : 0 ≤ k) (h1 : k ≤ 8) : pwr k ≤ 4294967296 := by
  rcases (show k = 0 ∨ k = 1 ∨ k = 2 ∨ k = 3 ∨ k = 4 ∨ k = 5 ∨ k = 6 ∨ k = 7 ∨ k = 8 by omega) with rfl | rfl | rfl | rfl | rfl | rfl | rfl | rfl | rfl <;> decide
theorem pwr_step {p k : Int} (h0 : 0 ≤ k) (h : p ≤ pwr k) : p * 16 ≤ pwr (k + 1) := by
  unfold pwr at h ⊢
  rw [show (k + 1).toNat = k.toNat + 1 by omega, Int.pow_succ]
  omega
section FRJ
variable {p : Program} {l : Launch} {e : Env} {s : State} {m : MethodId} {args : Array Value} {below : List Frame} {meth : Method} {c : Code} {H H0 : Heap} {locs : List Loc} {Q : State → Prop}
variable {cc : ByteArray} {pc mL lv index : Nat} {own : String} {ret : Option FieldType} {ls : Array Slot} {rest : List Value} {X : xW} {Γ : Nat → Option Nat}
theorem q_mmaxJ (E : Ev p s m args meth c cc mL own ret X Γ H0) (hsz : ls.size = mL) (hl : Cond.methodLink own index Lib.MathLoose.max_long.x ∈ GW) (hw : Cond.static Lib.MathLoose.max_long.x ∈ GW ∧ Cond.initialized "java/lang/Math" ∈ GW ∧ Cond.code Lib.MathLoose.max_long.x Lib.MathLoose.max_long.code 4 (some .long) ∈ GW) {x y : Int64} (hlv : 1 ≤ lv) (hcat : (rest.map fun v => v.category).sum ≤ 8) (hdg : decode cc pc = .ok (.invokestatic index, 3))
    {a b : Int} (ha : x.toInt = a) (hb : y.toInt = b) (kk : ∀ v : Int64, a ≤ v.toInt → b ≤ v.toInt → (v.toInt = a ∨ v.toInt = b) → W p l e (rmL lv) s m args below meth c H locs 0 0 Q (F0 m (pc + 3) ls (.long v :: rest))) : W p l e (rmL lv) s m args below meth c H locs 0 0 Q (F0 m pc ls (.long y :: .long x :: rest)) := by
  have hts := E.2.2.2.2.1
  refine va_mmax_long E.1 E.2.1 (E.2.2.1.trans hsz.symm) E.2.2.2.1 (hts _ hl) (hts _ hw.1) (hts _ hw.2.1) (hts _ hw.2.2) hlv (by show _ + 15 ≤ 64 * lv; omega) (Nat.zero_le _) (Nat.zero_le _) hdg (kk _ ?_ ?_ ?_) <;> subst ha <;> subst hb
  all_goals
    by_cases h : y < x
    · rw [if_pos h]
      have := Int64.lt_iff_toInt_lt.mp h
      omega
    · rw [if_neg h]
      have : ¬ y.toInt < x.toInt := fun q => h (Int64.lt_iff_toInt_lt.mpr q)
      omega
theorem q_mabsJ (E : Ev p s m args meth c cc mL own ret X Γ H0) (hsz : ls.size = mL) (hl : Cond.methodLink own index Lib.MathLoose.abs_long.x ∈ GW) (hw : Cond.static Lib.MathLoose.abs_long.x ∈ GW ∧ Cond.initialized "java/lang/Math" ∈ GW ∧ Cond.code Lib.MathLoose.abs_long.x Lib.MathLoose.abs_long.code 2 (some .long) ∈ GW) {x : Int64} (hlv : 1 ≤ lv) (hcat : (rest.map fun v => v.category).sum ≤ 8) (hdg : decode cc pc = .ok (.invokestatic index, 3))
    (kk : ∀ v : Int64, W p l e (rmL lv) s m args below meth c H locs 0 0 Q (F0 m (pc + 3) ls (.long v :: rest))) : W p l e (rmL lv) s m args below meth c H locs 0 0 Q (F0 m pc ls (.long x :: rest)) := by
  have hts := E.2.2.2.2.1
  exact va_mabs_long E.1 E.2.1 (E.2.2.1.trans hsz.symm) E.2.2.2.1 (hts _ hl) (hts _ hw.1) (hts _ hw.2.1) (hts _ hw.2.2) hlv (by show _ + 13 ≤ 64 * lv; omega) (Nat.zero_le _) (Nat.zero_le _) hdg (kk _)
end FRJ
theorem cT_nb {Γ : Nat → Option Nat} {a b k : Int} (ha : a = 2080 + k) (hb : b = k) (h5 : 0 ≤ k) (h6 : k < 520) {v : Value} (h : tv Γ (cTy a.toNat) v) : tv Γ (cTy b.toNat) v := by
  subst ha; subst hb
  by_cases h_n0 : 2080 + b ≤ 2081
  · rw [ct_n0 (by omega) (by omega)] at h; rw [ct_c0 (by omega) (by omega)]; obtain ⟨i, rfl, h1, h2⟩ := h; have h1 : (0 : Int) ≤ i.toInt := h1; have h2 : i.toInt ≤ (6 : Int) := h2; exact ⟨i, rfl, show (0 : Int) ≤ i.toInt by omega, show i.toInt ≤ (6 : Int) by omega⟩
  by_cases h_n2 : 2080 + b ≤ 2082
  · rw [ct_n2 (by omega) (by omega)] at h; rw [ct_c2 (by omega) (by omega)]; obtain ⟨i, rfl, h1, h2⟩ := h; have h1 : (0 : Int) ≤ i.toInt := h1; have h2 : i.toInt ≤ (2 : Int) := h2; exact ⟨i, rfl, show (0 : Int) ≤ i.toInt by omega, show i.toInt ≤ (2 : Int) by omega⟩
  by_cases h_n3 : 2080 + b ≤ 2091
  · rw [ct_c3 (by omega) (by omega)]; exact cT_any h
  by_cases h_n12 : 2080 + b ≤ 2093
  · rw [ct_n12 (by omega) (by omega)] at h; rw [ct_c12 (by omega) (by omega)]; obtain ⟨i, rfl, h1, h2⟩ := h; have h1 : (0 : Int) ≤ i.toInt := h1; have h2 : i.toInt ≤ (40 : Int) := h2; exact ⟨i, rfl, show (0 : Int) ≤ i.toInt by omega, show i.toInt ≤ (40 : Int) by omega⟩
  by_cases h_n14 : 2080 + b ≤ 2095
  · rw [ct_n14 (by omega) (by omega)] at h; rw [ct_c12 (by omega) (by omega)]; obtain ⟨i, rfl, h1, h2⟩ := h; have h1 : (0 : Int) ≤ i.toInt := h1; have h2 : i.toInt ≤ (0 : Int) := h2; exact ⟨i, rfl, show (0 : Int) ≤ i.toInt by omega, show i.toInt ≤ (40 : Int) by omega⟩
  by_cases h_n16 : 2080 + b ≤ 2105
  · rw [ct_c16 (by omega) (by omega)]; exact cT_any h
  by_cases h_n26 : 2080 + b ≤ 2177
  · rw [ct_n26 (by omega) (by omega)] at h; rw [ct_c26 (by omega) (by omega)]; obtain ⟨i, rfl, h1, h2⟩ := h; have h1 : (0 : Int) ≤ i.toInt := h1; have h2 : i.toInt ≤ (99 : Int) := h2; exact ⟨i, rfl, show (0 : Int) ≤ i.toInt by omega, show i.toInt ≤ (99 : Int) by omega⟩
  by_cases h_n98 : 2080 + b ≤ 2213
  · rw [ct_n98 (by omega) (by omega)] at h; rw [ct_c98 (by omega) (by omega)]; obtain ⟨i, rfl, h1, h2⟩ := h; have h1 : (0 : Int) ≤ i.toInt := h1; have h2 : i.toInt ≤ (9 : Int) := h2; exact ⟨i, rfl, show (0 : Int) ≤ i.toInt by omega, show i.toInt ≤ (9 : Int) by omega⟩
  by_cases h_n134 : 2080 + b ≤ 2322
  · rw [ct_c134 (by omega) (by omega)]; exact cT_any h
  by_cases h_n243 : 2080 + b ≤ 2323
  · rw [ct_n243 (by omega) (by omega)] at h; rw [ct_c243 (by omega) (by omega)]; obtain ⟨i, rfl, h1, h2⟩ := h; have h1 : (0 : Int) ≤ i.toInt := h1; have h2 : i.toInt ≤ (0 : Int) := h2; exact ⟨i, rfl, show (0 : Int) ≤ i.toInt by omega, show i.toInt ≤ (30 : Int) by omega⟩
  by_cases h_n244 : 2080 + b ≤ 2599
  · rw [ct_c244 (by omega) (by omega)]; exact cT_any h
  omega
theorem cT_nz {Γ : Nat → Option Nat} {a : Int} (h5 : 2080 ≤ a) (h6 : a < 2600) : tv Γ (cTy a.toNat) (.int 0) := by
  by_cases h_n0 : a ≤ 2081
  · rw [ct_n0 (by omega) (by omega)]; exact ⟨0, rfl, by decide, by decide⟩
  by_cases h_n2 : a ≤ 2082
  · rw [ct_n2 (by omega) (by omega)]; exact ⟨0, rfl, by decide, by decide⟩
  by_cases h_n3 : a ≤ 2091
  · rw [ct_n3 (by omega) (by omega)]; exact tv_F
  by_cases h_n12 : a ≤ 2093
  · rw [ct_n12 (by omega) (by omega)]; exact ⟨0, rfl, by decide, by decide⟩
  by_cases h_n14 : a ≤ 2095
  · rw [ct_n14 (by omega) (by omega)]; exact ⟨0, rfl, by decide, by decide⟩
  by_cases h_n16 : a ≤ 2105
  · rw [ct_n16 (by omega) (by omega)]; exact tv_F
  by_cases h_n26 : a ≤ 2177
  · rw [ct_n26 (by omega) (by omega)]; exact ⟨0, rfl, by decide, by decide⟩
  by_cases h_n98 : a ≤ 2213
  · rw [ct_n98 (by omega) (by omega)]; exact ⟨0, rfl, by decide, by decide⟩
  by_cases h_n134 : a ≤ 2322
  · rw [ct_n134 (by omega) (by omega)]; exact tv_F
  by_cases h_n243 : a ≤ 2323
  · rw [ct_n243 (by omega) (by omega)]; exact ⟨0, rfl, by decide, by decide⟩
  by_cases h_n244 : a ≤ 2599
  · rw [ct_n244 (by omega) (by omega)]; exact tv_F
  omega
/-- a token that isn't a sign counts one more -/
def tk (t : Int) : Int := if t = 3 then 0 else 1
theorem tk_or (t : Int) : (t = 3 ∧ tk t = 0) ∨ (t ≠ 3 ∧ tk t = 1) := by
  unfold tk
  by_cases h : t = 3
  · exact Or.inl ⟨h, if_pos h⟩
  · exact Or.inr ⟨h, if_neg h⟩
theorem tk_nn (t : Int) : 0 ≤ tk t ∧ tk t ≤ 1 := by
  rcases tk_or t with ⟨-, h⟩ | ⟨-, h⟩ <;> rw [h] <;> decide
-- what calls leave of c: below a place (KB), at the places that the law's own invariant speaks of (KD), rows copied (CPd); orders' steps well-formed
section FR7
variable {X : xW} {Γ : Nat → Option Nat} {H H0 H1 : Heap} {ca q j : Nat} {v : Value} {gs : List Nat} {a b b2 lo mid hi hi2 w k z s n : Int}
def KB (H H1 : Heap) (ca : Nat) (b : Int) : Prop := ∀ j : Nat, (j : Int) < b → sI H1 ca j = sI H ca j
theorem KB.rf : KB H H ca b := fun _ _ => rfl
theorem KB.ne (h : KB H0 H ca b) (U : Up H H1 q j v) (hne : q ≠ ca) : KB H0 H1 ca b := fun i hi => (up_nI U (fun hh => hne hh.1.symm)).trans (h i hi)
theorem KB.up (h : KB H0 H ca b) (U : Up H H1 ca a.toNat v) (ha : b ≤ a) : KB H0 H1 ca b := fun i hi => (up_nI U (fun hh => by have := hh.2; omega)).trans (h i hi)
theorem KB.kp (h : KB H0 H ca b) (hk : Kp X Γ gs H H1) (hca : Γ ca = some 64) (h15 : gs.contains 15 = true) : KB H0 H1 ca b := fun i hi => (kp_c hk hca h15).trans (h i hi)
theorem KB.tr (h : KB H0 H ca b) (h2 : KB H H1 ca b2) (hb : b ≤ b2) : KB H0 H1 ca b := fun i hi => (h2 i (by omega)).trans (h i hi)
theorem KB.at (h : KB H H1 ca b) (h0 : 0 ≤ a) (ha : a < b) : sI H1 ca a.toNat = sI H ca a.toNat := h _ (by omega)
/-- the places of c that the law's invariant speaks of, but for those from a to b -/
def KD (H H1 : Heap) (ca : Nat) (a b : Int) : Prop := ∀ j : Nat, ((j : Int) < a ∨ b ≤ (j : Int)) → (dpc j ∨ dpu j) → sI H1 ca j = sI H ca j
theorem KD.rf : KD H H ca a b := fun _ _ _ => rfl
theorem KD.ne (h : KD H0 H ca a b) (U : Up H H1 q j v) (hne : q ≠ ca) : KD H0 H1 ca a b := fun i hi hd => (up_nI U (fun hh => hne hh.1.symm)).trans (h i hi hd)
theorem KD.up (h : KD H0 H ca lo hi) (U : Up H H1 ca a.toNat v) (h0 : 0 ≤ a) (ha : (lo ≤ a ∧ a < hi) ∨ 2080 ≤ a) : KD H0 H1 ca lo hi := fun i hi hd => (up_nI U (fun hh => by
  have := hh.2
  unfold dpc dpu at hd
  omega)).trans (h i hi hd)
theorem KD.kp (h : KD H0 H ca a b) (hk : Kp X Γ gs H H1) (hca : Γ ca = some 64) (h10 : gs.contains 10 = true) (h16 : gs.contains 16 = true) : KD H0 H1 ca a b := fun i hi hd => by
  rw [← h i hi hd]
  rcases hd with hd | hd
  · exact kp_d hk hca h10 hd
  · have := hk ca 64 hca i (Or.inr (Or.inl ⟨rfl, h16, hd⟩))
    simp [sI, this]
theorem KD.wk (h : KD H H1 ca 0 0) : KD H H1 ca a b := fun i _ hd => h i (by omega) hd
/-- an order's step -/
def okS (k a b d t e s n : Int) : Prop := (0 ≤ k ∧ k ≤ 9) ∧ (k ≤ 1 → 0 ≤ a ∧ a ≤ 40) ∧ (k = 2 → 0 ≤ a ∧ a ≤ b ∧ b ≤ 40) ∧ (k = 3 ∨ k = 4 ∨ k = 5 → 0 ≤ a ∧ a ≤ 35) ∧ (k = 5 → 0 ≤ b ∧ b ≤ 35 ∧ 0 ≤ d) ∧ (k = 7 → t = 1 → 0 ≤ a ∧ a ≤ 35) ∧ s < e ∧ e ≤ n
def okP (H : Heap) (ca : Nat) (w k z : Int) : Prop := (sI H ca w.toNat).toInt = k ∧ (k ≤ 1 → 0 ≤ (sI H ca (w + 1).toNat).toInt ∧ (sI H ca (w + 1).toNat).toInt ≤ 40) ∧ (k = 2 → 0 ≤ (sI H ca (w + 1).toNat).toInt ∧ (sI H ca (w + 1).toNat).toInt ≤ (sI H ca (w + 2).toNat).toInt + 100 * z ∧ (sI H ca (w + 2).toNat).toInt ≤ 40) ∧ (k = 3 ∨ k = 4 ∨ k = 5 → 0 ≤ (sI H ca (w + 1).toNat).toInt ∧ (sI H ca (w + 1).toNat).toInt ≤ 35) ∧ (k = 5 → 0 ≤ (sI H ca (w + 2).toNat).toInt ∧ (sI H ca (w + 2).toNat).toInt ≤ 35 ∧ 0 ≤ (sI H ca (w + 3).toNat).toInt) ∧ (k = 7 → (sI H ca (w + 6).toNat).toInt = 1 → 0 ≤ (sI H ca (w + 1).toNat).toInt ∧ (sI H ca (w + 1).toNat).toInt ≤ 35)
theorem okP.of (h : okP H ca w k z) (hc : ∀ i : Int, w ≤ i → i ≤ w + 6 → sI H1 ca i.toNat = sI H ca i.toNat) : okP H1 ca w k z := by
  unfold okP at h ⊢
  rw [hc w (by omega) (by omega), hc (w + 1) (by omega) (by omega), hc (w + 2) (by omega) (by omega), hc (w + 3) (by omega) (by omega), hc (w + 6) (by omega) (by omega)]
  exact h
theorem okP.ne (h : okP H ca w k z) (U : Up H H1 q j v) (hne : q ≠ ca) : okP H1 ca w k z := h.of fun i _ _ => up_nI U (fun hh => hne hh.1.symm)
theorem okP.up (h : okP H ca w k z) (U : Up H H1 ca a.toNat v) (h0 : 0 ≤ w) (ha : w + 7 ≤ a) : okP H1 ca w k z := h.of fun i _ _ => up_nI U (fun hh => by have := hh.2; omega)
theorem okP.kp (h : okP H ca w k z) (hk : Kp X Γ gs H H1) (hca : Γ ca = some 64) (h15 : gs.contains 15 = true) : okP H1 ca w k z := h.of fun i _ _ => kp_c hk hca h15
theorem okP.kb (h : okP H ca w k z) (hk : KB H H1 ca b) (h0 : 0 ≤ w) (hb : w + 7 ≤ b) : okP H1 ca w k z := h.of fun i _ _ => hk.at (by omega) (by omega)
def stp (H : Heap) (ca : Nat) (w s n : Int) : Prop := okS (sI H ca w.toNat).toInt (sI H ca (w + 1).toNat).toInt (sI H ca (w + 2).toNat).toInt (sI H ca (w + 3).toNat).toInt (sI H ca (w + 6).toNat).toInt (sI H ca (w + 8).toNat).toInt s n
theorem stp.of {w2 : Int} (h : stp H ca w s n) (hc : ∀ i : Int, 0 ≤ i → i ≤ 8 → sI H1 ca (w2 + i).toNat = sI H ca (w + i).toNat) : stp H1 ca w2 s n := by
  unfold stp at h ⊢
  have h0 := hc 0 (by omega) (by omega)
  rw [Int.add_zero, Int.add_zero] at h0
  rw [h0, hc 1 (by omega) (by omega), hc 2 (by omega) (by omega), hc 3 (by omega) (by omega), hc 6 (by omega) (by omega), hc 8 (by omega) (by omega)]
  exact h
theorem stp.mono (h : stp H ca w s hi) (hh : hi ≤ hi2) : stp H ca w s hi2 := by
  unfold stp okS at h ⊢
  obtain ⟨a1, a2, a3, a4, a5, a6, a7, a8⟩ := h
  exact ⟨a1, a2, a3, a4, a5, a6, a7, by omega⟩
def SWn (H : Heap) (ca : Nat) (lo hi : Int) : Prop := ∀ s : Int, lo ≤ s → s < hi → stp H ca (2324 + 9 * s) s hi
theorem SWn.of (h : SWn H ca lo hi) (h0 : 0 ≤ lo) (hc : ∀ i : Int, 2324 + 9 * lo ≤ i → i < 2324 + 9 * hi → sI H1 ca i.toNat = sI H ca i.toNat) : SWn H1 ca lo hi := fun s h1 h2 => (h s h1 h2).of fun i _ _ => hc _ (by omega) (by omega)
theorem SWn.mono (h : SWn H ca lo hi) (hh : hi ≤ hi2) : ∀ s : Int, lo ≤ s → s < hi → stp H ca (2324 + 9 * s) s hi2 := fun s h1 h2 => (h s h1 h2).mono hh
theorem SWn.app (h : SWn H ca lo mid) (h2 : SWn H ca mid hi) (hm : mid ≤ hi) : SWn H ca lo hi := fun s h3 h4 => by
  by_cases hs : s < mid
  · exact (h s h3 hs).mono hm
  · exact h2 s (by omega) h4
theorem SWn.nil (h : hi ≤ lo) : SWn H ca lo hi := fun s h1 h2 => absurd h1 (by omega)
theorem SWn.one {e n0 : Int} (h : okP H ca w k 0) (hw : w = 2324 + 9 * n0) (hk : 0 ≤ k ∧ k ≤ 9) (he : (sI H ca (w + 8).toNat).toInt = e) (h1 : n0 < e) (h2 : e ≤ hi) (hs : SWn H ca (n0 + 1) hi) : SWn H ca n0 hi := fun s h3 h4 => by
  by_cases hs2 : s = n0
  · subst hs2
    subst hw
    unfold okP at h
    unfold stp okS
    obtain ⟨a1, a2, a3, a4, a5, a6⟩ := h
    rw [a1, he]
    exact ⟨hk, a2, by omega, a4, a5, a6, h1, h2⟩
  · exact hs s (by omega) h4
/-- the same under a condition: no fault -/
def SWc (z : Int) (H : Heap) (ca : Nat) (lo hi : Int) : Prop := z = 0 → SWn H ca lo hi
theorem SWc.ne (h : SWc z H ca lo hi) (U : Up H H1 q j v) (hne : q ≠ ca) (h0 : 0 ≤ lo) : SWc z H1 ca lo hi := fun hz => (h hz).of h0 fun i _ _ => up_nI U (fun hh => hne hh.1.symm)
theorem SWc.up (h : SWc z H ca lo hi) (U : Up H H1 ca a.toNat v) (h0 : 0 ≤ lo) (ha : (0 ≤ a ∧ a < 2324 + 9 * lo) ∨ 2324 + 9 * hi ≤ a) : SWc z H1 ca lo hi := fun hz => (h hz).of h0 fun i _ _ => up_nI U (fun hh => by have := hh.2; omega)
theorem SWc.kp (h : SWc z H ca lo hi) (hk : Kp X Γ gs H H1) (hca : Γ ca = some 64) (h15 : gs.contains 15 = true) (h0 : 0 ≤ lo) : SWc z H1 ca lo hi := fun hz => (h hz).of h0 fun i _ _ => kp_c hk hca h15
theorem SWc.step {z2 : Int} (h : SWc z H ca lo mid) (hk : KB H H1 ca b) (h2 : SWc z2 H1 ca mid hi) (h0 : 0 ≤ lo) (hz : z2 = 0 → z = 0) (hb : 2324 + 9 * mid ≤ b) (hm : mid ≤ hi) : SWc z2 H1 ca lo hi := fun hq => SWn.app ((h (hz hq)).of h0 fun i _ _ => hk.at (by omega) (by omega)) (h2 hq) hm
/-- a row copied up to k -/
def CPd (H : Heap) (ca : Nat) (src dst k : Int) : Prop := ∀ i : Int, 0 ≤ i → i < k → sI H ca (dst + i).toNat = sI H ca (src + i).toNat
theorem CPd.nil {src dst : Int} (h : k ≤ 0) : CPd H ca src dst k := fun i h1 h2 => absurd h1 (by omega)
theorem CPd.step {src dst : Int} {x : Int32} (h : CPd H ca src dst k) (hw : a = dst + k) (U : Up H H1 ca a.toNat (.int x)) (hx : sI H ca (src + k).toNat = x) (h0 : 0 ≤ dst) (h1 : dst + k < src) (hk : 0 ≤ k) : CPd H1 ca src dst (k + 1) := fun i h2 h3 => by
  subst hw
  rw [up_nI U (a' := ca) (j' := (src + i).toNat) (fun hh => by have := hh.2; omega)]
  by_cases hi : i = k
  · subst hi
    rw [up_I U, hx]
  · rw [up_nI U (a' := ca) (j' := (dst + i).toNat) (fun hh => by have := hh.2; omega)]
    exact h i h2 (by omega)
theorem CPd.mono {src dst k2 : Int} (h : CPd H ca src dst k) (hk : k2 ≤ k) : CPd H ca src dst k2 := fun i h1 h2 => h i h1 (by omega)
def EQ (H : Heap) (ca : Nat) (i x : Int) : Prop := (sI H ca i.toNat).toInt = x
theorem EQ.ne {i x : Int} (h : EQ H ca i x) (U : Up H H1 q j v) (hne : q ≠ ca) : EQ H1 ca i x := (congrArg Int32.toInt (up_nI U (fun hh => hne hh.1.symm))).trans h
theorem EQ.up {i x : Int} (h : EQ H ca i x) (U : Up H H1 ca a.toNat v) (h0 : 0 ≤ a ∧ 0 ≤ i) (ha : a ≠ i) : EQ H1 ca i x := (congrArg Int32.toInt (up_nI U (fun hh => by have := hh.2; omega))).trans h
theorem EQ.kp {i x : Int} (h : EQ H ca i x) (hk : Kp X Γ gs H H1) (hca : Γ ca = some 64) (h10 : gs.contains 10 = true) (hd : dpc i.toNat) : EQ H1 ca i x := (congrArg Int32.toInt (kp_d hk hca h10 hd)).trans h
def NZ (H : Heap) (ca : Nat) (x y : Int) : Prop := (sI H ca (2080 : Int).toNat).toInt = x ∧ (sI H ca (2081 : Int).toNat).toInt = y
theorem NZ.ne {x y : Int} (h : NZ H ca x y) (U : Up H H1 q j v) (hne : q ≠ ca) : NZ H1 ca x y := ⟨(congrArg Int32.toInt (up_nI U (fun hh => hne hh.1.symm))).trans h.1, (congrArg Int32.toInt (up_nI U (fun hh => hne hh.1.symm))).trans h.2⟩
theorem NZ.up {x y : Int} (h : NZ H ca x y) (U : Up H H1 ca a.toNat v) (h0 : 0 ≤ a) (ha : a ≠ 2080 ∧ a ≠ 2081) : NZ H1 ca x y := ⟨(congrArg Int32.toInt (up_nI U (fun hh => by have := hh.2; omega))).trans h.1, (congrArg Int32.toInt (up_nI U (fun hh => by have := hh.2; omega))).trans h.2⟩
theorem NZ.kp {x y : Int} (h : NZ H ca x y) (hk : Kp X Γ gs H H1) (hca : Γ ca = some 64) (h17 : gs.contains 17 = true) : NZ H1 ca x y := ⟨(congrArg Int32.toInt (kp_n hk hca h17 (by unfold dpn; omega))).trans h.1, (congrArg Int32.toInt (kp_n hk hca h17 (by unfold dpn; omega))).trans h.2⟩
/-- the orders of a block at b -/
def SW (H : Heap) (ca : Nat) (b : Int) : Prop := ∀ s : Int, 0 ≤ s → s < (sI H ca (b + 243).toNat).toInt → stp H ca (b + 244 + 9 * s) s (sI H ca (b + 243).toNat).toInt
theorem SW.fin (h : SWn H ca 0 n) (hn : (sI H ca (243 : Int).toNat).toInt = n) (hc : CPd H ca 2324 244 (9 * n)) : SW H ca 0 := fun s h1 h2 => by
  have e : (0 : Int) + 243 = 243 := rfl
  rw [e] at h2 ⊢
  rw [hn] at h2 ⊢
  refine (h s h1 h2).of fun i h3 h4 => ?_
  have := hc (9 * s + i) (by omega) (by omega)
  rw [show (0 : Int) + 244 + 9 * s + i = 244 + (9 * s + i) by omega, show 2324 + 9 * s + i = 2324 + (9 * s + i) by omega]
  exact this
theorem SW.zero (h : (sI H ca (b + 243).toNat).toInt = 0) : SW H ca b := fun s h1 h2 => by
  rw [h] at h2
  omega
theorem dpcR {i r : Int} (h : i = 520 * a + r) (h0 : 0 ≤ a) (h1 : a ≤ 3) (h2 : 243 ≤ r) (h3 : r < 520) : dpc i.toNat := by
  unfold dpc
  have e : i.toNat % 520 = r.toNat := by
    subst h
    omega
  omega
theorem SW.kd {lo hi : Int} (h : SW H ca b) (hk : KD H H1 ca lo hi) (h0 : 0 ≤ b) (h1 : b ≤ 1560) (hb : b % 520 = 0) (hl : b + 520 ≤ lo ∨ hi ≤ b) (hn : (sI H ca (b + 243).toNat).toInt ≤ 30) : SW H1 ca b := fun s h2 h3 => by
  have e : sI H1 ca (b + 243).toNat = sI H ca (b + 243).toNat := hk _ (by omega) (Or.inl (by unfold dpc; omega))
  rw [e] at h3 ⊢
  refine (h s h2 h3).of fun i h4 h5 => ?_
  exact hk _ (by omega) (Or.inl (dpcR (a := b / 520) (r := 244 + 9 * s + i) (by omega) (by omega) (by omega) (by omega) (by omega)))
theorem SW.kp (h : SW H ca 0) (hk : Kp X Γ gs H H1) (hca : Γ ca = some 64) (h10 : gs.contains 10 = true) (hn : (sI H ca (243 : Int).toNat).toInt ≤ 30) : SW H1 ca 0 := fun s h2 h3 => by
  have e0 : (0 : Int) + 243 = 243 := rfl
  rw [e0] at h3 ⊢
  have e : sI H1 ca (243 : Int).toNat = sI H ca (243 : Int).toNat := kp_d hk hca h10 (by unfold dpc; omega)
  rw [e] at h3 ⊢
  refine (h s h2 h3).of fun i h4 h5 => ?_
  exact kp_d hk hca h10 (dpcR (a := 0) (r := 244 + 9 * s + i) (by omega) (by omega) (by omega) (by omega) (by omega))
theorem okS.kind {k a b d t e s n : Int} (h : okS k a b d t e s n) : 0 ≤ k ∧ k ≤ 9 := h.1
theorem okS.k1 {k a b d t e s n : Int} (h : okS k a b d t e s n) (hk : k ≤ 1) : 0 ≤ a ∧ a ≤ 40 := h.2.1 hk
theorem okS.k2 {k a b d t e s n : Int} (h : okS k a b d t e s n) (hk : k = 2) : 0 ≤ a ∧ a ≤ b ∧ b ≤ 40 := h.2.2.1 hk
theorem okS.k3 {k a b d t e s n : Int} (h : okS k a b d t e s n) (hk : k = 3 ∨ k = 4 ∨ k = 5) : 0 ≤ a ∧ a ≤ 35 := h.2.2.2.1 hk
theorem okS.k5 {k a b d t e s n : Int} (h : okS k a b d t e s n) (hk : k = 5) : 0 ≤ b ∧ b ≤ 35 ∧ 0 ≤ d := h.2.2.2.2.1 hk
theorem okS.k7 {k a b d t e s n : Int} (h : okS k a b d t e s n) (hk : k = 7) (ht : t = 1) : 0 ≤ a ∧ a ≤ 35 := h.2.2.2.2.2.1 hk ht
theorem okS.e {k a b d t e s n : Int} (h : okS k a b d t e s n) : s < e ∧ e ≤ n := h.2.2.2.2.2.2
theorem SW.get {w s : Int} (h : SW H ca 0) (h0 : 0 ≤ s) (h1 : s < (sI H ca (243 : Int).toNat).toInt) (hw : w = 244 + 9 * s) : stp H ca w s (sI H ca (243 : Int).toNat).toInt := by
  have := h s h0 h1
  rwa [show (0 : Int) + 244 + 9 * s = w by omega] at this
theorem c243 (hC : Conf X Γ H) (hca : Γ ca = some 64) : 0 ≤ (sI H ca (243 : Int).toNat).toInt ∧ (sI H ca (243 : Int).toNat).toInt ≤ 30 := by
  obtain ⟨v, e1, e2, -⟩ := ct_get hC hca (a := 243) (by omega) (by omega)
  obtain ⟨w, hw, l1, l2⟩ := cr_c243 (by omega) (by omega) _ e2
  cases hw
  rw [e1]
  exact ⟨l1, l2⟩
theorem c_bd {i lo hi : Int} (hC : Conf X Γ H) (hca : Γ ca = some 64) (h0 : 0 ≤ i) (h1 : i < 2600) (hr : ∀ v, tv Γ (cTy i.toNat) v → tv Γ (0, lo, hi) v) : lo ≤ (sI H ca i.toNat).toInt ∧ (sI H ca i.toNat).toInt ≤ hi := by
  obtain ⟨v, e1, e2, -⟩ := ct_get hC hca h0 h1
  obtain ⟨w, hw, l1, l2⟩ := hr _ e2
  cases hw
  rw [e1]
  exact ⟨l1, l2⟩
end FR7
-- ways: costs that are mended till they stand
section FR8
variable {X : xW} {Γ : Nat → Option Nat} {Hc H H0 H1 : Heap} {ca oa q j : Nat} {v : Value} {gs : List Nat} {a b k w x y z c0 c1 : Int}
def tpI (H : Heap) (ca : Nat) (k : Int) : Int := (sI H ca (26 + k).toNat).toInt + (sI H ca (62 + k).toNat).toInt
def stI (a b : Int) : Int := if a < b then b - a else if 3 < a - b then 2 else 0
def bsX (k w : Int) : Int := k % 6 + (if w = 0 then 1 else if w = 3 then -1 else 0)
def bsY (k w : Int) : Int := k / 6 + (if w = 1 then 1 else if w = 2 then -1 else 0)
def bsI (c0 c1 k w : Int) : Int := if 0 ≤ bsX k w ∧ bsX k w < c0 ∧ 0 ≤ bsY k w ∧ bsY k w < c1 then 6 * bsY k w + bsX k w else -1
def cW (H : Heap) (ca : Nat) : Int := (sI H ca (0 : Int).toNat).toInt
def cH (H : Heap) (ca : Nat) : Int := (sI H ca (1 : Int).toNat).toInt
def bs (H : Heap) (ca : Nat) (k w : Int) : Int := bsI (cW H ca) (cH H ca) k w
def oI (H : Heap) (oa : Nat) (k : Int) : Int := (sI H oa k.toNat).toInt
def gb (Hc H : Heap) (ca oa : Nat) (k w : Int) : Int := if bs Hc ca k w < 0 then (if w = 0 then 1000 * stI (tpI Hc ca k) 0 + 1 else 1000000) else 1000 * stI (tpI Hc ca k) (tpI Hc ca (bs Hc ca k w)) + 1 + oI H oa (bs Hc ca k w)
theorem stI_0 (h0 : 0 ≤ a) (h1 : a ≤ 198) (h2 : 0 ≤ b) (h3 : b ≤ 198) : 0 ≤ stI a b ∧ stI a b ≤ 198 ∧ (b ≤ a → stI a b ≤ 2) ∧ (a ≤ b → stI a b = b - a) := by
  unfold stI
  by_cases h : a < b
  · rw [if_pos h]
    omega
  · rw [if_neg h]
    by_cases h' : 3 < a - b
    · rw [if_pos h']
      omega
    · rw [if_neg h']
      omega
theorem tpEq (hc : ∀ j, sI H ca j = sI Hc ca j) : tpI H ca k = tpI Hc ca k := by unfold tpI; rw [hc, hc]
theorem cWEq (hc : ∀ j, sI H ca j = sI Hc ca j) : cW H ca = cW Hc ca := by unfold cW; rw [hc]
theorem cHEq (hc : ∀ j, sI H ca j = sI Hc ca j) : cH H ca = cH Hc ca := by unfold cH; rw [hc]
theorem bsEq (hc : ∀ j, sI H ca j = sI Hc ca j) : bs H ca k w = bs Hc ca k w := by unfold bs; rw [cWEq hc, cHEq hc]
theorem gbEq (hc : ∀ j, sI H ca j = sI Hc ca j) : gb H H1 ca oa k w = gb Hc H1 ca oa k w := by
  unfold gb
  rw [bsEq hc, tpEq hc, tpEq hc]
theorem bs_in (h0 : cW H ca ≤ 6) (h1 : cH H ca ≤ 6) : bs H ca k w = -1 ∨ (0 ≤ bs H ca k w ∧ bs H ca k w ≤ 35 ∧ bs H ca k w % 6 < cW H ca ∧ bs H ca k w / 6 < cH H ca) := by
  unfold bs bsI
  by_cases h : 0 ≤ bsX k w ∧ bsX k w < cW H ca ∧ 0 ≤ bsY k w ∧ bsY k w < cH H ca
  · rw [if_pos h]
    right
    omega
  · rw [if_neg h]
    exact Or.inl rfl
/-- to the right -/
theorem bs_r (h0 : 0 ≤ x) (h1 : x < 6) (h2 : 0 ≤ y) (h3 : y < cH H ca) : (x + 1 < cW H ca → bs H ca (6 * y + x) 0 = 6 * y + (x + 1)) ∧ (cW H ca ≤ x + 1 → bs H ca (6 * y + x) 0 = -1) := by
  have hX : bsX (6 * y + x) 0 = x + 1 := by
    unfold bsX
    rw [if_pos rfl]
    omega
  have hY : bsY (6 * y + x) 0 = y := by
    unfold bsY
    rw [if_neg (by decide), if_neg (by decide)]
    omega
  unfold bs bsI
  rw [hX, hY]
  refine ⟨fun h => ?_, fun h => ?_⟩
  · rw [if_pos ⟨by omega, by omega, by omega, by omega⟩]
  · rw [if_neg (fun hh => by have := hh.2.1; omega)]
/-- the sum of all costs -/
def SOn (H : Heap) (oa : Nat) : Nat → Nat
  | 0 => 0
  | n + 1 => SOn H oa n + (sI H oa n).toInt.toNat
theorem SOn.eq (U : Up H H1 oa j v) : ∀ n, n ≤ j → SOn H1 oa n = SOn H oa n
  | 0, _ => rfl
  | n + 1, h => by
    unfold SOn
    rw [SOn.eq U n (by omega), up_nI U (fun hh => by have := hh.2; omega)]
theorem SOn.lt {x : Int32} (U : Up H H1 oa j (.int x)) (hlt : x.toInt.toNat < (sI H oa j).toInt.toNat) : ∀ n, j < n → SOn H1 oa n < SOn H oa n
  | 0, h => absurd h (Nat.not_lt_zero _)
  | n + 1, h => by
    unfold SOn
    by_cases hj : j = n
    · subst hj
      rw [SOn.eq U j (Nat.le_refl _), up_I U]
      omega
    · have := SOn.lt U hlt n (by omega)
      rw [up_nI U (fun hh => by have := hh.2; omega)]
      omega
/-- a cost is that of a way on, or none -/
def Att (Hc H : Heap) (ca oa : Nat) : Prop := ∀ k : Int, 0 ≤ k → k ≤ 35 → oI H oa k = 1000000 ∨ ∃ w, 0 ≤ w ∧ w < 4 ∧ gb Hc H ca oa k w ≤ oI H oa k
theorem Att.far (h : ∀ k : Int, 0 ≤ k → k ≤ 35 → oI H oa k = 1000000) : Att Hc H ca oa := fun k h0 h1 => Or.inl (h k h0 h1)
theorem Att.up {x : Int32} (h : Att Hc H ca oa) (U : Up H H1 oa a.toNat (.int x)) (hx : x.toInt = gb Hc H ca oa a w) (hlt : x.toInt < oI H oa a) (h0 : 0 ≤ a) (w0 : 0 ≤ w) (w1 : w < 4) (hw : cW Hc ca ≤ 6) (hh : cH Hc ca ≤ 6) : Att Hc H1 ca oa := by
  have hle : ∀ i : Int, 0 ≤ i → oI H1 oa i ≤ oI H oa i := fun i hi => by
    by_cases hia : i = a
    · subst hia
      show (sI H1 oa i.toNat).toInt ≤ _
      rw [up_I U]
      omega
    · show (sI H1 oa i.toNat).toInt ≤ (sI H oa i.toNat).toInt
      rw [up_nI U (fun hh => by have := hh.2; omega)]
      exact Int.le_refl _
  have hg : ∀ i u : Int, gb Hc H1 ca oa i u ≤ gb Hc H ca oa i u := fun i u => by
    unfold gb
    by_cases hb : bs Hc ca i u < 0
    · rw [if_pos hb, if_pos hb]
      exact Int.le_refl _
    · rw [if_neg hb, if_neg hb]
      have := hle (bs Hc ca i u) (by omega)
      omega
  intro i hi0 hi1
  by_cases hia : i = a
  · subst hia
    right
    refine ⟨w, w0, w1, ?_⟩
    have e : oI H1 oa i = x.toInt := by
      show (sI H1 oa i.toNat).toInt = _
      rw [up_I U]
    rw [e, hx]
    exact hg i w
  · have e : oI H1 oa i = oI H oa i := by
      show (sI H1 oa i.toNat).toInt = (sI H oa i.toNat).toInt
      rw [up_nI U (fun hh => by have := hh.2; omega)]
    rw [e]
    rcases h i hi0 hi1 with h | ⟨u, u0, u1, h⟩
    · exact Or.inl h
    · exact Or.inr ⟨u, u0, u1, Int.le_trans (hg i u) h⟩
/-- up to a cell's way no cost is more than its way on -/
def FX (Hc H : Heap) (ca oa : Nat) (y x w : Int) : Prop := ∀ yy xx ww : Int, 0 ≤ yy → 0 ≤ xx → xx < cW Hc ca → 0 ≤ ww → ww < 4 → (yy < y ∨ (yy = y ∧ (xx < x ∨ (xx = x ∧ ww < w)))) → oI H oa (6 * yy + xx) ≤ gb Hc H ca oa (6 * yy + xx) ww
theorem FX.nil : FX Hc H ca oa 0 0 0 := fun yy xx ww h0 h1 h2 h3 h4 h => by omega
theorem FX.aw {k : Int} (h : FX Hc H ca oa y x w) (hk : k = 6 * y + x) (hg : oI H oa k ≤ gb Hc H ca oa k w) : FX Hc H ca oa y x (w + 1) := fun yy xx ww h0 h1 h2 h3 h4 hh => by
  by_cases he : yy = y ∧ xx = x ∧ ww = w
  · obtain ⟨rfl, rfl, rfl⟩ := he
    subst hk
    exact hg
  · exact h yy xx ww h0 h1 h2 h3 h4 (by omega)
theorem FX.ax (h : FX Hc H ca oa y x w) (hw : 4 ≤ w) : FX Hc H ca oa y (x + 1) 0 := fun yy xx ww h0 h1 h2 h3 h4 hh => h yy xx ww h0 h1 h2 h3 h4 (by omega)
theorem FX.ay (h : FX Hc H ca oa y x 0) (hx : cW Hc ca ≤ x) : FX Hc H ca oa (y + 1) 0 0 := fun yy xx ww h0 h1 h2 h3 h4 hh => h yy xx ww h0 h1 h2 h3 h4 (by omega)
theorem FX.le {y2 : Int} (h : FX Hc H ca oa y2 0 0) (hy : y ≤ y2) : FX Hc H ca oa y 0 0 := fun yy xx ww h0 h1 h2 h3 h4 hh => h yy xx ww h0 h1 h2 h3 h4 (by omega)
/-- what it costs to come in by a row -/
def en (Hc H : Heap) (ca oa : Nat) (y : Int) : Int := 1000 * stI 0 (tpI Hc ca (6 * y)) + oI H oa (6 * y)
def BB (Hc H : Heap) (ca oa : Nat) (y b : Int) : Prop := (b = 1000000 ∨ ∃ yy, 0 ≤ yy ∧ yy < y ∧ b = en Hc H ca oa yy) ∧ ∀ yy, 0 ≤ yy → yy < y → b ≤ en Hc H ca oa yy
theorem BB.nil : BB Hc H ca oa 0 1000000 := ⟨Or.inl rfl, fun yy h0 h1 => by omega⟩
theorem BB.step {t : Int} (h : BB Hc H ca oa y b) (ha : z ≤ b) (hb : z ≤ t) (hc : z = b ∨ z = t) (ht : t = en Hc H ca oa y) (h0 : 0 ≤ y) : BB Hc H ca oa (y + 1) z := by
  obtain ⟨h1, h2⟩ := h
  refine ⟨?_, fun yy hy0 hy1 => ?_⟩
  · rcases hc with rfl | rfl
    · rcases h1 with h1 | ⟨yy, a0, a1, a2⟩
      · exact Or.inl h1
      · exact Or.inr ⟨yy, a0, by omega, a2⟩
    · exact Or.inr ⟨y, h0, by omega, ht⟩
  · by_cases hy : yy = y
    · subst hy
      omega
    · have := h2 yy hy0 (by omega)
      omega
theorem BB.eq {y2 : Int} (h : BB Hc H ca oa y b) (hy : y = y2) : BB Hc H ca oa y2 b := hy ▸ h
/-- row's costs are less than none -/
theorem RB {n0 : Int} {t o : Int → Int} (ht : ∀ x, 0 ≤ x → x < n0 → 0 ≤ t x ∧ t x ≤ 198) (hs : ∀ x, 0 ≤ x → x + 1 < n0 → o x ≤ 1000 * stI (t x) (t (x + 1)) + 1 + o (x + 1)) (he : o (n0 - 1) ≤ 2001) : ∀ (n : Nat) (x : Int), 0 ≤ x → x + n = n0 - 1 → o x ≤ 1000 * (198 - t x) + 2001 + 101001 * n ∧ o x ≤ 101001 + 101001 * n
  | 0, x, h0, h1 => by
    have hx : x = n0 - 1 := by omega
    subst hx
    have := ht (n0 - 1) h0 (by omega)
    omega
  | n + 1, x, h0, h1 => by
    have ih := RB ht hs he n (x + 1) (by omega) (by omega)
    have a1 := ht x h0 (by omega)
    have a2 := ht (x + 1) (by omega) (by omega)
    have a3 := hs x h0 (by omega)
    have a4 := stI_0 a1.1 a1.2 a2.1 a2.2
    obtain ⟨b1, b2, b3, b4⟩ := a4
    by_cases hlt : t (x + 1) ≤ t x
    · have := b3 hlt
      omega
    · have := b4 (by omega)
      omega
/-- all that the way asks of the costs -/
def WY (Hc H : Heap) (ca oa : Nat) (b : Int) : Prop := (∀ j, sI H ca j = sI Hc ca j) ∧ FX Hc H ca oa (cH Hc ca) 0 0 ∧ Att Hc H ca oa ∧ BB Hc H ca oa (cH Hc ca) b
theorem WY.of (h : WY Hc H ca oa b) (h1 : ∀ j, sI H1 ca j = sI H ca j) (h2 : ∀ j, sI H1 oa j = sI H oa j) : WY Hc H1 ca oa b := by
  have e : ∀ i, oI H1 oa i = oI H oa i := fun i => by unfold oI; rw [h2]
  have eg : ∀ i u, gb Hc H1 ca oa i u = gb Hc H ca oa i u := fun i u => by unfold gb; rw [e]
  have ee : ∀ i, en Hc H1 ca oa i = en Hc H ca oa i := fun i => by unfold en; rw [e]
  obtain ⟨a1, a2, a3, a4⟩ := h
  refine ⟨fun j => (h1 j).trans (a1 j), fun yy xx ww b0 b1 b2 b3 b4 b5 => ?_, fun k k0 k1 => ?_, ?_, fun yy y0 y1 => ?_⟩
  · rw [e, eg]
    exact a2 yy xx ww b0 b1 b2 b3 b4 b5
  · rw [e]
    rcases a3 k k0 k1 with h | ⟨u, u0, u1, h⟩
    · exact Or.inl h
    · exact Or.inr ⟨u, u0, u1, by rw [eg]; exact h⟩
  · rcases a4.1 with h | ⟨yy, y0, y1, h⟩
    · exact Or.inl h
    · exact Or.inr ⟨yy, y0, y1, by rw [ee]; exact h⟩
  · rw [ee]
    exact a4.2 yy y0 y1
theorem WY.ne (h : WY Hc H ca oa b) (U : Up H H1 q j v) (hc : q ≠ ca) (ho : q ≠ oa) : WY Hc H1 ca oa b := h.of (fun _ => up_nI U (fun hh => hc hh.1.symm)) (fun _ => up_nI U (fun hh => ho hh.1.symm))
/-- the heights that there may be -/
def TP (H : Heap) (ca : Nat) : Prop := (∀ k : Int, 0 ≤ k → k ≤ 35 → 0 ≤ tpI H ca k ∧ tpI H ca k ≤ 198) ∧ 0 ≤ cW H ca ∧ cW H ca ≤ 6 ∧ 0 ≤ cH H ca ∧ cH H ca ≤ 6
theorem TP.mk (hC : Conf X Γ H) (hca : Γ ca = some 64) : TP H ca := by
  refine ⟨fun k h0 h1 => ?_, ?_⟩
  · have a1 := c_bd (i := 26 + k) hC hca (by omega) (by omega) (cr_c26 (by omega) (by omega))
    have a2 := c_bd (i := 62 + k) hC hca (by omega) (by omega) (cr_c26 (by omega) (by omega))
    unfold tpI
    omega
  · have a1 := c_bd (i := 0) hC hca (by omega) (by omega) (cr_c0 (by omega) (by omega))
    have a2 := c_bd (i := 1) hC hca (by omega) (by omega) (cr_c0 (by omega) (by omega))
    unfold cW cH
    exact ⟨a1.1, a1.2, a2.1, a2.2⟩
theorem WY.lt (h : WY Hc H ca oa b) (hT : TP Hc ca) (x0 : 0 ≤ x) (x1 : x < cW Hc ca) (y0 : 0 ≤ y) (y1 : y < cH Hc ca) : oI H oa (6 * y + x) ≤ 606006 := by
  obtain ⟨hT1, hT2, hT3, hT4, hT5⟩ := hT
  have hb := RB (n0 := cW Hc ca) (t := fun x => tpI Hc ca (6 * y + x)) (o := fun x => oI H oa (6 * y + x)) (fun x h0 h1 => hT1 _ (by omega) (by omega)) (fun x h0 h1 => by
      have := h.2.1 y x 0 y0 h0 (by omega) (by omega) (by omega) (Or.inl y1)
      unfold gb at this
      have e := (bs_r (H := Hc) (ca := ca) (x := x) (y := y) h0 (by omega) y0 y1).1 h1
      rw [e, if_neg (by omega)] at this
      exact this) (by
      have := h.2.1 y (cW Hc ca - 1) 0 y0 (by omega) (by omega) (by omega) (by omega) (Or.inl y1)
      unfold gb at this
      have e := (bs_r (H := Hc) (ca := ca) (x := cW Hc ca - 1) (y := y) (by omega) (by omega) y0 y1).2 (by omega)
      rw [e, if_pos (by omega), if_pos rfl] at this
      have h3 := hT1 (6 * y + (cW Hc ca - 1)) (by omega) (by omega)
      have h4 := (stI_0 h3.1 h3.2 (b := 0) (by omega) (by omega)).2.2.1 h3.1
      show oI H oa (6 * y + (cW Hc ca - 1)) ≤ 2001
      omega) (cW Hc ca - 1 - x).toNat x x0 (by omega)
  have h2 : oI H oa (6 * y + x) ≤ 101001 + 101001 * ((cW Hc ca - 1 - x).toNat : Int) := hb.2
  omega
theorem WY.row (h : WY Hc H ca oa b) (hT : TP Hc ca) (hw : 1 ≤ cW Hc ca) (hh : 1 ≤ cH Hc ca) : ∃ y0, 0 ≤ y0 ∧ y0 < cH Hc ca ∧ en Hc H ca oa y0 = b := by
  rcases h.2.2.2.1 with hb | ⟨y0, a0, a1, a2⟩
  · have h1 := h.2.2.2.2 0 (by omega) (by omega)
    have h2 := WY.lt h hT (x := 0) (y := 0) (by omega) (by omega) (by omega) (by omega)
    have h3 := hT.1 0 (by omega) (by omega)
    have h4 := (stI_0 (a := 0) (b := tpI Hc ca 0) (by omega) (by omega) h3.1 h3.2).2.1
    unfold en at h1
    have e : (6 * 0 : Int) = 0 := rfl
    rw [e] at h1
    have e2 : (6 * 0 + 0 : Int) = 0 := rfl
    rw [e2] at h2
    omega
  · exact ⟨y0, a0, a1, a2.symm⟩
/-- a cell's way on -/
theorem WY.on (h : WY Hc H ca oa b) (hT : TP Hc ca) (k0 : 0 ≤ k) (k1 : k ≤ 35) (kx : k % 6 < cW Hc ca) (ky : k / 6 < cH Hc ca) : ∃ w, 0 ≤ w ∧ w < 4 ∧ gb Hc H ca oa k w = oI H oa k := by
  have e : 6 * (k / 6) + k % 6 = k := by omega
  have hlt := WY.lt h hT (x := k % 6) (y := k / 6) (by omega) kx (by omega) ky
  rw [e] at hlt
  rcases h.2.2.1 k k0 k1 with h1 | ⟨w, w0, w1, h1⟩
  · omega
  · refine ⟨w, w0, w1, ?_⟩
    have h2 := h.2.1 (k / 6) (k % 6) w (by omega) (by omega) kx w0 w1 (Or.inl ky)
    rw [e] at h2
    omega
/-- the next cell of a way: less costs, or none -/
theorem WY.next (h : WY Hc H ca oa b) (hT : TP Hc ca) (k0 : 0 ≤ k) (k1 : k ≤ 35) (kx : k % 6 < cW Hc ca) (ky : k / 6 < cH Hc ca) (hg : gb Hc H ca oa k w = oI H oa k) : bs Hc ca k w = -1 ∨ (0 ≤ bs Hc ca k w ∧ bs Hc ca k w ≤ 35 ∧ bs Hc ca k w % 6 < cW Hc ca ∧ bs Hc ca k w / 6 < cH Hc ca ∧ oI H oa (bs Hc ca k w) < oI H oa k) := by
  rcases bs_in (H := Hc) (ca := ca) (k := k) (w := w) hT.2.2.1 hT.2.2.2.2 with hb | ⟨b1, b2, b3, b4⟩
  · exact Or.inl hb
  · refine Or.inr ⟨b1, b2, b3, b4, ?_⟩
    unfold gb at hg
    rw [if_neg (by omega)] at hg
    have t1 := hT.1 k k0 k1
    have t2 := hT.1 _ b1 b2
    have := (stI_0 t1.1 t1.2 t2.1 t2.2).1
    omega
/-- how many cells cost more -/
def cnt (H : Heap) (oa : Nat) (b : Int) : Nat → Nat
  | 0 => 0
  | n + 1 => cnt H oa b n + (if b < (sI H oa n).toInt then 1 else 0)
theorem cnt_le (H : Heap) (oa : Nat) (b : Int) : ∀ n, cnt H oa b n ≤ n
  | 0 => Nat.le_refl _
  | n + 1 => by
    have := cnt_le H oa b n
    unfold cnt
    split <;> omega
theorem cnt_mono {b2 : Int} (hb : b2 ≤ b) : ∀ n, cnt H oa b n ≤ cnt H oa b2 n
  | 0 => Nat.le_refl _
  | n + 1 => by
    have := cnt_mono hb n
    unfold cnt
    split <;> split <;> omega
theorem cnt_lt {b2 : Int} (hb : b2 < b) {i : Nat} (hi : (sI H oa i).toInt = b) : ∀ n, i < n → cnt H oa b n + 1 ≤ cnt H oa b2 n
  | 0, h => absurd h (Nat.not_lt_zero _)
  | n + 1, h => by
    unfold cnt
    by_cases hin : i = n
    · subst hin
      have := cnt_mono (H := H) (oa := oa) (b := b) (b2 := b2) (by omega) i
      rw [hi, if_neg (by omega), if_pos hb]
      omega
    · have := cnt_lt hb hi n (by omega)
      split <;> split <;> omega
theorem cnt_top {i : Nat} (hi : (sI H oa i).toInt = b) : ∀ n, i < n → cnt H oa b n + 1 ≤ n
  | 0, h => absurd h (Nat.not_lt_zero _)
  | n + 1, h => by
    unfold cnt
    by_cases hin : i = n
    · subst hin
      have := cnt_le H oa b i
      rw [hi, if_neg (by omega)]
      omega
    · have := cnt_top hi n (by omega)
      split <;> omega
theorem cnt_eq {H1 : Heap} (h2 : ∀ j, sI H1 oa j = sI H oa j) : ∀ n, cnt H1 oa b n = cnt H oa b n
  | 0 => rfl
  | n + 1 => by
    unfold cnt
    rw [cnt_eq h2 n, h2]
/-- the way's measure, and what its row holds -/
def mz (H : Heap) (oa : Nat) (k : Int) : Nat := if k < 0 then 0 else (oI H oa k).toNat + 1
def CN (H : Heap) (oa : Nat) (k n : Int) : Prop := 0 ≤ k → n ≤ (cnt H oa (oI H oa k) 36 : Int)
theorem CN.ne {n : Int} (h : CN H oa k n) (U : Up H H1 q j v) (ho : q ≠ oa) : CN H1 oa k n := fun hk => by
  have e : ∀ j, sI H1 oa j = sI H oa j := fun _ => up_nI U (fun hh => ho hh.1.symm)
  rw [cnt_eq e]
  unfold oI
  rw [e]
  exact h hk
theorem CN.lt {n : Int} (h : CN H oa k n) (k0 : 0 ≤ k) (k1 : k ≤ 35) : n ≤ 35 := by
  have h1 := h k0
  have h2 := cnt_top (H := H) (oa := oa) (b := oI H oa k) (i := k.toNat) rfl 36 (by omega)
  omega
theorem CN.next {n k2 : Int} (h : CN H oa k n) (k0 : 0 ≤ k) (k1 : k ≤ 35) (hlt : k2 = -1 ∨ (0 ≤ k2 ∧ oI H oa k2 < oI H oa k)) : CN H oa k2 (n + 1) := fun hk => by
  have h1 := h k0
  rcases hlt with hl | ⟨-, hl⟩
  · omega
  · have h2 := cnt_lt (H := H) (oa := oa) (b := oI H oa k) (b2 := oI H oa k2) hl (i := k.toNat) rfl 36 (by omega)
    omega
theorem mz_lt {k2 : Int} (k0 : 0 ≤ k) (ho : 0 ≤ oI H oa k) (ho2 : 0 ≤ k2 → 0 ≤ oI H oa k2) (hlt : k2 = -1 ∨ (0 ≤ k2 ∧ oI H oa k2 < oI H oa k)) : mz H oa k2 < mz H oa k := by
  unfold mz
  rw [if_neg (show ¬ k < 0 by omega)]
  rcases hlt with hl | ⟨hl0, hl⟩
  · rw [if_pos (by omega)]
    omega
  · have := ho2 hl0
    rw [if_neg (by omega)]
    omega
theorem mz_eq (h2 : ∀ j, sI H1 oa j = sI H oa j) : mz H1 oa k = mz H oa k := by
  unfold mz oI
  rw [h2]
def MZ (H : Heap) (oa : Nat) (k : Int) (n : Nat) : Prop := mz H oa k = n
theorem MZ.ne {n : Nat} (h : MZ H oa k n) (U : Up H H1 q j v) (ho : q ≠ oa) : MZ H1 oa k n := (mz_eq (fun _ => up_nI U (fun hh => ho hh.1.symm))).trans h
theorem CN.eq {n n2 : Int} (h : CN H oa k n) (hn : n = n2) : CN H oa k n2 := hn ▸ h
def OF (H : Heap) (oa : Nat) (k : Int) : Prop := ∀ i : Int, 0 ≤ i → i < k → oI H oa i = 1000000
theorem OF.nil : OF H oa 0 := fun i h0 h1 => by omega
theorem OF.step {x : Int32} (h : OF H oa k) (U : Up H H1 oa a.toNat (.int x)) (hx : x.toInt = 1000000) (ha : a = k) (h0 : 0 ≤ k) : OF H1 oa (k + 1) := fun i h1 h2 => by
  subst ha
  by_cases hi : i = a
  · subst hi
    show (sI H1 oa i.toNat).toInt = _
    rw [up_I U]
    exact hx
  · show (sI H1 oa i.toNat).toInt = _
    rw [up_nI U (fun hh => by have := hh.2; omega)]
    exact h i h1 (by omega)
theorem o_bd (hC : Conf X Γ H) (hoa : Γ oa = some 68) (h0 : 0 ≤ k) (h1 : k ≤ 35) : 0 ≤ oI H oa k ∧ oI H oa k ≤ 1000000 := by
  obtain ⟨z, k1, k2⟩ := (hC oa 68 hoa).arr (t := 1) (n := 36) (F := fun _ => (0, 0, 1000000)) rfl rfl
  have hlt : k.toNat < 36 := by omega
  obtain ⟨i, hv, h2, h3⟩ := k2 k.toNat hlt
  have h4 : (arrV (X.2 1) 36 z).slots[k.toNat]? = some (z k.toNat) := arrV_read _ _ hlt
  unfold oI sI sv
  rw [k1, Option.bind_some, h4, hv]
  exact ⟨h2, h3⟩
end FR8
section FRO
variable {p : Program} {l : Launch} {e : Env} {R : Room} {s : State} {m : MethodId} {args : Array Value} {below : List Frame} {meth : Method} {c : Code} {H H0 : Heap} {locs : List Loc} {Q : State → Prop}
variable {cc : ByteArray} {pc mL : Nat} {own : String} {ret : Option FieldType} {ls : Array Slot} {rest : List Value} {X : xW} {Γ : Nat → Option Nat}
theorem q_oald (E : Ev p s m args meth c cc mL own ret X Γ H0) (hC : Conf X Γ H) {oa : Nat} {a : Int} {i : Int32} (hoa : Γ oa = some 68) (ha : i.toInt = a) (h0 : 0 ≤ a) (h1 : a < 36) (hdg : decode cc pc = .ok (.iaload, 1))
    (kk : ∀ v : Int32, sI H oa a.toNat = v → (0 : Int) ≤ v.toInt → v.toInt ≤ 1000000 → W p l e R s m args below meth c H locs 0 0 Q (F0 m (pc + 1) ls (.int v :: rest))) : W p l e R s m args below meth c H locs 0 0 Q (F0 m pc ls (.int i :: .ref oa :: rest)) :=
  q_iald E hC hoa rfl rfl (lo := 0) (hi := 1000000) (fun _ h => h) (i_in ha h0 h1) hdg (by rw [i_ix ha]; exact kk)
theorem q_oast (E : Ev p s m args meth c cc mL own ret X Γ H0) (hC : Conf X Γ H) (hS : va_S (AΓ Γ) H0 H locs) {oa : Nat} {a : Int} {i x : Int32} (hoa : Γ oa = some 68) (ha : i.toInt = a) (h0 : 0 ≤ a) (h1 : a < 36) (hv : tv Γ (0, 0, 1000000) (.int x)) (hdg : decode cc pc = .ok (.iastore, 1))
    (kk : ∀ (H1 : Heap) (locs1 : List Loc), Conf X Γ H1 → va_S (AΓ Γ) H0 H1 locs1 → Up H H1 oa a.toNat (.int x) → W p l e R s m args below meth c H1 locs1 0 0 Q (F0 m (pc + 1) ls rest)) : W p l e R s m args below meth c H locs 0 0 Q (F0 m pc ls (.int x :: .int i :: .ref oa :: rest)) :=
  q_iast E hC hS hoa (by decide) rfl rfl (i_in ha h0 h1) hv hdg (by rw [i_ix ha]; exact kk)
end FRO
-- blocks copied, the yard's start, what is kept and put back
section FR9
variable {X : xW} {Γ : Nat → Option Nat} {H H0 H1 : Heap} {ca ka q j : Nat} {v : Value} {gs : List Nat} {a b k x y lo hi : Int}
theorem EQ.kn {i x : Int} (h : EQ H ca i x) (hk : Kp X Γ gs H H1) (hca : Γ ca = some 64) (h17 : gs.contains 17 = true) (hd : dpn i.toNat) : EQ H1 ca i x := (congrArg Int32.toInt (kp_n hk hca h17 hd)).trans h
def CPX (H0 H : Heap) (ca : Nat) (src dst k : Int) : Prop := (∀ i : Int, 0 ≤ i → i < k → sI H ca (dst + i).toNat = sI H0 ca (src + i).toNat) ∧ ∀ j : Nat, (j : Int) < 2600 → ((j : Int) < dst ∨ dst + 520 ≤ (j : Int)) → sI H ca j = sI H0 ca j
theorem CPX.nil {src dst : Int} : CPX H H ca src dst 0 := ⟨fun i h0 h1 => absurd h0 (by omega), fun _ _ _ => rfl⟩
theorem CPX.step {src dst : Int} {x : Int32} (h : CPX H0 H ca src dst k) (U : Up H H1 ca a.toNat (.int x)) (ha : a = dst + k) (hx : sI H ca (src + k).toNat = x) (hs : src + k < dst ∨ dst + 520 ≤ src + k) (h0 : 0 ≤ src) (hd : 0 ≤ dst) (k0 : 0 ≤ k) (k1 : k < 520) (hb : src + k < 2600) : CPX H0 H1 ca src dst (k + 1) := by
  subst ha
  refine ⟨fun i i0 i1 => ?_, fun j j0 j1 => ?_⟩
  · by_cases hi : i = k
    · subst hi
      rw [up_I U, ← hx]
      exact h.2 _ (by omega) (by omega)
    · rw [up_nI U (fun hh => by have := hh.2; omega)]
      exact h.1 i i0 (by omega)
  · rw [up_nI U (fun hh => by have := hh.2; omega)]
    exact h.2 j j0 j1
theorem CPX.ne {src dst : Int} (h : CPX H0 H ca src dst k) (U : Up H H1 q j v) (hne : q ≠ ca) : CPX H0 H1 ca src dst k := ⟨fun i i0 i1 => (up_nI U (fun hh => hne hh.1.symm)).trans (h.1 i i0 i1), fun j j0 j1 => (up_nI U (fun hh => hne hh.1.symm)).trans (h.2 j j0 j1)⟩
theorem CPX.of {src dst : Int} {Hb : Heap} (hb : KB H0 Hb ca 2600) (h : CPX Hb H ca src dst k) (h0 : 0 ≤ src) (h1 : src + k ≤ 2600) : CPX H0 H ca src dst k := ⟨fun i i0 i1 => (h.1 i i0 i1).trans (hb _ (by omega)), fun j j0 j1 => (h.2 j j0 j1).trans (hb j j0)⟩
theorem CPX.eq {src dst src2 dst2 k2 : Int} (h : CPX H0 H ca src dst k) (h1 : src = src2) (h2 : dst = dst2) (h3 : k = k2) : CPX H0 H ca src2 dst2 k2 := by
  subst h1; subst h2; subst h3; exact h
/-- a yard just read -/
def YI (H : Heap) (ca : Nat) : Prop := 2 ≤ (sI H ca (0 : Int).toNat).toInt ∧ 1 ≤ (sI H ca (1 : Int).toNat).toInt ∧ UH H ca ∧ (sI H ca (243 : Int).toNat).toInt = 0
theorem YI.mk (hC : Conf X Γ H) (hca : Γ ca = some 64) (hc : CPd H ca 2080 0 k) (hk : 520 ≤ k) (n0 : EQ H ca 2080 x) (n1 : EQ H ca 2081 y) (hxy : 2 ≤ x ∧ 1 ≤ y) : YI H ca := by
  have e : ∀ i : Int, 0 ≤ i → i < 520 → sI H ca i.toNat = sI H ca (2080 + i).toNat := fun i h0 h1 => by
    have := hc i h0 (by omega)
    rwa [Int.zero_add] at this
  have b14 := c_bd (i := 2094) hC hca (by omega) (by omega) (cr_n14 (by omega) (by omega))
  have b15 := c_bd (i := 2095) hC hca (by omega) (by omega) (cr_n14 (by omega) (by omega))
  have b12 := c_bd (i := 12) hC hca (by omega) (by omega) (cr_c12 (by omega) (by omega))
  have b13 := c_bd (i := 13) hC hca (by omega) (by omega) (cr_c12 (by omega) (by omega))
  have b243 := c_bd (i := 2323) hC hca (by omega) (by omega) (cr_n243 (by omega) (by omega))
  have n0 : (sI H ca (2080 : Int).toNat).toInt = x := n0
  have n1 : (sI H ca (2081 : Int).toNat).toInt = y := n1
  have e0 : sI H ca (0 : Int).toNat = sI H ca (2080 : Int).toNat := e 0 (by omega) (by omega)
  have e1 : sI H ca (1 : Int).toNat = sI H ca (2081 : Int).toNat := e 1 (by omega) (by omega)
  have e14 : sI H ca (14 : Int).toNat = sI H ca (2094 : Int).toNat := e 14 (by omega) (by omega)
  have e15 : sI H ca (15 : Int).toNat = sI H ca (2095 : Int).toNat := e 15 (by omega) (by omega)
  have e243 : sI H ca (243 : Int).toNat = sI H ca (2323 : Int).toNat := e 243 (by omega) (by omega)
  refine ⟨by rw [e0]; omega, by rw [e1]; omega, fun t h0 h1 => ?_, by rw [e243]; omega⟩
  rcases (show t = 0 ∨ t = 1 by omega) with rfl | rfl
  · show (sI H ca (14 : Int).toNat).toInt ≤ (sI H ca (12 : Int).toNat).toInt
    rw [e14]; omega
  · show (sI H ca (15 : Int).toNat).toInt ≤ (sI H ca (13 : Int).toNat).toInt
    rw [e15]; omega
theorem UH.kd (h : UH H ca) (hk : KD H H1 ca 0 0) : UH H1 ca := fun t h0 h1 => by
  rw [hk (14 + t).toNat (by omega) (Or.inr (by unfold dpu; omega)), hk (12 + t).toNat (by omega) (Or.inl (by unfold dpc; omega))]
  exact h t h0 h1
/-- kept holds c's first k -/
def KQ (H0 H : Heap) (ca ka : Nat) (k : Int) : Prop := ∀ i : Int, 0 ≤ i → i < k → sI H ka i.toNat = sI H0 ca i.toNat
theorem KQ.nil : KQ H0 H ca ka 0 := fun i h0 h1 => absurd h0 (by omega)
theorem KQ.step {x : Int32} (h : KQ H0 H ca ka k) (U : Up H H1 ka a.toNat (.int x)) (ha : a = k) (hx : sI H0 ca a.toNat = x) (k0 : 0 ≤ k) : KQ H0 H1 ca ka (k + 1) := fun i i0 i1 => by
  subst ha
  by_cases hi : i = a
  · subst hi
    rw [up_I U, hx]
  · rw [up_nI U (fun hh => by have := hh.2; omega)]
    exact h i i0 (by omega)
theorem KQ.ne (h : KQ H0 H ca ka k) (U : Up H H1 q j v) (hne : q ≠ ka) : KQ H0 H1 ca ka k := fun i i0 i1 => (up_nI U (fun hh => hne hh.1.symm)).trans (h i i0 i1)
theorem KQ.kp (h : KQ H0 H ca ka k) (hk : Kp X Γ gs H H1) (gka : Γ ka = some 65) (h11 : gs.contains 11 = true) : KQ H0 H1 ca ka k := fun i i0 i1 => by
  have := hk ka 65 gka i.toNat (Or.inr (Or.inr (Or.inr (show (gs.any fun g => gF g 65 0) = true from List.any_eq_true.mpr ⟨11, by simpa using h11, rfl⟩))))
  rw [← h i i0 i1]
  simp [sI, this]
theorem KQ.mono {k2 : Int} (h : KQ H0 H ca ka k) (hk : k2 ≤ k) : KQ H0 H ca ka k2 := fun i i0 i1 => h i i0 (by omega)
def KC (H H1 : Heap) (ca : Nat) : Prop := ∀ j : Nat, dpc j → sI H1 ca j = sI H ca j
theorem KC.mk (h : KD H0 H ca 0 0) (hk : Kp X Γ gs H H1) (hca : Γ ca = some 64) (h10 : gs.contains 10 = true) : KC H0 H1 ca := fun j hj => (kp_d hk hca h10 hj).trans (h j (by omega) (Or.inl hj))
theorem KC.kp (h : KC H0 H ca) (hk : Kp X Γ gs H H1) (hca : Γ ca = some 64) (h10 : gs.contains 10 = true) : KC H0 H1 ca := fun j hj => (kp_d hk hca h10 hj).trans (h j hj)
theorem KC.ne (h : KC H0 H ca) (U : Up H H1 q j v) (hne : q ≠ ca) : KC H0 H1 ca := fun j hj => (up_nI U (fun hh => hne hh.1.symm)).trans (h j hj)
def RSI (H0 H : Heap) (ca : Nat) (k : Int) : Prop := KC H0 H ca ∧ ∀ i : Int, 0 ≤ i → i < k → sI H ca i.toNat = sI H0 ca i.toNat
theorem RSI.nil (h : KC H0 H ca) : RSI H0 H ca 0 := ⟨h, fun i h0 h1 => absurd h0 (by omega)⟩
theorem RSI.step {x : Int32} (h : RSI H0 H ca k) (U : Up H H1 ca a.toNat (.int x)) (hx : sI H0 ca a.toNat = x) (ha : a = k) (k0 : 0 ≤ k) : RSI H0 H1 ca (k + 1) := by
  subst ha
  refine ⟨fun j hj => ?_, fun i i0 i1 => ?_⟩
  · by_cases hi : j = a.toNat
    · subst hi
      rw [up_I U, hx]
    · rw [up_nI U (fun hh => hi hh.2)]
      exact h.1 j hj
  · by_cases hi : i = a
    · subst hi
      rw [up_I U, hx]
    · rw [up_nI U (fun hh => by have := hh.2; omega)]
      exact h.2 i i0 (by omega)
theorem RSI.fin (h : RSI H0 H ca k) (hk : 16 ≤ k) : KD H0 H ca 0 0 := fun j _ hd => by
  rcases hd with hd | hd
  · exact h.1 j hd
  · have := h.2 (j : Int) (by omega) (by unfold dpu at hd; omega)
    simpa using this
theorem cT_B {v : Value} (h0 : 0 ≤ a) (h1 : a < 520) (h : tv Γ (cTy a.toNat) v) : tv Γ (cB a.toNat) v := by
  have e : cTy a.toNat = cB a.toNat := by
    unfold cTy
    rw [if_pos (by omega), Nat.mod_eq_of_lt (by omega)]
  exact e ▸ h
theorem cB_T {v : Value} (h0 : 0 ≤ a) (h1 : a < 520) (h : tv Γ (cB a.toNat) v) : tv Γ (cTy a.toNat) v := by
  have e : cTy a.toNat = cB a.toNat := by
    unfold cTy
    rw [if_pos (by omega), Nat.mod_eq_of_lt (by omega)]
  exact e.symm ▸ h
end FR9
section FRK
variable {p : Program} {l : Launch} {e : Env} {R : Room} {s : State} {m : MethodId} {args : Array Value} {below : List Frame} {meth : Method} {c : Code} {H H0 : Heap} {locs : List Loc} {Q : State → Prop}
variable {cc : ByteArray} {pc mL : Nat} {own : String} {ret : Option FieldType} {ls : Array Slot} {rest : List Value} {X : xW} {Γ : Nat → Option Nat}
theorem k_get {ka : Nat} {a : Int} (hC : Conf X Γ H) (gka : Γ ka = some 65) (h0 : 0 ≤ a) (h1 : a < 242) : ∃ v : Int32, sI H ka a.toNat = v ∧ tv Γ (cB a.toNat) (.int v) := by
  obtain ⟨z, k1, k2⟩ := (hC ka 65 gka).arr (t := 1) (n := 242) (F := cB) rfl rfl
  have hlt : a.toNat < 242 := by omega
  have h := k2 a.toNat hlt
  obtain ⟨v, hv, -⟩ := cT_anyB h
  have h4 : (arrV (X.2 1) 242 z).slots[a.toNat]? = some (z a.toNat) := arrV_read _ _ hlt
  have h5 : sv H ka a.toNat = some (.int v) := by
    unfold sv
    rw [k1, Option.bind_some, h4, hv]
  refine ⟨v, ?_, hv ▸ h⟩
  unfold sI
  rw [h5]
theorem q_kald (E : Ev p s m args meth c cc mL own ret X Γ H0) (hC : Conf X Γ H) {ka : Nat} {a : Int} {i : Int32} (gka : Γ ka = some 65) (ha : i.toInt = a) (h0 : 0 ≤ a) (h1 : a < 242) (hdg : decode cc pc = .ok (.iaload, 1))
    (kk : ∀ v : Int32, sI H ka a.toNat = v → tv Γ (cB a.toNat) (.int v) → W p l e R s m args below meth c H locs 0 0 Q (F0 m (pc + 1) ls (.int v :: rest))) : W p l e R s m args below meth c H locs 0 0 Q (F0 m pc ls (.int i :: .ref ka :: rest)) := by
  obtain ⟨v, e1, e2⟩ := k_get hC gka h0 h1
  exact q_iald E hC gka rfl rfl (lo := -2147483648) (hi := 2147483647) (fun _ h => cT_anyB h) (i_in ha h0 h1) hdg (by rw [i_ix ha]; exact fun w hw _ _ => kk w hw (by rw [← hw, e1]; exact e2))
theorem q_kast (E : Ev p s m args meth c cc mL own ret X Γ H0) (hC : Conf X Γ H) (hS : va_S (AΓ Γ) H0 H locs) {ka : Nat} {a : Int} {i x : Int32} (gka : Γ ka = some 65) (ha : i.toInt = a) (h0 : 0 ≤ a) (h1 : a < 242) (hv : tv Γ (cB a.toNat) (.int x)) (hdg : decode cc pc = .ok (.iastore, 1))
    (kk : ∀ (H1 : Heap) (locs1 : List Loc), Conf X Γ H1 → va_S (AΓ Γ) H0 H1 locs1 → Up H H1 ka a.toNat (.int x) → W p l e R s m args below meth c H1 locs1 0 0 Q (F0 m (pc + 1) ls rest)) : W p l e R s m args below meth c H locs 0 0 Q (F0 m pc ls (.int x :: .int i :: .ref ka :: rest)) :=
  q_iast E hC hS gka (by decide) rfl rfl (i_in ha h0 h1) (by rw [i_ix ha]; exact hv) hdg (by rw [i_ix ha]; exact kk)
end FRK
