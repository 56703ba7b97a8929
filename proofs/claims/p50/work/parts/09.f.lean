-- trays: the class's row of four, the reference's rows
section FRT
variable {X : xW} {Γ : Nat → Option Nat} {H H0 H1 H2 : Heap} {gs : List Nat} {ta x1 tm ts : Nat} {td nd : Nat → Nat} {t n s : Int}
theorem kp_R (h : Kp X Γ gs H H1) {a r ci k : Nat} {fts : List xT} (g : Γ a = some r) (hr : kO r = some (ci, fts)) (hk : k < fts.length) (hp : (gs.any fun g => gF g r k) = true) : sR H1 a (X.1.2 ci k) = sR H a (X.1.2 ci k) := by
  have h2 := h a r g (X.1.2 ci k) (by unfold pr; rw [hr]; exact Or.inr (Or.inr (Or.inr ⟨k, hk, hp, rfl⟩)))
  simp [sR, h2]
theorem kp_a (h : Kp X Γ gs H H1) {a r : Nat} (j : Nat) (g : Γ a = some r) (hr : kO r = none) (hp : (gs.any fun g => gF g r 0) = true) : sv H1 a j = sv H a j :=
  h a r g j (by unfold pr; rw [hr]; exact Or.inr (Or.inr (Or.inr hp)))
theorem kp_aI (h : Kp X Γ gs H H1) {a r : Nat} (j : Nat) (g : Γ a = some r) (hr : kO r = none) (hp : (gs.any fun g => gF g r 0) = true) : sI H1 a j = sI H a j := by
  simp [sI, kp_a h j g hr hp]
theorem kp_aR (h : Kp X Γ gs H H1) {a r : Nat} (j : Nat) (g : Γ a = some r) (hr : kO r = none) (hp : (gs.any fun g => gF g r 0) = true) : sR H1 a j = sR H a j := by
  simp [sR, kp_a h j g hr hp]
theorem gs_any {g r k : Nat} (h : gs.contains g = true) (hg : gF g r k = true) : (gs.any fun q => gF q r k) = true := List.any_eq_true.mpr ⟨g, by simpa using h, hg⟩
theorem cp_I {a b j : Nat} (U : Cp H H1 b) (hb : a ≠ b) : sI H1 a j = sI H a j := by simp [sI, U a hb j]
end FRT
section FRV
variable {p : Program} {l : Launch} {e : Env} {R : Room} {s : State} {m : MethodId} {args : Array Value} {below : List Frame} {meth : Method} {c : Code} {H H0 : Heap} {locs : List Loc} {Q : State → Prop}
variable {cc : ByteArray} {pc mL : Nat} {own : String} {ret : Option FieldType} {ls : Array Slot} {rest : List Value} {X : xW} {Γ : Nat → Option Nat} {kc ks : Nat}
theorem q_getS (E : Ev p s m args meth c cc mL own ret X Γ H0) (hC : Conf X Γ H) {a r ci k index k2 q0 : Nat} {hi : Int} (ha : Γ a = some r) (hf : FA own index r ci k (k2 + 2, 0, hi)) (hs : sR H a (X.1.2 ci k) = some q0) (hdg : decode cc pc = .ok (.getfield index, 3))
    (kk : Γ q0 = some k2 → W p l e R s m args below meth c H locs kc ks Q (F0 m (pc + 3) ls (.ref q0 :: rest))) : W p l e R s m args below meth c H locs kc ks Q (F0 m pc ls (.ref a :: rest)) :=
  q_getR E hC ha hf hdg (fun q e g => by cases Option.some.inj (e.symm.trans hs); exact kk g)
theorem q_aaldS (E : Ev p s m args meth c cc mL own ret X Γ H0) (hC : Conf X Γ H) {a r n t k2 q0 : Nat} {hi : Int} {C : String} {i : Int32} (ha : Γ a = some r) (hr : kO r = none) {F : Nat → xT} (hA : kA r = some (t, n, F)) (hF : ∀ j, F j = (k2 + 2, 0, hi)) (ht : (xty X)[t]? = some (X.2 t, .object C)) {z : Int} (ez : i.toInt = z) (h0 : 0 ≤ z) (h1 : z < n) (hs : sR H a z.toNat = some q0) (hdg : decode cc pc = .ok (.aaload, 1))
    (kk : Γ q0 = some k2 → W p l e R s m args below meth c H locs kc ks Q (F0 m (pc + 1) ls (.ref q0 :: rest))) : W p l e R s m args below meth c H locs kc ks Q (F0 m pc ls (.int i :: .ref a :: rest)) :=
  q_aald E hC ha hr hA hF ht (i_in ez h0 h1) hdg (fun q e g => by rw [i_ix ez] at e; cases Option.some.inj (e.symm.trans hs); exact kk g)
theorem q_tald (E : Ev p s m args meth c cc mL own ret X Γ H0) (hC : Conf X Γ H) {q r n : Nat} {lo hi : Int} {i : Int32} (hq : Γ q = some r) (hr : kO r = none) {F : Nat → xT} (hA : kA r = some (1, n, F)) {a : Int} (hF : ∀ v, tv Γ (F a.toNat) v → tv Γ (0, lo, hi) v) (ha : i.toInt = a) (h0 : 0 ≤ a) (h1 : a < n) (hdg : decode cc pc = .ok (.iaload, 1))
    (kk : ∀ v : Int32, sI H q a.toNat = v → lo ≤ v.toInt → v.toInt ≤ hi → W p l e R s m args below meth c H locs kc ks Q (F0 m (pc + 1) ls (.int v :: rest))) : W p l e R s m args below meth c H locs kc ks Q (F0 m pc ls (.int i :: .ref q :: rest)) :=
  q_iald E hC hq hr hA (by rw [i_ix ha]; exact hF) (i_in ha h0 h1) hdg (by rw [i_ix ha]; exact kk)
theorem q_tast (E : Ev p s m args meth c cc mL own ret X Γ H0) (hC : Conf X Γ H) (hS : va_S (AΓ Γ) H0 H locs) {q r n : Nat} {i x : Int32} {t : Nat → xT} (hq : Γ q = some r) (hw : r ≠ 12) (hr : kO r = none) (hA : kA r = some (1, n, t)) {a : Int} (ha : i.toInt = a) (h0 : 0 ≤ a) (h1 : a < n) (hv : tv Γ (t a.toNat) (.int x)) (hdg : decode cc pc = .ok (.iastore, 1))
    (kk : ∀ (H1 : Heap) (locs1 : List Loc), Conf X Γ H1 → va_S (AΓ Γ) H0 H1 locs1 → Up H H1 q a.toNat (.int x) → W p l e R s m args below meth c H1 locs1 kc ks Q (F0 m (pc + 1) ls rest)) : W p l e R s m args below meth c H locs kc ks Q (F0 m pc ls (.int x :: .int i :: .ref q :: rest)) :=
  q_iast E hC hS hq hw hr hA (i_in ha h0 h1) (by rw [i_ix ha]; exact hv) hdg (by rw [i_ix ha]; exact kk)
end FRV
section FRTL
variable {X : xW} {Γ : Nat → Option Nat} {H H0 H1 H2 : Heap} {gs : List Nat} {ta x1 tm ts : Nat} {td nd : Nat → Nat} {t n s : Int}
end FRTL

-- numbers in trays
section FRN
variable {X : xW} {Γ : Nat → Option Nat} {H H0 H1 H2 : Heap} {gs : List Nat} {ta x1 tm ts na : Nat} {td nd : Nat → Nat} {t n s : Int} {f g h : Nat → Nat → Int64}
theorem kp_aJ (h : Kp X Γ gs H H1) {a r : Nat} (j : Nat) (g : Γ a = some r) (hr : kO r = none) (hp : (gs.any fun g => gF g r 0) = true) : sJ H1 a j = sJ H a j := by
  simp [sJ, kp_a h j g hr hp]
theorem cp_J {a b j : Nat} (U : Cp H H1 b) (hb : a ≠ b) : sJ H1 a j = sJ H a j := by simp [sJ, U a hb j]
theorem cp_R {a b j : Nat} (U : Cp H H1 b) (hb : a ≠ b) : sR H1 a j = sR H a j := by simp [sR, U a hb j]
end FRN
section FRN2
variable {p : Program} {l : Launch} {e : Env} {R : Room} {s : State} {m : MethodId} {args : Array Value} {below : List Frame} {meth : Method} {c : Code} {H H0 : Heap} {locs : List Loc} {Q : State → Prop}
variable {cc : ByteArray} {pc mL : Nat} {own : String} {ret : Option FieldType} {ls : Array Slot} {rest : List Value} {X : xW} {Γ : Nat → Option Nat} {kc ks : Nat}
theorem q_lald2 (E : Ev p s m args meth c cc mL own ret X Γ H0) (hC : Conf X Γ H) {q r n : Nat} {lo hi : Int} {i : Int32} (hq : Γ q = some r) (hr : kO r = none) {F : Nat → xT} (hA : kA r = some (2, n, F)) (hF : ∀ j, F j = (1, lo, hi)) {a : Int} (ha : i.toInt = a) (h0 : 0 ≤ a) (h1 : a < n) (hdg : decode cc pc = .ok (.laload, 1))
    (kk : ∀ v : Int64, sJ H q a.toNat = v → W p l e R s m args below meth c H locs kc ks Q (F0 m (pc + 1) ls (.long v :: rest))) : W p l e R s m args below meth c H locs kc ks Q (F0 m pc ls (.int i :: .ref q :: rest)) :=
  q_lald E hC hq hr hA hF (i_in ha h0 h1) hdg (by rw [i_ix ha]; exact kk)
theorem q_last2 (E : Ev p s m args meth c cc mL own ret X Γ H0) (hC : Conf X Γ H) (hS : va_S (AΓ Γ) H0 H locs) {q r n : Nat} {lo hi : Int} {i : Int32} {x : Int64} (hq : Γ q = some r) (hw : r ≠ 12) (hr : kO r = none) {F : Nat → xT} (hA : kA r = some (2, n, F)) (hF : ∀ j, F j = (1, lo, hi)) {a : Int} (ha : i.toInt = a) (h0 : 0 ≤ a) (h1 : a < n) (hdg : decode cc pc = .ok (.lastore, 1))
    (kk : ∀ (H1 : Heap) (locs1 : List Loc), Conf X Γ H1 → va_S (AΓ Γ) H0 H1 locs1 → Up H H1 q a.toNat (.long x) → W p l e R s m args below meth c H1 locs1 kc ks Q (F0 m (pc + 1) ls rest)) : W p l e R s m args below meth c H locs kc ks Q (F0 m pc ls (.long x :: .int i :: .ref q :: rest)) :=
  q_last E hC hS hq hw hr hA hF (i_in ha h0 h1) hdg (by rw [i_ix ha]; exact kk)
end FRN2
section FRN3
variable {X : xW} {Γ : Nat → Option Nat} {H H0 H1 H2 : Heap} {tm ts na : Nat} {td nd : Nat → Nat} {t n s : Int}
end FRN3
-- odds: four numbers, together 16
section FRO2
variable {X : xW} {Γ : Nat → Option Nat} {H H0 H1 H2 : Heap} {a x1 ta : Nat} {td nd : Nat → Nat} {n m : Nat → Int} {z l c : Int}
end FRO2
-- the game of two walls
section FRG
variable {X : xW} {Γ : Nat → Option Nat} {H H0 H1 : Heap} {gs : List Nat} {m k o p n a b s w l v : Int} {T T' : Int → Int → Prop}
theorem and1 {x : Int32} {z : Int} (hx : x.toInt = z) (h0 : 0 ≤ z) (h1 : z ≤ 1) : (x &&& 1).toInt = z := by
  rcases z01 hx h0 h1 with rfl | rfl <;> exact hx
theorem f_ref {aa r ci kf kd : Nat} {fts : List xT} {hi : Int} (hC : Conf X Γ H) (g : Γ aa = some r) (hr : kO r = some (ci, fts)) (hk : fts[kf]? = some (kd + 2, 0, hi)) : ∃ q, sR H aa (X.1.2 ci kf) = some q ∧ Γ q = some kd := by
  have h := hC aa r g
  unfold okc at h
  rw [hr] at h
  obtain ⟨cell, h1, -, -, h4⟩ := h
  obtain ⟨v, h5, o, e, h6, h7⟩ := h4 kf _ hk
  cases o with
  | none => exact absurd rfl (h6 rfl)
  | some q =>
    refine ⟨q, ?_, h7 q rfl⟩
    unfold sR sv
    rw [h1, Option.bind_some, h5, e]
    rfl
end FRG
-- mornings: rows of works
section FRW2
variable {n l c z : Int} {h t h2 t2 : Nat → Int} {k j N : Nat}
end FRW2
section FRWU
variable {h t : Nat → Int} {k : Nat}
end FRWU
-- the same, seen from outside alone (omega compares what it does not know by unfolding)
section FRWO
variable {n l c z : Int} {h t h2 t2 : Nat → Int} {k j N : Nat}
end FRWO
section FRW3
variable {X : xW} {Γ : Nat → Option Nat} {H H0 H1 H2 : Heap} {gs : List Nat} {a x1 ta mo wk m1 : Nat} {td nd : Nat → Nat} {h t : Nat → Int} {k : Nat} {z A F G N : Int}
theorem l_toi {x : Int64} {y : Int32} {b : Int} (e : y = x.toInt32) (hx : x.toInt = b) (h1 : -2147483648 ≤ b) (h2 : b ≤ 2147483647) : y.toInt = b := by
  rw [e, Int64.toInt_toInt32, hx]
  exact bm32 h1 h2
end FRW3

