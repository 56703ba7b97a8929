-- trays: the class's row of four, the reference's rows
section FRT
variable {X : xW} {Γ : Nat → Option Nat} {H H0 H1 H2 : Heap} {gs : List Nat} {ta x1 tm ts : Nat} {td nd : Nat → Nat} {t n s : Int}
/-- an object's row of trays and its four trays -/
def SHP (X : xW) (Γ : Nat → Option Nat) (H : Heap) (x1 ta : Nat) (td nd : Nat → Nat) : Prop := Γ ta = some 20 ∧ sR H x1 (X.1.2 10 1) = some ta ∧ (∀ i, i < 4 → sR H ta i = some (td i) ∧ Γ (td i) = some 1) ∧ (∀ i j, i < 4 → j < 4 → td i = td j → i = j) ∧ (∀ i, i < 4 → sR H (td i) (X.1.2 6 0) = some (nd i) ∧ Γ (nd i) = some 24) ∧ ∀ i j, i < 4 → j < 4 → nd i = nd j → i = j
theorem kp_R (h : Kp X Γ gs H H1) {a r ci k : Nat} {fts : List xT} (g : Γ a = some r) (hr : kO r = some (ci, fts)) (hk : k < fts.length) (hp : (gs.any fun g => gF g r k) = true) : sR H1 a (X.1.2 ci k) = sR H a (X.1.2 ci k) := by
  have h2 := h a r g (X.1.2 ci k) (by unfold pr; rw [hr]; exact Or.inr (Or.inr (Or.inr ⟨k, hk, hp, rfl⟩)))
  simp [sR, h2]
theorem kp_a (h : Kp X Γ gs H H1) {a r : Nat} (j : Nat) (g : Γ a = some r) (hr : kO r = none) (hp : (gs.any fun g => gF g r 0) = true) : sv H1 a j = sv H a j :=
  h a r g j (by unfold pr; rw [hr]; exact Or.inr (Or.inr (Or.inr hp)))
theorem kp_aI (h : Kp X Γ gs H H1) {a r : Nat} (j : Nat) (g : Γ a = some r) (hr : kO r = none) (hp : (gs.any fun g => gF g r 0) = true) : sI H1 a j = sI H a j := by
  simp [sI, kp_a h j g hr hp]
theorem kp_aR (h : Kp X Γ gs H H1) {a r : Nat} (j : Nat) (g : Γ a = some r) (hr : kO r = none) (hp : (gs.any fun g => gF g r 0) = true) : sR H1 a j = sR H a j := by
  simp [sR, kp_a h j g hr hp]
theorem gs_any {g r k : Nat} (h : gs.contains g = true) (hg : gF g r k = true) : (gs.any fun q => gF q r k) = true := List.any_eq_true.mpr ⟨g, by simpa using h, hg⟩
theorem SHP.kp (h : SHP X Γ H x1 ta td nd) (g : Γ x1 = some 0) (hk : Kp X Γ gs H H1) (h18 : gs.contains 18 = true) : SHP X Γ H1 x1 ta td nd := by
  obtain ⟨a1, a2, a3, a4, a5, a6⟩ := h
  refine ⟨a1, ?_, fun i hi => ⟨?_, (a3 i hi).2⟩, a4, fun i hi => ⟨?_, (a5 i hi).2⟩, a6⟩
  · rw [kp_R hk g (ci := 10) (k := 1) rfl (by decide) (gs_any h18 rfl)]
    exact a2
  · rw [kp_aR hk i a1 rfl (gs_any h18 rfl)]
    exact (a3 i hi).1
  · rw [kp_R hk (a3 i hi).2 (ci := 6) (k := 0) rfl (by decide) (gs_any h18 rfl)]
    exact (a5 i hi).1
theorem SHP.kpM (h : SHP X Γ H x1 ta td nd) (g : Γ x1 = some 0) (hk : Kp X Γ gs H H1) (h1 : gs.contains 1 = true) : SHP X Γ H1 x1 ta td nd := by
  obtain ⟨a1, a2, a3, a4, a5, a6⟩ := h
  refine ⟨a1, ?_, fun i hi => ⟨?_, (a3 i hi).2⟩, a4, fun i hi => ⟨?_, (a5 i hi).2⟩, a6⟩
  · rw [kp_R hk g (ci := 10) (k := 1) rfl (by decide) (gs_any h1 rfl)]
    exact a2
  · rw [kp_aR hk i a1 rfl (gs_any h1 rfl)]
    exact (a3 i hi).1
  · rw [kp_R hk (a3 i hi).2 (ci := 6) (k := 0) rfl (by decide) (gs_any h1 rfl)]
    exact (a5 i hi).1
theorem SHP.ne (h : SHP X Γ H x1 ta td nd) {a r : Nat} (ga : Γ a = some r) (hr : r ≠ 1) : ∀ u, u < 4 → td u ≠ a := fun u hu e => by
  have := (h.2.2.1 u hu).2
  rw [e, ga] at this
  exact hr (Option.some.inj this)
theorem SHP.neN (h : SHP X Γ H x1 ta td nd) {a r : Nat} (ga : Γ a = some r) (hr : r ≠ 24) : ∀ u, u < 4 → nd u ≠ a := fun u hu e => by
  have := (h.2.2.2.2.1 u hu).2
  rw [e, ga] at this
  exact hr (Option.some.inj this)
/-- all trays' lengths and sorts are as they were -/
def TSm (X : xW) (td : Nat → Nat) (H H1 : Heap) : Prop := ∀ u : Nat, u < 4 → (sI H1 (td u) (X.1.2 6 2)).toInt = (sI H (td u) (X.1.2 6 2)).toInt ∧ (sI H1 (td u) (X.1.2 6 1)).toInt = (sI H (td u) (X.1.2 6 1)).toInt
/-- .. but one's, that are these -/
def TSt (X : xW) (td : Nat → Nat) (H H1 : Heap) (t n s : Int) : Prop := ∀ u : Nat, u < 4 → ((u : Int) = t → (sI H1 (td u) (X.1.2 6 2)).toInt = n ∧ (sI H1 (td u) (X.1.2 6 1)).toInt = s) ∧ ((u : Int) ≠ t → (sI H1 (td u) (X.1.2 6 2)).toInt = (sI H (td u) (X.1.2 6 2)).toInt ∧ (sI H1 (td u) (X.1.2 6 1)).toInt = (sI H (td u) (X.1.2 6 1)).toInt)
theorem TSm.rf : TSm X td H H := fun _ _ => ⟨rfl, rfl⟩
theorem TSm.ne {a j : Nat} {v : Value} (h : TSm X td H0 H) (U : Up H H1 a j v) (hn : ∀ u, u < 4 → td u ≠ a) : TSm X td H0 H1 := fun u hu => by
  rw [up_nI U (fun q => hn u hu q.1), up_nI U (fun q => hn u hu q.1)]
  exact h u hu
theorem TSm.kp (h : TSm X td H0 H) (hk : Kp X Γ gs H H1) (sh : SHP X Γ H2 x1 ta td nd) (h21 : gs.contains 21 = true) : TSm X td H0 H1 := fun u hu => by
  have g := (sh.2.2.1 u hu).2
  rw [kp_I hk g (ci := 6) (k := 2) rfl (by decide) (gs_any h21 rfl), kp_I hk g (ci := 6) (k := 1) rfl (by decide) (gs_any h21 rfl)]
  exact h u hu
theorem TSt.ne {a j : Nat} {v : Value} (h : TSt X td H0 H t n s) (U : Up H H1 a j v) (hn : ∀ u, u < 4 → td u ≠ a) : TSt X td H0 H1 t n s := fun u hu => by
  rw [up_nI U (fun q => hn u hu q.1), up_nI U (fun q => hn u hu q.1)]
  exact h u hu
theorem TSt.kp (h : TSt X td H0 H t n s) (hk : Kp X Γ gs H H1) (sh : SHP X Γ H2 x1 ta td nd) (h21 : gs.contains 21 = true) : TSt X td H0 H1 t n s := fun u hu => by
  have g := (sh.2.2.1 u hu).2
  rw [kp_I hk g (ci := 6) (k := 2) rfl (by decide) (gs_any h21 rfl), kp_I hk g (ci := 6) (k := 1) rfl (by decide) (gs_any h21 rfl)]
  exact h u hu
/-- the lengths and sorts of all trays but a0 -/
def OTH (X : xW) (Γ : Nat → Option Nat) (a0 : Nat) (H H1 : Heap) : Prop := ∀ a, a ≠ a0 → Γ a = some 1 → sI H1 a (X.1.2 6 2) = sI H a (X.1.2 6 2) ∧ sI H1 a (X.1.2 6 1) = sI H a (X.1.2 6 1)
theorem OTH.rf {a0 : Nat} : OTH X Γ a0 H H := fun _ _ _ => ⟨rfl, rfl⟩
theorem OTH.ne {a0 j : Nat} {v : Value} {o : Option Nat} (h : OTH X Γ a0 H0 H) (U : Up H H1 a0 j v) (_ : Γ a0 = o) : OTH X Γ a0 H0 H1 := fun a ha g => by
  rw [up_nI U (fun q => ha q.1), up_nI U (fun q => ha q.1)]
  exact h a ha g
theorem OTH.cp {a0 b r : Nat} (h : OTH X Γ a0 H0 H) (U : Cp H H1 b) (gb : Γ b = some r) (hr : r ≠ 1) : OTH X Γ a0 H0 H1 := fun a ha g => by
  have hb : a ≠ b := fun e => by
    rw [e, gb] at g
    exact hr (Option.some.inj g)
  have e : ∀ j, sI H1 a j = sI H a j := fun j => by simp [sI, U a hb j]
  rw [e, e]
  exact h a ha g
theorem cp_I {a b j : Nat} (U : Cp H H1 b) (hb : a ≠ b) : sI H1 a j = sI H a j := by simp [sI, U a hb j]
theorem TSt.mk {z : Nat} (sh : SHP X Γ H2 x1 ta td nd) (hz : z < 4) (ht : (z : Int) = t) (h1 : (sI H1 (td z) (X.1.2 6 2)).toInt = n) (h2 : (sI H1 (td z) (X.1.2 6 1)).toInt = s) (ho : OTH X Γ (td z) H H1) : TSt X td H H1 t n s := fun u hu => ⟨fun e => by
  have : u = z := by omega
  subst this
  exact ⟨h1, h2⟩, fun e => by
  have h := ho (td u) (fun q => e (by rw [sh.2.2.2.1 u z hu hz q]; exact ht)) (sh.2.2.1 u hu).2
  rw [h.1, h.2]
  exact ⟨rfl, rfl⟩⟩
/-- the reference's -/
def TMm (tm ts : Nat) (H H1 : Heap) : Prop := ∀ u : Nat, u < 4 → (sI H1 tm u).toInt = (sI H tm u).toInt ∧ (sI H1 ts u).toInt = (sI H ts u).toInt
def TMt (tm ts : Nat) (H H1 : Heap) (t n s : Int) : Prop := ∀ u : Nat, u < 4 → ((u : Int) = t → (sI H1 tm u).toInt = n ∧ (sI H1 ts u).toInt = s) ∧ ((u : Int) ≠ t → (sI H1 tm u).toInt = (sI H tm u).toInt ∧ (sI H1 ts u).toInt = (sI H ts u).toInt)
theorem TMm.rf : TMm tm ts H H := fun _ _ => ⟨rfl, rfl⟩
theorem TMm.ne {a j : Nat} {v : Value} (h : TMm tm ts H0 H) (U : Up H H1 a j v) (h1 : a ≠ tm) (h2 : a ≠ ts) : TMm tm ts H0 H1 := fun u hu => by
  rw [up_nI U (fun q => h1 q.1.symm), up_nI U (fun q => h2 q.1.symm)]
  exact h u hu
theorem TMm.kp (h : TMm tm ts H0 H) (hk : Kp X Γ gs H H1) (g1 : Γ tm = some 61) (g2 : Γ ts = some 60) (h22 : gs.contains 22 = true) : TMm tm ts H0 H1 := fun u hu => by
  rw [kp_aI hk u g1 rfl (gs_any h22 rfl), kp_aI hk u g2 rfl (gs_any h22 rfl)]
  exact h u hu
theorem TMt.ne {a j : Nat} {v : Value} (h : TMt tm ts H0 H t n s) (U : Up H H1 a j v) (h1 : a ≠ tm) (h2 : a ≠ ts) : TMt tm ts H0 H1 t n s := fun u hu => by
  rw [up_nI U (fun q => h1 q.1.symm), up_nI U (fun q => h2 q.1.symm)]
  exact h u hu
theorem TMt.kp (h : TMt tm ts H0 H t n s) (hk : Kp X Γ gs H H1) (g1 : Γ tm = some 61) (g2 : Γ ts = some 60) (h22 : gs.contains 22 = true) : TMt tm ts H0 H1 t n s := fun u hu => by
  rw [kp_aI hk u g1 rfl (gs_any h22 rfl), kp_aI hk u g2 rfl (gs_any h22 rfl)]
  exact h u hu
theorem TMt.mk {x y : Int32} (h : TMm tm ts H0 H) (hts : ts ≠ tm) (h0 : 0 ≤ t) (h3 : t ≤ 3) (U1 : Up H H1 ts t.toNat (.int y)) (U2 : Up H1 H2 tm t.toNat (.int x)) (hx : x.toInt = n) (hy : y.toInt = s) : TMt tm ts H0 H2 t n s := fun u hu => ⟨fun e => by
  have : u = t.toNat := by omega
  subst this
  rw [up_I U2, up_nI U2 (fun q => hts q.1), up_I U1]
  exact ⟨hx, hy⟩, fun e => by
  have hne : ¬ u = t.toNat := fun q => e (by omega)
  rw [up_nI U2 (fun q => hne q.2), up_nI U1 (fun q => hne q.2), up_nI U2 (fun q => hne q.2), up_nI U1 (fun q => hne q.2)]
  exact h u hu⟩
/-- both sides' trays agree in length, and in sort where there is one -/
def TRl (X : xW) (td : Nat → Nat) (tm ts : Nat) (H : Heap) : Prop := ∀ u : Nat, u < 4 → (sI H (td u) (X.1.2 6 2)).toInt = (sI H tm u).toInt ∧ (0 ≤ (sI H tm u).toInt → (sI H (td u) (X.1.2 6 1)).toInt = (sI H ts u).toInt)
end FRT
section FRV
variable {p : Program} {l : Launch} {e : Env} {R : Room} {s : State} {m : MethodId} {args : Array Value} {below : List Frame} {meth : Method} {c : Code} {H H0 : Heap} {locs : List Loc} {Q : State → Prop}
variable {cc : ByteArray} {pc mL : Nat} {own : String} {ret : Option FieldType} {ls : Array Slot} {rest : List Value} {X : xW} {Γ : Nat → Option Nat} {kc ks : Nat}
theorem q_getS (E : Ev p s m args meth c cc mL own ret X Γ H0) (hC : Conf X Γ H) {a r ci k index k2 q0 : Nat} {hi : Int} (ha : Γ a = some r) (hf : FA own index r ci k (k2 + 2, 0, hi)) (hs : sR H a (X.1.2 ci k) = some q0) (hdg : decode cc pc = .ok (.getfield index, 3))
    (kk : Γ q0 = some k2 → W p l e R s m args below meth c H locs kc ks Q (F0 m (pc + 3) ls (.ref q0 :: rest))) : W p l e R s m args below meth c H locs kc ks Q (F0 m pc ls (.ref a :: rest)) :=
  q_getR E hC ha hf hdg (fun q e g => by cases Option.some.inj (e.symm.trans hs); exact kk g)
theorem q_aaldS (E : Ev p s m args meth c cc mL own ret X Γ H0) (hC : Conf X Γ H) {a r n t k2 q0 : Nat} {hi : Int} {C : String} {i : Int32} (ha : Γ a = some r) (hr : kO r = none) {F : Nat → xT} (hA : kA r = some (t, n, F)) (hF : ∀ j, F j = (k2 + 2, 0, hi)) (ht : (xty X)[t]? = some (X.2 t, .object C)) {z : Int} (ez : i.toInt = z) (h0 : 0 ≤ z) (h1 : z < n) (hs : sR H a z.toNat = some q0) (hdg : decode cc pc = .ok (.aaload, 1))
    (kk : Γ q0 = some k2 → W p l e R s m args below meth c H locs kc ks Q (F0 m (pc + 1) ls (.ref q0 :: rest))) : W p l e R s m args below meth c H locs kc ks Q (F0 m pc ls (.int i :: .ref a :: rest)) :=
  q_aald E hC ha hr hA hF ht (i_in ez h0 h1) hdg (fun q e g => by rw [i_ix ez] at e; cases Option.some.inj (e.symm.trans hs); exact kk g)
theorem q_tald (E : Ev p s m args meth c cc mL own ret X Γ H0) (hC : Conf X Γ H) {q r n : Nat} {lo hi : Int} {i : Int32} (hq : Γ q = some r) (hr : kO r = none) {F : Nat → xT} (hA : kA r = some (1, n, F)) {a : Int} (hF : ∀ v, tv Γ (F a.toNat) v → tv Γ (0, lo, hi) v) (ha : i.toInt = a) (h0 : 0 ≤ a) (h1 : a < n) (hdg : decode cc pc = .ok (.iaload, 1))
    (kk : ∀ v : Int32, sI H q a.toNat = v → lo ≤ v.toInt → v.toInt ≤ hi → W p l e R s m args below meth c H locs kc ks Q (F0 m (pc + 1) ls (.int v :: rest))) : W p l e R s m args below meth c H locs kc ks Q (F0 m pc ls (.int i :: .ref q :: rest)) :=
  q_iald E hC hq hr hA (by rw [i_ix ha]; exact hF) (i_in ha h0 h1) hdg (by rw [i_ix ha]; exact kk)
theorem q_tast (E : Ev p s m args meth c cc mL own ret X Γ H0) (hC : Conf X Γ H) (hS : va_S (AΓ Γ) H0 H locs) {q r n : Nat} {i x : Int32} {t : Nat → xT} (hq : Γ q = some r) (hw : r ≠ 12) (hr : kO r = none) (hA : kA r = some (1, n, t)) {a : Int} (ha : i.toInt = a) (h0 : 0 ≤ a) (h1 : a < n) (hv : tv Γ (t a.toNat) (.int x)) (hdg : decode cc pc = .ok (.iastore, 1))
    (kk : ∀ (H1 : Heap) (locs1 : List Loc), Conf X Γ H1 → va_S (AΓ Γ) H0 H1 locs1 → Up H H1 q a.toNat (.int x) → W p l e R s m args below meth c H1 locs1 kc ks Q (F0 m (pc + 1) ls rest)) : W p l e R s m args below meth c H locs kc ks Q (F0 m pc ls (.int x :: .int i :: .ref q :: rest)) :=
  q_iast E hC hS hq hw hr hA (i_in ha h0 h1) (by rw [i_ix ha]; exact hv) hdg (by rw [i_ix ha]; exact kk)
end FRV
section FRTL
variable {X : xW} {Γ : Nat → Option Nat} {H H0 H1 H2 : Heap} {gs : List Nat} {ta x1 tm ts : Nat} {td nd : Nat → Nat} {t n s : Int}
theorem TSm.kp1 (hk : Kp X Γ gs H H1) (sh : SHP X Γ H2 x1 ta td nd) (h1 : gs.contains 1 = true) : TSm X td H H1 := fun u hu => by
  have g := (sh.2.2.1 u hu).2
  rw [kp_I hk g (ci := 6) (k := 2) rfl (by decide) (gs_any h1 rfl), kp_I hk g (ci := 6) (k := 1) rfl (by decide) (gs_any h1 rfl)]
  exact ⟨rfl, rfl⟩
theorem TMm.kp0 (hk : Kp X Γ gs H H1) (g1 : Γ tm = some 61) (g2 : Γ ts = some 60) (h0 : gs.contains 0 = true) : TMm tm ts H H1 := fun u hu => by
  rw [kp_aI hk u g1 rfl (gs_any h0 rfl), kp_aI hk u g2 rfl (gs_any h0 rfl)]
  exact ⟨rfl, rfl⟩
theorem TRl.same (h : TRl X td tm ts H) (a : TSm X td H H1) (b : TMm tm ts H H1) : TRl X td tm ts H1 := fun u hu => by
  have h1 := h u hu; have h2 := a u hu; have h3 := b u hu
  omega
theorem TRl.same2 (h : TRl X td tm ts H) (a : TSm X td H H1) (b : TMm tm ts H H1) (c : TMm tm ts H1 H2) (d : TSm X td H1 H2) : TRl X td tm ts H2 := (h.same a b).same d c
theorem TRl.set (h : TRl X td tm ts H) (a : TSt X td H H1 t n s) (b : TMm tm ts H H1) (c : TMt tm ts H1 H2 t n s) (d : TSm X td H1 H2) : TRl X td tm ts H2 := fun u hu => by
  have h1 := h u hu; have h2 := a u hu; have h3 := b u hu; have h4 := c u hu; have h5 := d u hu
  by_cases e : (u : Int) = t
  · have h2 := h2.1 e; have h4 := h4.1 e
    omega
  · have h2 := h2.2 e; have h4 := h4.2 e
    omega
end FRTL

-- numbers in trays
def cutJ (s : Int) (v : Int64) : Int64 := if s = 0 then v.toInt32.toInt8.toInt32.toInt64 else if s = 1 then v.toInt32.toInt16.toInt32.toInt64 else if s = 2 then v.toInt32.toInt64 else v
section FRN
variable {X : xW} {Γ : Nat → Option Nat} {H H0 H1 H2 : Heap} {gs : List Nat} {ta x1 tm ts na : Nat} {td nd : Nat → Nat} {t n s : Int} {f g h : Nat → Nat → Int64}
theorem kp_aJ (h : Kp X Γ gs H H1) {a r : Nat} (j : Nat) (g : Γ a = some r) (hr : kO r = none) (hp : (gs.any fun g => gF g r 0) = true) : sJ H1 a j = sJ H a j := by
  simp [sJ, kp_a h j g hr hp]
theorem cp_J {a b j : Nat} (U : Cp H H1 b) (hb : a ≠ b) : sJ H1 a j = sJ H a j := by simp [sJ, U a hb j]
theorem cp_R {a b j : Nat} (U : Cp H H1 b) (hb : a ≠ b) : sR H1 a j = sR H a j := by simp [sR, U a hb j]
/-- numbers by tray and place -/
def nC (nd : Nat → Nat) (H : Heap) : Nat → Nat → Int64 := fun u j => sJ H (nd u) j
def nM (na : Nat) (H : Heap) : Nat → Nat → Int64 := fun u j => sJ H na (60 * u + j)
/-- as they were -/
def NSm (f g : Nat → Nat → Int64) : Prop := ∀ u j : Nat, u < 4 → j < 60 → g u j = f u j
/-- one is another -/
def NWr (f g : Nat → Nat → Int64) (t k : Int) (w : Int64) : Prop := ∀ u j : Nat, u < 4 → j < 60 → g u j = if (u : Int) = t ∧ (j : Int) = k then w else f u j
/-- a tray's first z are 0 -/
def NZr (f g : Nat → Nat → Int64) (t z : Int) : Prop := ∀ u j : Nat, u < 4 → j < 60 → ((u : Int) = t → (j : Int) < z → g u j = 0) ∧ ((u : Int) ≠ t → g u j = f u j)
/-- those from lo to hi behind b are poured from behind a -/
def NPr (f g : Nat → Nat → Int64) (t a o b lo hi : Int) : Prop := ∀ u j : Nat, u < 4 → j < 60 → g u j = if (u : Int) = o ∧ b + lo ≤ (j : Int) ∧ (j : Int) < b + hi then f t.toNat (a + ((j : Int) - b)).toNat else f u j
theorem NSm.rf : NSm f f := fun _ _ _ _ => rfl
theorem nC_ne {a j : Nat} {v : Value} (h : NSm f (nC nd H)) (U : Up H H1 a j v) (hn : ∀ u, u < 4 → nd u ≠ a) : NSm f (nC nd H1) := fun u k hu hk => (up_nJ U (fun q => hn u hu q.1)).trans (h u k hu hk)
theorem nC_kp (h : NSm f (nC nd H)) (hk : Kp X Γ gs H H1) (sh : SHP X Γ H2 x1 ta td nd) (h23 : gs.contains 23 = true) : NSm f (nC nd H1) := fun u k hu hk2 => (kp_aJ hk k (sh.2.2.2.2.1 u hu).2 rfl (gs_any h23 rfl)).trans (h u k hu hk2)
theorem nC_kp1 (hk : Kp X Γ gs H H1) (sh : SHP X Γ H2 x1 ta td nd) (h1 : gs.contains 1 = true) : NSm (nC nd H) (nC nd H1) := fun u k hu hk2 => kp_aJ hk k (sh.2.2.2.2.1 u hu).2 rfl (gs_any h1 rfl)
theorem nM_ne {a j : Nat} {v : Value} (h : NSm f (nM na H)) (U : Up H H1 a j v) (hn : a ≠ na) : NSm f (nM na H1) := fun u k hu hk => (up_nJ U (fun q => hn q.1.symm)).trans (h u k hu hk)
theorem nM_kp (h : NSm f (nM na H)) (hk : Kp X Γ gs H H1) (g1 : Γ na = some 62) (h24 : gs.contains 24 = true) : NSm f (nM na H1) := fun u k hu hk2 => (kp_aJ hk _ g1 rfl (gs_any h24 rfl)).trans (h u k hu hk2)
theorem nM_kp0 (hk : Kp X Γ gs H H1) (g1 : Γ na = some 62) (h0 : gs.contains 0 = true) : NSm (nM na H) (nM na H1) := fun u k hu hk2 => kp_aJ hk _ g1 rfl (gs_any h0 rfl)
theorem NSm.tr (h1 : NSm f g) (h2 : NSm g h) : NSm f h := fun u j hu hj => (h2 u j hu hj).trans (h1 u j hu hj)
theorem NWr.sm {k : Int} {w : Int64} (h1 : NWr f g t k w) (h2 : NSm g h) : NWr f h t k w := fun u j hu hj => (h2 u j hu hj).trans (h1 u j hu hj)
theorem NPr.sm {a o b lo hi : Int} (h1 : NPr f g t a o b lo hi) (h2 : NSm g h) : NPr f h t a o b lo hi := fun u j hu hj => (h2 u j hu hj).trans (h1 u j hu hj)
theorem NZr.sm {z : Int} (h1 : NZr f g t z) (h2 : NSm g h) : NZr f h t z := fun u j hu hj => ⟨fun a b => (h2 u j hu hj).trans ((h1 u j hu hj).1 a b), fun a => (h2 u j hu hj).trans ((h1 u j hu hj).2 a)⟩
/-- one number of one row is written -/
def NUp (H H1 : Heap) (q k : Nat) (w : Int64) : Prop := sJ H1 q k = w ∧ ∀ a j, ¬ (a = q ∧ j = k) → sJ H1 a j = sJ H a j
theorem NUp.mk {q k : Nat} {w : Int64} (U : Up H H1 q k (.long w)) : NUp H H1 q k w := ⟨up_J U, fun _ _ hn => up_nJ U hn⟩
theorem NUp.wr {z k : Nat} {w : Int64} {kk : Int} (sh : SHP X Γ H2 x1 ta td nd) (hz : z < 4) (ht : (z : Int) = t) (hk : (k : Int) = kk) (U : NUp H H1 (nd z) k w) : NWr (nC nd H) (nC nd H1) t kk w := fun u j hu hj => by
  by_cases e : u = z ∧ j = k
  · obtain ⟨rfl, rfl⟩ := e
    rw [if_pos ⟨ht, hk⟩]
    exact U.1
  · rw [if_neg (fun q => e ⟨by omega, by omega⟩)]
    exact U.2 _ _ (fun q => e ⟨sh.2.2.2.2.2 u z hu hz q.1, q.2⟩)
theorem nM_wr {i : Nat} {w : Int64} {k : Int} (h : NSm f (nM na H)) (h0 : 0 ≤ t) (h3 : t ≤ 3) (k0 : 0 ≤ k) (k1 : k ≤ 59) (hi : (i : Int) = 60 * t + k) (U : Up H H1 na i (.long w)) : NWr f (nM na H1) t k w := fun u j hu hj => by
  by_cases e : (u : Int) = t ∧ (j : Int) = k
  · rw [if_pos e]
    have : 60 * u + j = i := by omega
    show sJ H1 na (60 * u + j) = w
    rw [this]
    exact up_J U
  · rw [if_neg e]
    refine (up_nJ U (fun q => e ?_)).trans (h u j hu hj)
    have := q.2
    omega
theorem nM_zr0 (h : NSm f (nM na H)) : NZr f (nM na H) t 0 := fun u j hu hj => ⟨fun _ hz => by omega, fun _ => h u j hu hj⟩
theorem nM_zr {i : Nat} {z : Int} (h : NZr f (nM na H) t z) (h0 : 0 ≤ t) (h3 : t ≤ 3) (k0 : 0 ≤ z) (k1 : z ≤ 59) (hi : (i : Int) = 60 * t + z) (U : Up H H1 na i (.long 0)) : NZr f (nM na H1) t (z + 1) := fun u j hu hj => by
  by_cases e : 60 * u + j = i
  · refine ⟨fun _ _ => ?_, fun hn => ?_⟩
    · show sJ H1 na (60 * u + j) = 0
      rw [e]
      exact up_J U
    · omega
  · have e2 : nM na H1 u j = nM na H u j := up_nJ U (fun q => e q.2)
    rw [e2]
    exact ⟨fun a b => (h u j hu hj).1 a (by omega), (h u j hu hj).2⟩
theorem nC_zr {z : Nat} (sh : SHP X Γ H2 x1 ta td nd) (hz : z < 4) (ht : (z : Int) = t) (h1 : ∀ j, j < 60 → sJ H1 (nd z) j = 0) (h2 : ∀ a j, Γ a = some 24 → a ≠ nd z → sJ H1 a j = sJ H a j) : NZr (nC nd H) (nC nd H1) t n := fun u j hu hj => ⟨fun e _ => by
  have : u = z := by omega
  subst this
  exact h1 j hj, fun e => h2 _ _ (sh.2.2.2.2.1 u hu).2 (fun q => e (by rw [sh.2.2.2.2.2 u z hu hz q]; exact ht))⟩
theorem nC_pr {z y : Nat} {a o b d : Int} (sh : SHP X Γ H2 x1 ta td nd) (hz : z < 4) (hy : y < 4) (ht : (z : Int) = t) (ho : (y : Int) = o) (h0 : 0 ≤ b) (U : Cp H H1 (nd y)) (C : Cpc H H1 (nd z) (nd y) a b d 60) : NPr (nC nd H) (nC nd H1) t a o b 0 d := fun u j hu hj => by
  have et : t.toNat = z := by omega
  by_cases e : u = y
  · subst e
    have h1 := C j hj
    by_cases hh : b ≤ (j : Int) ∧ (j : Int) < b + d
    · rw [if_pos hh] at h1
      rw [if_pos ⟨ho, by omega, by omega⟩, et]
      show sJ H1 (nd u) j = sJ H (nd z) _
      simp [sJ, h1]
    · rw [if_neg hh] at h1
      rw [if_neg (fun q => hh ⟨by omega, by omega⟩)]
      show sJ H1 (nd u) j = sJ H (nd u) j
      simp [sJ, h1]
  · rw [if_neg (fun q => e (by omega))]
    exact cp_J U (fun q => e (sh.2.2.2.2.2 u y hu hy q))
theorem NPr.nil {a o b lo : Int} (h : NSm f g) : NPr f g t a o b lo lo := fun u j hu hj => by
  rw [if_neg (by omega)]
  exact h u j hu hj
/-- the reference pours one more: at the upper end of what is done, or at the lower -/
theorem nM_pr {i : Nat} {w : Int64} {a o b lo hi c lo2 hi2 : Int} (h : NPr f (nM na H) t a o b lo hi) (t0 : 0 ≤ t) (t3 : t ≤ 3) (o0 : 0 ≤ o) (o3 : o ≤ 3) (a0 : 0 ≤ a) (c0 : 0 ≤ c) (ac : a + c ≤ 59) (b0 : 0 ≤ b) (bc : b + c ≤ 59) (hi' : (i : Int) = 60 * o + b + c) (hw : sJ H na (60 * t + a + c).toNat = w)
    (hs : ¬ (t = o ∧ b + lo ≤ a + c ∧ a + c < b + hi)) (he : (lo2 = lo ∧ hi = c ∧ hi2 = c + 1) ∨ (hi2 = hi ∧ lo2 = c ∧ lo = c + 1)) (hle : lo ≤ hi) (U : Up H H1 na i (.long w)) : NPr f (nM na H1) t a o b lo2 hi2 := fun u j hu hj => by
  have hw2 : f t.toNat (a + c).toNat = w := by
    have h1 := h t.toNat (a + c).toNat (by omega) (by omega)
    rw [if_neg (fun q => hs ⟨by omega, by omega, by omega⟩)] at h1
    rw [← h1, ← hw]
    show sJ H na (60 * t.toNat + (a + c).toNat) = _
    congr 1
    omega
  by_cases e : 60 * u + j = i
  · rw [if_pos ⟨by omega, by omega, by omega⟩]
    show sJ H1 na (60 * u + j) = _
    rw [e, up_J U, ← hw2]
    congr 1
    omega
  · have e2 : nM na H1 u j = nM na H u j := up_nJ U (fun q => e q.2)
    rw [e2, h u j hu hj]
    by_cases q : (u : Int) = o ∧ b + lo ≤ (j : Int) ∧ (j : Int) < b + hi
    · rw [if_pos q, if_pos ⟨by omega, by omega, by omega⟩]
    · rw [if_neg q, if_neg (fun q2 => q ⟨by omega, by omega, by omega⟩)]
/-- the numbers that trays have agree -/
def NRl (X : xW) (td nd : Nat → Nat) (na : Nat) (H : Heap) : Prop := ∀ u j : Nat, u < 4 → j < 60 → (j : Int) < (sI H (td u) (X.1.2 6 2)).toInt → nC nd H u j = nM na H u j
end FRN
section FRN2
variable {p : Program} {l : Launch} {e : Env} {R : Room} {s : State} {m : MethodId} {args : Array Value} {below : List Frame} {meth : Method} {c : Code} {H H0 : Heap} {locs : List Loc} {Q : State → Prop}
variable {cc : ByteArray} {pc mL : Nat} {own : String} {ret : Option FieldType} {ls : Array Slot} {rest : List Value} {X : xW} {Γ : Nat → Option Nat} {kc ks : Nat}
theorem q_lald2 (E : Ev p s m args meth c cc mL own ret X Γ H0) (hC : Conf X Γ H) {q r n : Nat} {lo hi : Int} {i : Int32} (hq : Γ q = some r) (hr : kO r = none) {F : Nat → xT} (hA : kA r = some (2, n, F)) (hF : ∀ j, F j = (1, lo, hi)) {a : Int} (ha : i.toInt = a) (h0 : 0 ≤ a) (h1 : a < n) (hdg : decode cc pc = .ok (.laload, 1))
    (kk : ∀ v : Int64, sJ H q a.toNat = v → W p l e R s m args below meth c H locs kc ks Q (F0 m (pc + 1) ls (.long v :: rest))) : W p l e R s m args below meth c H locs kc ks Q (F0 m pc ls (.int i :: .ref q :: rest)) :=
  q_lald E hC hq hr hA hF (i_in ha h0 h1) hdg (by rw [i_ix ha]; exact kk)
theorem q_last2 (E : Ev p s m args meth c cc mL own ret X Γ H0) (hC : Conf X Γ H) (hS : va_S (AΓ Γ) H0 H locs) {q r n : Nat} {lo hi : Int} {i : Int32} {x : Int64} (hq : Γ q = some r) (hw : r ≠ 12) (hr : kO r = none) {F : Nat → xT} (hA : kA r = some (2, n, F)) (hF : ∀ j, F j = (1, lo, hi)) {a : Int} (ha : i.toInt = a) (h0 : 0 ≤ a) (h1 : a < n) (hdg : decode cc pc = .ok (.lastore, 1))
    (kk : ∀ (H1 : Heap) (locs1 : List Loc), Conf X Γ H1 → va_S (AΓ Γ) H0 H1 locs1 → Up H H1 q a.toNat (.long x) → W p l e R s m args below meth c H1 locs1 kc ks Q (F0 m (pc + 1) ls rest)) : W p l e R s m args below meth c H locs kc ks Q (F0 m pc ls (.long x :: .int i :: .ref q :: rest)) :=
  q_last E hC hS hq hw hr hA hF (i_in ha h0 h1) hdg (by rw [i_ix ha]; exact kk)
end FRN2
section FRN3
variable {X : xW} {Γ : Nat → Option Nat} {H H0 H1 H2 : Heap} {tm ts na : Nat} {td nd : Nat → Nat} {t n s : Int}
theorem TSm.tr (h : TSm X td H H1) (h2 : TSm X td H1 H2) : TSm X td H H2 := fun u hu => ⟨(h2 u hu).1.trans (h u hu).1, (h2 u hu).2.trans (h u hu).2⟩
theorem NRl.same (h : NRl X td nd na H) (a : TSm X td H H1) (b : NSm (nC nd H) (nC nd H1)) (c : NSm (nM na H) (nM na H1)) : NRl X td nd na H1 := fun u j hu hj hl => by
  rw [b u j hu hj, c u j hu hj]
  exact h u j hu hj (by rw [← (a u hu).1]; exact hl)
theorem NRl.tray (h : NRl X td nd na H) (a : TSt X td H H1 t n s) (a2 : TSm X td H1 H2) (b : NZr (nC nd H) (nC nd H1) t n) (b2 : NSm (nC nd H1) (nC nd H2)) (c : NSm (nM na H) (nM na H1)) (c2 : NZr (nM na H1) (nM na H2) t n) : NRl X td nd na H2 := fun u j hu hj hl => by
  rw [b2 u j hu hj]
  rw [(a2 u hu).1] at hl
  by_cases e : (u : Int) = t
  · rw [((a u hu).1 e).1] at hl
    rw [(b u j hu hj).1 e hl, (c2 u j hu hj).1 e hl]
  · rw [((a u hu).2 e).1] at hl
    rw [(b u j hu hj).2 e, (c2 u j hu hj).2 e, c u j hu hj]
    exact h u j hu hj hl
theorem NRl.write {k : Int} {w : Int64} (h : NRl X td nd na H) (a : TSm X td H H2) (b : NWr (nC nd H) (nC nd H1) t k w) (b2 : NSm (nC nd H1) (nC nd H2)) (c : NSm (nM na H) (nM na H1)) (c2 : NWr (nM na H1) (nM na H2) t k w) : NRl X td nd na H2 := fun u j hu hj hl => by
  rw [b2 u j hu hj, b u j hu hj, c2 u j hu hj, c u j hu hj]
  rw [(a u hu).1] at hl
  split
  · rfl
  · exact h u j hu hj hl
theorem NRl.pour {x o y d : Int} (h : NRl X td nd na H) (a : TSm X td H H2) (b : NPr (nC nd H) (nC nd H1) t x o y 0 d) (b2 : NSm (nC nd H1) (nC nd H2)) (c : NSm (nM na H) (nM na H1)) (c2 : NPr (nM na H1) (nM na H2) t x o y 0 d) (h0 : 0 ≤ t) (h3 : t ≤ 3) (hx : 0 ≤ x) (hl2 : x + d ≤ (sI H (td t.toNat) (X.1.2 6 2)).toInt) (hd : 0 ≤ d) (h60 : (sI H (td t.toNat) (X.1.2 6 2)).toInt ≤ 60) : NRl X td nd na H2 := fun u j hu hj hl => by
  rw [b2 u j hu hj, b u j hu hj, c2 u j hu hj]
  rw [(a u hu).1] at hl
  split
  · rename_i q
    rw [c _ _ (by omega) (by omega)]
    exact h _ _ (by omega) (by omega) (by omega)
  · rw [c u j hu hj]
    exact h u j hu hj hl
end FRN3
-- odds: four numbers, together 16
section FRO2
variable {X : xW} {Γ : Nat → Option Nat} {H H0 H1 H2 : Heap} {a x1 ta : Nat} {td nd : Nat → Nat} {n m : Nat → Int} {z l c : Int}
/-- a tray's numbers -/
def nuA (X : xW) (H : Heap) (a : Nat) : Nat := (sR H a (X.1.2 6 0)).getD 0
def nuN (X : xW) (H : Heap) (a : Nat) : Nat → Int := fun i => (sJ H (nuA X H a) i).toInt
theorem nuA_eq {q : Nat} (h : sR H a (X.1.2 6 0) = some q) : nuA X H a = q := by unfold nuA; rw [h]; rfl
theorem nuA_some (hC : Conf X Γ H) (g : Γ a = some 1) : sR H a (X.1.2 6 0) = some (nuA X H a) := by
  have h := hC a 1 g
  unfold okc at h
  rw [show kO 1 = some (6, [(26, 0, 0), (0, -2147483648, 2147483647), (0, -1, 60)]) from rfl] at h
  obtain ⟨cell, h1, -, -, h4⟩ := h
  obtain ⟨v, h5, o, e, h6, -⟩ := h4 0 (26, 0, 0) rfl
  cases o with
  | none => exact absurd rfl (h6 rfl)
  | some q =>
    have : sR H a (X.1.2 6 0) = some q := by
      unfold sR sv
      rw [h1, Option.bind_some, h5, e]
      rfl
    rw [nuA_eq this]
    exact this
theorem nuN_td (sh : SHP X Γ H x1 ta td nd) (h0 : 0 ≤ z) (h3 : z ≤ 3) : nuN X H (td z.toNat) = fun i => (nC nd H z.toNat i).toInt := by
  unfold nuN
  rw [nuA_eq ((sh.2.2.2.2.1 z.toNat (by omega)).1)]
  rfl
def HW (X : xW) (H : Heap) (a : Nat) (c l : Int) : Prop := ∀ i : Nat, (i : Int) < c → (i : Int) < (sI H a (X.1.2 6 2)).toInt ∧ 0 ≤ nuN X H a i ∧ nuN X H a i ≤ l
def NW (X : xW) (H : Heap) (a : Nat) (c l : Int) : Prop := ∃ i : Nat, (i : Int) < c ∧ ((sI H a (X.1.2 6 2)).toInt ≤ (i : Int) ∨ nuN X H a i < 0 ∨ l < nuN X H a i)
theorem HW.nil : HW X H a 0 l := fun i hi => absurd hi (by omega)
theorem HW.step (h : HW X H a z l) (h0 : 0 ≤ z) (h1 : z < (sI H a (X.1.2 6 2)).toInt) (h2 : 0 ≤ nuN X H a z.toNat) (h3 : nuN X H a z.toNat ≤ l) : HW X H a (z + 1) l := fun i hi => by
  by_cases e : i = z.toNat
  · subst e
    exact ⟨by omega, h2, h3⟩
  · exact h i (by omega)
theorem HW.le (h : HW X H a z l) (hc : c ≤ z) : HW X H a c l := fun i hi => h i (by omega)
def CBn (n : Nat → Int) : Prop := (∀ i, i < 4 → 0 ≤ n i ∧ n i ≤ 16) ∧ n 0 + n 1 + n 2 + n 3 = 16
theorem CBn.iff (h : ∀ i, i < 4 → n i = m i) : CBn n ↔ CBn m := by
  have f : ∀ {n m : Nat → Int}, (∀ i, i < 4 → n i = m i) → CBn n → CBn m := fun {n m} h hn => by
    refine ⟨fun i hi => by rw [← h i hi]; exact hn.1 i hi, ?_⟩
    rw [← h 0 (by decide), ← h 1 (by decide), ← h 2 (by decide), ← h 3 (by decide)]
    exact hn.2
  exact ⟨f h, f fun i hi => (h i hi).symm⟩
theorem CBn.nw (h : NW X H a 4 16) (hl : 4 ≤ (sI H a (X.1.2 6 2)).toInt) : ¬ CBn (nuN X H a) := fun hc => by
  obtain ⟨i, hi, h⟩ := h
  have := hc.1 i (by omega)
  omega
/-- the sum of the first so many, to 4 -/
def SU (n : Nat → Int) (k : Int) : Int := (if 1 ≤ k then n 0 else 0) + (if 2 ≤ k then n 1 else 0) + (if 3 ≤ k then n 2 else 0) + (if 4 ≤ k then n 3 else 0)
theorem SU_0 : SU n 0 = 0 := rfl
theorem SU_4 : SU n 4 = n 0 + n 1 + n 2 + n 3 := rfl
theorem SU_step (h0 : 0 ≤ z) (h3 : z ≤ 3) : SU n (z + 1) = SU n z + n z.toNat := by
  rcases (show z = 0 ∨ z = 1 ∨ z = 2 ∨ z = 3 by omega) with rfl | rfl | rfl | rfl
  · show SU n 1 = SU n 0 + n 0
    simp [SU]
  · show SU n 2 = SU n 1 + n 1
    simp [SU]
  · show SU n 3 = SU n 2 + n 2
    simp [SU]
  · show SU n 4 = SU n 3 + n 3
    simp [SU]
/-- when odds can be told -/
def WGY (t l w d : Int) (C : Prop) : Prop := 0 ≤ t ∧ t ≤ 3 ∧ 4 ≤ l ∧ 1 ≤ w ∧ w ≤ 99 ∧ 1 ≤ d ∧ d ≤ 8 ∧ C
theorem WGY.iff {t l l2 w d : Int} {C C2 : Prop} (hl : 0 ≤ t → t ≤ 3 → l = l2) (hc : 0 ≤ t → t ≤ 3 → 4 ≤ l → (C ↔ C2)) : WGY t l w d C ↔ WGY t l2 w d C2 := by
  constructor
  · rintro ⟨h1, h2, h3, h4, h5, h6, h7, h8⟩
    exact ⟨h1, h2, by rw [← hl h1 h2]; exact h3, h4, h5, h6, h7, (hc h1 h2 h3).mp h8⟩
  · rintro ⟨h1, h2, h3, h4, h5, h6, h7, h8⟩
    have h3 : 4 ≤ l := by rw [hl h1 h2]; exact h3
    exact ⟨h1, h2, h3, h4, h5, h6, h7, (hc h1 h2 h3).mpr h8⟩
def nCI (nd : Nat → Nat) (H : Heap) (t : Int) : Nat → Int := fun i => (nC nd H t.toNat i).toInt
def nMI (na : Nat) (H : Heap) (t : Int) : Nat → Int := fun i => (nM na H t.toNat i).toInt
end FRO2
-- the game of two walls
section FRG
variable {X : xW} {Γ : Nat → Option Nat} {H H0 H1 : Heap} {gs : List Nat} {m k o p n a b s w l v : Int} {T T' : Int → Int → Prop}
/-- how high the first may come -/
def rT (o p m k : Int) : Int := if o + m ≤ 12 ∧ o + m ≤ p + k then o + m else if p + k ≤ 12 then p + k else 12
/-- turns by greatest raises, so many at most -/
def TG (m k : Int) : Nat → Int → Int → Int
  | 0, _, _ => 0
  | f + 1, o, p => if o < rT o p m k then 1 + TG m k f p (rT o p m k) else 0
theorem TG_step (h0 : 0 ≤ n) (h1 : n < 25) (h : o < rT o p m k) : TG m k (25 - n).toNat o p = 1 + TG m k (25 - (n + 1)).toNat p (rT o p m k) := by
  rw [show (25 - n).toNat = (25 - (n + 1)).toNat + 1 by omega]
  show (if o < rT o p m k then _ else _) = _
  rw [if_pos h]
theorem TG_stop {f : Nat} (h : ¬ o < rT o p m k) : TG m k f o p = 0 := by
  cases f with
  | zero => rfl
  | succ f =>
    show (if o < rT o p m k then _ else _) = _
    rw [if_neg h]
theorem rT_top (ho : o ≤ 12) (hp : p ≤ 12) (h : 24 ≤ o + p) : ¬ o < rT o p m k := by
  unfold rT
  (repeat' split) <;> omega
/-- the least raise to a place that the other loses -/
def LST (T : Int → Int → Prop) (o p l v : Int) : Prop := (1 ≤ v ∧ o + v ≤ l ∧ ¬ T p (o + v) ∧ ∀ r, 1 ≤ r → r < v → T p (o + r)) ∨ (v = 0 ∧ ∀ r, 1 ≤ r → o + r ≤ l → T p (o + r))
/-- who wins, where the sum is above s, or is s and the first below w -/
def FXI (T : Int → Int → Prop) (m k s w : Int) : Prop := ∀ o p, 0 ≤ o → o ≤ 12 → 0 ≤ p → p ≤ 12 → (s < o + p ∨ (o + p = s ∧ o < w)) → (T o p ↔ ∃ r, 1 ≤ r ∧ o + r ≤ rT o p m k ∧ ¬ T p (o + r))
theorem rT_le : rT o p m k ≤ 12 := by
  unfold rT
  (repeat' split) <;> omega
theorem FXI_next (h : FXI T m k s w) (hw : 13 ≤ w ∨ s < w) : FXI T m k (s + (-1)) 0 := fun o p h1 h2 h3 h4 h5 => h o p h1 h2 h3 h4 (by omega)
theorem FXI_begin (h : FXI T m k s 0) (hw : w ≤ 0 ∨ w ≤ s - 12) : FXI T m k s w := fun o p h1 h2 h3 h4 h5 => h o p h1 h2 h3 h4 (by omega)
theorem FXI_start : FXI T m k 24 0 := fun o p h1 h2 h3 h4 h5 => by omega
theorem FXI_skip (h : FXI T m k s w) (hw : s - w < 0 ∨ 12 < s - w) : FXI T m k s (w + 1) := fun o p h1 h2 h3 h4 h5 => h o p h1 h2 h3 h4 (by omega)
theorem LST_pos (h : LST T o p l v) : 0 < v ↔ ∃ r, 1 ≤ r ∧ o + r ≤ l ∧ ¬ T p (o + r) := by
  rcases h with ⟨h1, h2, h3, h4⟩ | ⟨h1, h2⟩
  · exact ⟨fun _ => ⟨v, h1, h2, h3⟩, fun _ => by omega⟩
  · refine ⟨fun h => by omega, fun ⟨r, r1, r2, r3⟩ => absurd (h2 r r1 r2) r3⟩
theorem LST_nil (h : ∀ r, 1 ≤ r → r < n → T p (o + r)) (hn : l < o + n) : LST T o p l 0 := Or.inr ⟨rfl, fun r h1 h2 => h r h1 (by omega)⟩
theorem FXI_uniq (h : FXI T m k s 0) (h' : FXI T' m k s 0) : ∀ (N : Nat) (o p : Int), 0 ≤ o → o ≤ 12 → 0 ≤ p → p ≤ 12 → (24 - (o + p)).toNat < N → s < o + p → (T o p ↔ T' o p) := by
  intro N
  induction N with
  | zero => intro o p _ _ _ _ hN; exact absurd hN (Nat.not_lt_zero _)
  | succ N ih =>
    intro o p h1 h2 h3 h4 hN hs
    rw [h o p h1 h2 h3 h4 (Or.inl hs), h' o p h1 h2 h3 h4 (Or.inl hs)]
    have e : ∀ r, 1 ≤ r → o + r ≤ rT o p m k → (T p (o + r) ↔ T' p (o + r)) := fun r r1 r2 => by
      have := rT_le (o := o) (p := p) (m := m) (k := k)
      exact ih p (o + r) h3 h4 (by omega) (by omega) (by omega) (by omega)
    constructor
    · rintro ⟨r, r1, r2, r3⟩
      exact ⟨r, r1, r2, fun q => r3 ((e r r1 r2).mpr q)⟩
    · rintro ⟨r, r1, r2, r3⟩
      exact ⟨r, r1, r2, fun q => r3 ((e r r1 r2).mp q)⟩
theorem LST_uniq {v' : Int} (h : LST T o p l v) (h' : LST T' o p l v') (e : ∀ r, 1 ≤ r → o + r ≤ l → (T p (o + r) ↔ T' p (o + r))) : v = v' := by
  rcases h with ⟨h1, h2, h3, h4⟩ | ⟨h1, h2⟩ <;> rcases h' with ⟨k1, k2, k3, k4⟩ | ⟨k1, k2⟩
  · rcases (show v < v' ∨ v = v' ∨ v' < v by omega) with q | q | q
    · exact absurd ((e v h1 h2).mpr (k4 v h1 q)) h3
    · exact q
    · exact absurd ((e v' k1 k2).mp (h4 v' k1 q)) k3
  · exact absurd ((e v h1 h2).mpr (k2 v h1 h2)) h3
  · exact absurd ((e v' k1 k2).mp (h2 v' k1 k2)) k3
  · omega
/-- both sides' games come to one end -/
theorem game_eq {v' s' : Int} (h : FXI T m k s 0) (h' : FXI T' m k s' 0) (hs : s < a + b) (hs' : s' < a + b) (a0 : 0 ≤ a) (b0 : 0 ≤ b) (b1 : b ≤ 12) (g : LST T a b (rT a b m k) v) (g' : LST T' a b (rT a b m k) v') : v = v' := by
  have mono : ∀ {T : Int → Int → Prop} {s : Int}, FXI T m k s 0 → s < a + b → FXI T m k (a + b - 1) 0 := fun h hs o p h1 h2 h3 h4 h5 => h o p h1 h2 h3 h4 (by omega)
  refine LST_uniq g g' fun r r1 r2 => ?_
  have := rT_le (o := a) (p := b) (m := m) (k := k)
  exact FXI_uniq (mono h hs) (mono h' hs') 25 b (a + r) b0 b1 (by omega) (by omega) (by omega) (by omega)
/-- there is a raise to a place that the other loses -/
def EXW (T : Int → Int → Prop) (o p l : Int) : Prop := ∃ r, 1 ≤ r ∧ o + r ≤ l ∧ ¬ T p (o + r)
theorem EXW.mk (r : Int) (h1 : 1 ≤ r) (h2 : o + r ≤ l) (h3 : ¬ T p (o + r)) : EXW T o p l := ⟨r, h1, h2, h3⟩
/-- a table of places won -/
def TB (H : Heap) (wa : Nat) : Int → Int → Prop := fun x y => (sI H wa (13 * x + y).toNat).toInt ≠ 0
theorem TB_up {wa i : Nat} {x : Int32} (h : FXI (TB H wa) m k s w) (w0 : 0 ≤ w) (w1 : w ≤ 12) (q0 : 0 ≤ s - w) (q1 : s - w ≤ 12) (hi : (i : Int) = 13 * w + (s - w)) (U : Up H H1 wa i (.int x)) (hx : x.toInt ≠ 0 ↔ ∃ r, 1 ≤ r ∧ w + r ≤ rT w (s - w) m k ∧ ¬ TB H wa (s - w) (w + r)) : FXI (TB H1 wa) m k s (w + 1) := by
  have ne : ∀ x y : Int, 0 ≤ x → x ≤ 12 → 0 ≤ y → y ≤ 12 → ¬ (x = w ∧ y = s - w) → (TB H1 wa x y ↔ TB H wa x y) := fun x y x0 x1 y0 y1 hn => by
    have e : sI H1 wa (13 * x + y).toNat = sI H wa (13 * x + y).toNat := up_nI U (fun q => hn (by have := q.2; omega))
    unfold TB
    rw [e]
  have ne2 : ∀ o p r : Int, 0 ≤ o → 0 ≤ p → p ≤ 12 → s ≤ o + p → 1 ≤ r → o + r ≤ rT o p m k → (TB H1 wa p (o + r) ↔ TB H wa p (o + r)) := fun o p r o0 p0 p1 hs r1 r2 => by
    have := rT_le (o := o) (p := p) (m := m) (k := k)
    exact ne p (o + r) p0 p1 (by omega) (by omega) (by omega)
  intro o p h1 h2 h3 h4 h5
  have ee : (∃ r, 1 ≤ r ∧ o + r ≤ rT o p m k ∧ ¬ TB H1 wa p (o + r)) ↔ ∃ r, 1 ≤ r ∧ o + r ≤ rT o p m k ∧ ¬ TB H wa p (o + r) :=
    ⟨fun ⟨r, r1, r2, r3⟩ => ⟨r, r1, r2, fun q => r3 ((ne2 o p r h1 h3 h4 (by omega) r1 r2).mpr q)⟩, fun ⟨r, r1, r2, r3⟩ => ⟨r, r1, r2, fun q => r3 ((ne2 o p r h1 h3 h4 (by omega) r1 r2).mp q)⟩⟩
  rw [ee]
  by_cases e : o = w ∧ p = s - w
  · obtain ⟨rfl, rfl⟩ := e
    rw [← hx]
    unfold TB
    rw [show (13 * o + (s - o)).toNat = i by omega, up_I U]
  · rw [ne o p h1 h2 h3 h4 e]
    have h6 : s < o + p ∨ (o + p = s ∧ o < w) := by
      clear hx ee ne ne2 h U
      omega
    exact h o p h1 h2 h3 h4 h6
theorem TB_upL {wa i : Nat} {x : Int32} (h : FXI (TB H wa) m k s w) (w0 : 0 ≤ w) (w1 : w ≤ 12) (q0 : 0 ≤ s - w) (q1 : s - w ≤ 12) (hi : (i : Int) = 13 * w + (s - w)) (U : Up H H1 wa i (.int x)) (g : LST (TB H wa) w (s - w) (rT w (s - w) m k) v) (hx : x.toInt ≠ 0 ↔ 0 < v) : FXI (TB H1 wa) m k s (w + 1) := TB_up h w0 w1 q0 q1 hi U (hx.trans (LST_pos g))
theorem and1 {x : Int32} {z : Int} (hx : x.toInt = z) (h0 : 0 ≤ z) (h1 : z ≤ 1) : (x &&& 1).toInt = z := by
  rcases z01 hx h0 h1 with rfl | rfl <;> exact hx
theorem f_ref {aa r ci kf kd : Nat} {fts : List xT} {hi : Int} (hC : Conf X Γ H) (g : Γ aa = some r) (hr : kO r = some (ci, fts)) (hk : fts[kf]? = some (kd + 2, 0, hi)) : ∃ q, sR H aa (X.1.2 ci kf) = some q ∧ Γ q = some kd := by
  have h := hC aa r g
  unfold okc at h
  rw [hr] at h
  obtain ⟨cell, h1, -, -, h4⟩ := h
  obtain ⟨v, h5, o, e, h6, h7⟩ := h4 kf _ hk
  cases o with
  | none => exact absurd rfl (h6 rfl)
  | some q =>
    refine ⟨q, ?_, h7 q rfl⟩
    unfold sR sv
    rw [h1, Option.bind_some, h5, e]
    rfl
end FRG
-- mornings: rows of works
section FRW2
variable {n l c z : Int} {h t h2 t2 : Nat → Int} {k j N : Nat}
/-- of a night: how many were built if the thaw left just that; the fewest, the most -/
def uE (h t : Nat → Int) (k : Nat) : Int := h (k + 1) + t k - h k
def uL (h t : Nat → Int) (k : Nat) : Int := if h (k + 1) = 0 then 0 else uE h t k
def uH (h t : Nat → Int) (k : Nat) : Int := if uE h t k ≤ 9 then uE h t k else 9
abbrev uOk (h t : Nat → Int) (k : Nat) : Prop := 0 ≤ uL h t k ∧ uL h t k ≤ uH h t k
def uC (h t : Nat → Int) (k : Nat) : Int := if uOk h t k then uH h t k - uL h t k + 1 else 0
def uL0 (h t : Nat → Int) (k : Nat) : Int := if uOk h t k then uL h t k else 0
def uH0 (h t : Nat → Int) (k : Nat) : Int := if uOk h t k then uH h t k else 0
/-- all rows so far, the fewest and the most together, the hardest night, its fewest -/
def uA (h t : Nat → Int) : Nat → Int
  | 0 => 1
  | k + 1 => uA h t k * uC h t k
def uF (h t : Nat → Int) : Nat → Int
  | 0 => 0
  | k + 1 => uF h t k + uL0 h t k
def uG (h t : Nat → Int) : Nat → Int
  | 0 => 0
  | k + 1 => uG h t k + uH0 h t k
def uM (h t : Nat → Int) : Nat → Int
  | 0 => -1
  | k + 1 => if uM h t k < uL0 h t k then uL0 h t k else uM h t k
def uN (h t : Nat → Int) : Nat → Int
  | 0 => 0
  | k + 1 => if uM h t k < uL0 h t k then (k : Int) else uN h t k
theorem uF_s : uF h t (k + 1) = uF h t k + uL0 h t k := rfl
theorem uG_s : uG h t (k + 1) = uG h t k + uH0 h t k := rfl
theorem uM_p (q : uM h t k < uL0 h t k) : uM h t (k + 1) = uL0 h t k := if_pos q
theorem uM_n (q : ¬ uM h t k < uL0 h t k) : uM h t (k + 1) = uM h t k := if_neg q
theorem uN_p (q : uM h t k < uL0 h t k) : uN h t (k + 1) = (k : Int) := if_pos q
theorem uN_n (q : ¬ uM h t k < uL0 h t k) : uN h t (k + 1) = uN h t k := if_neg q
theorem uZ_A : uA h t ((0 : Int).toNat) = 1 := rfl
theorem uZ_F : uF h t ((0 : Int).toNat) = 0 := rfl
theorem uZ_G : uG h t ((0 : Int).toNat) = 0 := rfl
theorem uZ_N : uN h t ((0 : Int).toNat) = 0 := rfl
theorem uZ_M : uM h t ((0 : Int).toNat) = -1 := rfl
theorem uC_rng : 0 ≤ uC h t k ∧ uC h t k ≤ 10 := by
  unfold uC
  split
  · rename_i q
    have h1 := q.1; have h2 := q.2
    have : uH h t k ≤ 9 := by unfold uH; split <;> omega
    omega
  · omega
theorem uA_rng : ∀ k, 0 ≤ uA h t k ∧ uA h t k ≤ 10 ^ k := by
  intro k
  induction k with
  | zero =>
    show (0 : Int) ≤ 1 ∧ (1 : Int) ≤ 10 ^ 0
    decide
  | succ k ih =>
    have c := uC_rng (h := h) (t := t) (k := k)
    refine ⟨Int.mul_nonneg ih.1 c.1, ?_⟩
    show uA h t k * uC h t k ≤ _
    rw [Int.pow_succ]
    exact Int.le_trans (Int.mul_le_mul_of_nonneg_left c.2 ih.1) (Int.mul_le_mul_of_nonneg_right ih.2 (by decide))
theorem uA_top (hk : k ≤ 11) : 0 ≤ uA h t k ∧ uA h t k ≤ 100000000000 := by
  have h1 := uA_rng (h := h) (t := t) k
  refine ⟨h1.1, Int.le_trans h1.2 ?_⟩
  rcases (show k = 0 ∨ k = 1 ∨ k = 2 ∨ k = 3 ∨ k = 4 ∨ k = 5 ∨ k = 6 ∨ k = 7 ∨ k = 8 ∨ k = 9 ∨ k = 10 ∨ k = 11 by omega) with rfl | rfl | rfl | rfl | rfl | rfl | rfl | rfl | rfl | rfl | rfl | rfl <;> decide
theorem uA_zero (hj : ¬ uOk h t j) : ∀ N, j < N → uA h t N = 0 := by
  intro N
  induction N with
  | zero => intro h; exact absurd h (Nat.not_lt_zero _)
  | succ N ih =>
    intro hN
    show uA h t N * uC h t N = 0
    by_cases e : j = N
    · subst e
      rw [show uC h t j = 0 by unfold uC; rw [if_neg hj], Int.mul_zero]
    · rw [ih (by omega), Int.zero_mul]
theorem u0_rng : 0 ≤ uL0 h t k ∧ uL0 h t k ≤ 9 ∧ 0 ≤ uH0 h t k ∧ uH0 h t k ≤ 9 := by
  unfold uL0 uH0
  by_cases q : uOk h t k
  · rw [if_pos q, if_pos q]
    have h1 := q.1; have h2 := q.2
    have : uH h t k ≤ 9 := by unfold uH; split <;> omega
    omega
  · rw [if_neg q, if_neg q]
    omega
theorem uFG_rng : ∀ k : Nat, 0 ≤ uF h t k ∧ uF h t k ≤ 9 * k ∧ 0 ≤ uG h t k ∧ uG h t k ≤ 9 * k ∧ -1 ≤ uM h t k ∧ uM h t k ≤ 9 ∧ 0 ≤ uN h t k ∧ uN h t k ≤ k := by
  intro k
  induction k with
  | zero =>
    show (0 : Int) ≤ 0 ∧ (0 : Int) ≤ 9 * ((0 : Nat) : Int) ∧ (0 : Int) ≤ 0 ∧ (0 : Int) ≤ 9 * ((0 : Nat) : Int) ∧ (-1 : Int) ≤ -1 ∧ (-1 : Int) ≤ 9 ∧ (0 : Int) ≤ 0 ∧ (0 : Int) ≤ ((0 : Nat) : Int)
    decide
  | succ k ih =>
    have c := u0_rng (h := h) (t := t) (k := k)
    have e1 : uF h t (k + 1) = uF h t k + uL0 h t k := rfl
    have e2 : uG h t (k + 1) = uG h t k + uH0 h t k := rfl
    have e3 : uM h t (k + 1) = if uM h t k < uL0 h t k then uL0 h t k else uM h t k := rfl
    have e4 : uN h t (k + 1) = if uM h t k < uL0 h t k then (k : Int) else uN h t k := rfl
    rw [e1, e2, e3, e4]
    split <;> omega
theorem uk_congr (N : Nat) (hh : ∀ i, i ≤ N → h i = h2 i) (ht : ∀ i, i < N → t i = t2 i) : uA h t N = uA h2 t2 N ∧ uF h t N = uF h2 t2 N ∧ uG h t N = uG h2 t2 N ∧ uM h t N = uM h2 t2 N ∧ uN h t N = uN h2 t2 N := by
  induction N with
  | zero => exact ⟨rfl, rfl, rfl, rfl, rfl⟩
  | succ N ih =>
    obtain ⟨a1, a2, a3, a4, a5⟩ := ih (fun i hi => hh i (by omega)) (fun i hi => ht i (by omega))
    have e : uE h t N = uE h2 t2 N := by unfold uE; rw [hh (N + 1) (by omega), hh N (by omega), ht N (by omega)]
    have eL : uL h t N = uL h2 t2 N := by unfold uL; rw [e, hh (N + 1) (by omega)]
    have eH : uH h t N = uH h2 t2 N := by unfold uH; rw [e]
    have eO : uOk h t N ↔ uOk h2 t2 N := by unfold uOk; rw [eL, eH]
    have eC : uC h t N = uC h2 t2 N := by
      unfold uC
      by_cases q : uOk h t N
      · rw [if_pos q, if_pos (eO.mp q), eL, eH]
      · rw [if_neg q, if_neg (fun w => q (eO.mpr w))]
    have eL0 : uL0 h t N = uL0 h2 t2 N := by
      unfold uL0
      by_cases q : uOk h t N
      · rw [if_pos q, if_pos (eO.mp q), eL]
      · rw [if_neg q, if_neg (fun w => q (eO.mpr w))]
    have eH0 : uH0 h t N = uH0 h2 t2 N := by
      unfold uH0
      by_cases q : uOk h t N
      · rw [if_pos q, if_pos (eO.mp q), eH]
      · rw [if_neg q, if_neg (fun w => q (eO.mpr w))]
    refine ⟨?_, ?_, ?_, ?_, ?_⟩
    · show uA h t N * uC h t N = uA h2 t2 N * uC h2 t2 N; rw [a1, eC]
    · show uF h t N + uL0 h t N = uF h2 t2 N + uL0 h2 t2 N; rw [a2, eL0]
    · show uG h t N + uH0 h t N = uG h2 t2 N + uH0 h2 t2 N; rw [a3, eH0]
    · show (if uM h t N < uL0 h t N then uL0 h t N else uM h t N) = (if uM h2 t2 N < uL0 h2 t2 N then uL0 h2 t2 N else uM h2 t2 N); rw [a4, eL0]
    · show (if uM h t N < uL0 h t N then (N : Int) else uN h t N) = (if uM h2 t2 N < uL0 h2 t2 N then (N : Int) else uN h2 t2 N); rw [a4, eL0, a5]
end FRW2
section FRWU
variable {h t : Nat → Int} {k : Nat}
/-- of a night, from 9 down: what is counted so far -/
def wI (E B T u w lo hi : Int) : Prop := (B = 0 ∧ ((T ≤ u ∧ w = 0 ∧ lo = 0 ∧ hi = 0) ∨ (u < T ∧ w = T - u ∧ lo = u + 1 ∧ hi = T))) ∨ (B ≠ 0 ∧ ((u < E ∧ E ≤ 9 ∧ w = 1 ∧ lo = E ∧ hi = E) ∨ ((E ≤ u ∨ 9 < E) ∧ w = 0 ∧ lo = 0 ∧ hi = 0)))
theorem u_mul {x a b : Int64} (e : x = a * b) (ha : a.toInt = uA h t k) (hb : b.toInt = uC h t k) (hk : k + 1 ≤ 11) : x.toInt = uA h t (k + 1) := by
  have := uA_top (h := h) (t := t) hk
  have e2 : uA h t (k + 1) = uA h t k * uC h t k := rfl
  rw [e2] at this ⊢
  exact l_mul e ha hb (by omega) (by omega)
theorem uI_end {w lo hi u : Int} (hI : wI (uE h t k) (h (k + 1)) (uH h t k) u w lo hi) (hu : u = -1) (b0 : 0 ≤ h (k + 1)) : w = uC h t k ∧ lo = uL0 h t k ∧ hi = uH0 h t k := by
  have hH : uH h t k ≤ 9 ∧ uH h t k ≤ uE h t k ∧ (uH h t k = uE h t k ∨ uH h t k = 9) := by unfold uH; split <;> omega
  subst hu
  unfold uC uL0 uH0 uOk
  rcases hI with ⟨q, hI⟩ | ⟨q, hI⟩
  · have e : uL h t k = 0 := by unfold uL; rw [if_pos q]
    rw [e]
    rcases hI with ⟨a1, a2, a3, a4⟩ | ⟨a1, a2, a3, a4⟩
    · rw [if_neg (by omega), if_neg (by omega), if_neg (by omega)]; omega
    · rw [if_pos (by omega), if_pos (by omega), if_pos (by omega)]; omega
  · have e : uL h t k = uE h t k := by unfold uL; rw [if_neg q]
    rw [e]
    rcases hI with ⟨a1, a2, a3, a4, a5⟩ | ⟨a1, a2, a3, a4⟩
    · rw [if_pos (by omega), if_pos (by omega), if_pos (by omega)]; omega
    · rw [if_neg (by omega), if_neg (by omega), if_neg (by omega)]; omega
theorem uH_rng : uH h t k ≤ 9 ∧ uH h t k ≤ uE h t k ∧ (uH h t k = uE h t k ∨ uH h t k = 9) := by unfold uH; split <;> omega
end FRWU
-- the same, seen from outside alone (omega compares what it does not know by unfolding)
section FRWO
variable {n l c z : Int} {h t h2 t2 : Nat → Int} {k j N : Nat}
theorem oE : ∃ f : (Nat → Int) → (Nat → Int) → Nat → Int, f = uE := ⟨uE, rfl⟩
noncomputable def wE : (Nat → Int) → (Nat → Int) → Nat → Int := Classical.choose oE
theorem wE_eq : wE = uE := Classical.choose_spec oE
theorem oL : ∃ f : (Nat → Int) → (Nat → Int) → Nat → Int, f = uL := ⟨uL, rfl⟩
noncomputable def wL : (Nat → Int) → (Nat → Int) → Nat → Int := Classical.choose oL
theorem wL_eq : wL = uL := Classical.choose_spec oL
theorem oH : ∃ f : (Nat → Int) → (Nat → Int) → Nat → Int, f = uH := ⟨uH, rfl⟩
noncomputable def wH : (Nat → Int) → (Nat → Int) → Nat → Int := Classical.choose oH
theorem wH_eq : wH = uH := Classical.choose_spec oH
theorem oC : ∃ f : (Nat → Int) → (Nat → Int) → Nat → Int, f = uC := ⟨uC, rfl⟩
noncomputable def wC : (Nat → Int) → (Nat → Int) → Nat → Int := Classical.choose oC
theorem wC_eq : wC = uC := Classical.choose_spec oC
theorem oL0 : ∃ f : (Nat → Int) → (Nat → Int) → Nat → Int, f = uL0 := ⟨uL0, rfl⟩
noncomputable def wL0 : (Nat → Int) → (Nat → Int) → Nat → Int := Classical.choose oL0
theorem wL0_eq : wL0 = uL0 := Classical.choose_spec oL0
theorem oH0 : ∃ f : (Nat → Int) → (Nat → Int) → Nat → Int, f = uH0 := ⟨uH0, rfl⟩
noncomputable def wH0 : (Nat → Int) → (Nat → Int) → Nat → Int := Classical.choose oH0
theorem wH0_eq : wH0 = uH0 := Classical.choose_spec oH0
theorem oA : ∃ f : (Nat → Int) → (Nat → Int) → Nat → Int, f = uA := ⟨uA, rfl⟩
noncomputable def wA : (Nat → Int) → (Nat → Int) → Nat → Int := Classical.choose oA
theorem wA_eq : wA = uA := Classical.choose_spec oA
theorem oF : ∃ f : (Nat → Int) → (Nat → Int) → Nat → Int, f = uF := ⟨uF, rfl⟩
noncomputable def wF : (Nat → Int) → (Nat → Int) → Nat → Int := Classical.choose oF
theorem wF_eq : wF = uF := Classical.choose_spec oF
theorem oG : ∃ f : (Nat → Int) → (Nat → Int) → Nat → Int, f = uG := ⟨uG, rfl⟩
noncomputable def wG : (Nat → Int) → (Nat → Int) → Nat → Int := Classical.choose oG
theorem wG_eq : wG = uG := Classical.choose_spec oG
theorem oM : ∃ f : (Nat → Int) → (Nat → Int) → Nat → Int, f = uM := ⟨uM, rfl⟩
noncomputable def wM : (Nat → Int) → (Nat → Int) → Nat → Int := Classical.choose oM
theorem wM_eq : wM = uM := Classical.choose_spec oM
theorem oN : ∃ f : (Nat → Int) → (Nat → Int) → Nat → Int, f = uN := ⟨uN, rfl⟩
noncomputable def wN : (Nat → Int) → (Nat → Int) → Nat → Int := Classical.choose oN
theorem wN_eq : wN = uN := Classical.choose_spec oN
abbrev wOk (h t : Nat → Int) (k : Nat) : Prop := 0 ≤ wL h t k ∧ wL h t k ≤ wH h t k
theorem wOk_u (q : wOk h t k) : uOk h t k := by
  have q1 := q.1; have q2 := q.2
  rw [wL_eq] at q1 q2; rw [wH_eq] at q2
  exact ⟨q1, q2⟩
theorem wE_d : wE h t k = h (k + 1) + t k - h k := by rw [wE_eq]; rfl
theorem wL_d : wL h t k = if h (k + 1) = 0 then 0 else wE h t k := by rw [wL_eq, wE_eq]; rfl
theorem wH_d : wH h t k = if wE h t k ≤ 9 then wE h t k else 9 := by rw [wH_eq, wE_eq]; rfl
theorem wC_ok (q : wOk h t k) : wC h t k = wH h t k - wL h t k + 1 := by rw [wC_eq, wH_eq, wL_eq]; exact if_pos (wOk_u q)
theorem wL0_ok (q : wOk h t k) : wL0 h t k = wL h t k := by rw [wL0_eq, wL_eq]; exact if_pos (wOk_u q)
theorem wH0_ok (q : wOk h t k) : wH0 h t k = wH h t k := by rw [wH0_eq, wH_eq]; exact if_pos (wOk_u q)
theorem wF_s : wF h t (k + 1) = wF h t k + wL0 h t k := by rw [wF_eq, wL0_eq]; rfl
theorem wG_s : wG h t (k + 1) = wG h t k + wH0 h t k := by rw [wG_eq, wH0_eq]; rfl
theorem wM_p (q : wM h t k < wL0 h t k) : wM h t (k + 1) = wL0 h t k := by rw [wM_eq, wL0_eq] at *; exact if_pos q
theorem wM_n (q : ¬ wM h t k < wL0 h t k) : wM h t (k + 1) = wM h t k := by rw [wM_eq, wL0_eq] at q; rw [wM_eq]; exact if_neg q
theorem wN_p (q : wM h t k < wL0 h t k) : wN h t (k + 1) = (k : Int) := by rw [wM_eq, wL0_eq] at q; rw [wN_eq]; exact if_pos q
theorem wN_n (q : ¬ wM h t k < wL0 h t k) : wN h t (k + 1) = wN h t k := by rw [wM_eq, wL0_eq] at q; rw [wN_eq]; exact if_neg q
theorem wZ_A : wA h t ((0 : Int).toNat) = 1 := by rw [wA_eq]; rfl
theorem wZ_F : wF h t ((0 : Int).toNat) = 0 := by rw [wF_eq]; rfl
theorem wZ_G : wG h t ((0 : Int).toNat) = 0 := by rw [wG_eq]; rfl
theorem wZ_N : wN h t ((0 : Int).toNat) = 0 := by rw [wN_eq]; rfl
theorem wZ_M : wM h t ((0 : Int).toNat) = -1 := by rw [wM_eq]; rfl
theorem wC_rng : 0 ≤ wC h t k ∧ wC h t k ≤ 10 := by rw [wC_eq]; exact uC_rng
theorem wA_rng (k : Nat) : 0 ≤ wA h t k ∧ wA h t k ≤ 10 ^ k := by rw [wA_eq]; exact uA_rng k
theorem wA_zero (hj : ¬ wOk h t j) (N : Nat) (hN : j < N) : wA h t N = 0 := by
  rw [wA_eq]
  refine uA_zero (fun q => hj ?_) N hN
  have q1 := q.1; have q2 := q.2
  rw [← wL_eq] at q1 q2; rw [← wH_eq] at q2
  exact ⟨q1, q2⟩
theorem w0_rng : 0 ≤ wL0 h t k ∧ wL0 h t k ≤ 9 ∧ 0 ≤ wH0 h t k ∧ wH0 h t k ≤ 9 := by rw [wL0_eq, wH0_eq]; exact u0_rng
theorem wFG_rng (k : Nat) : 0 ≤ wF h t k ∧ wF h t k ≤ 9 * k ∧ 0 ≤ wG h t k ∧ wG h t k ≤ 9 * k ∧ -1 ≤ wM h t k ∧ wM h t k ≤ 9 ∧ 0 ≤ wN h t k ∧ wN h t k ≤ k := by rw [wF_eq, wG_eq, wM_eq, wN_eq]; exact uFG_rng k
theorem wk_congr (N : Nat) (hh : ∀ i, i ≤ N → h i = h2 i) (ht : ∀ i, i < N → t i = t2 i) : wA h t N = wA h2 t2 N ∧ wF h t N = wF h2 t2 N ∧ wG h t N = wG h2 t2 N ∧ wM h t N = wM h2 t2 N ∧ wN h t N = wN h2 t2 N := by rw [wA_eq, wF_eq, wG_eq, wM_eq, wN_eq]; exact uk_congr N hh ht
theorem w_mul {x a b : Int64} (e : x = a * b) (ha : a.toInt = wA h t k) (hb : b.toInt = wC h t k) (hk : k + 1 ≤ 11) : x.toInt = wA h t (k + 1) := by rw [wA_eq] at *; rw [wC_eq] at hb; exact u_mul e ha hb hk
theorem wH_rng : wH h t k ≤ 9 ∧ wH h t k ≤ wE h t k ∧ (wH h t k = wE h t k ∨ wH h t k = 9) := by rw [wH_eq, wE_eq]; exact uH_rng
theorem wI_end {w lo hi u : Int} (hI : wI (wE h t k) (h (k + 1)) (wH h t k) u w lo hi) (hu : u = -1) (b0 : 0 ≤ h (k + 1)) : w = wC h t k ∧ lo = wL0 h t k ∧ hi = wH0 h t k := by rw [wE_eq, wH_eq] at hI; rw [wC_eq, wL0_eq, wH0_eq]; exact uI_end hI hu b0
end FRWO
section FRW3
variable {X : xW} {Γ : Nat → Option Nat} {H H0 H1 H2 : Heap} {gs : List Nat} {a x1 ta mo wk m1 : Nat} {td nd : Nat → Nat} {h t : Nat → Int} {k : Nat} {z A F G N : Int}
theorem l_toi {x : Int64} {y : Int32} {b : Int} (e : y = x.toInt32) (hx : x.toInt = b) (h1 : -2147483648 ≤ b) (h2 : b ≤ 2147483647) : y.toInt = b := by
  rw [e, Int64.toInt_toInt32, hx]
  exact bm32 h1 h2
theorem nu_at (hC : Conf X Γ H0) (hk : Kp X Γ gs H0 H) (g : Γ a = some 1) (h18 : gs.contains 18 = true) (h21 : gs.contains 21 = true) (h23 : gs.contains 23 = true) {v : Int64} (f : ∀ q, sR H a (X.1.2 6 0) = some q → 0 ≤ z → z < (sI H a (X.1.2 6 2)).toInt → v = sJ H q z.toNat) (h0 : 0 ≤ z) (h1 : z < (sI H0 a (X.1.2 6 2)).toInt) : v.toInt = nuN X H0 a z.toNat := by
  have e1 := nuA_some hC g
  have e2 : sR H a (X.1.2 6 0) = some (nuA X H0 a) := (kp_R hk g (ci := 6) (k := 0) rfl (by decide) (gs_any h18 rfl)).trans e1
  obtain ⟨q, q1, q2⟩ := f_ref hC g (ci := 6) (kf := 0) rfl rfl
  have g24 : Γ (nuA X H0 a) = some 24 := by rw [nuA_eq q1]; exact q2
  rw [f _ e2 h0 (by rw [kp_I hk g (ci := 6) (k := 2) rfl (by decide) (gs_any h21 rfl)]; exact h1), kp_aJ hk _ g24 rfl (gs_any h23 rfl)]
  rfl
/-- what mornings tell -/
def MoS (X : xW) (H : Heap) (mo : Nat) (A F G N : Int) : Prop := (sJ H mo (X.1.2 0 0)).toInt = A ∧ (A ≠ 0 → (sI H mo (X.1.2 0 1)).toInt = F ∧ (sI H mo (X.1.2 0 2)).toInt = G ∧ (sI H mo (X.1.2 0 3)).toInt = N)
def MoK (X : xW) (H H1 : Heap) (mo : Nat) : Prop := sJ H1 mo (X.1.2 0 0) = sJ H mo (X.1.2 0 0) ∧ sI H1 mo (X.1.2 0 1) = sI H mo (X.1.2 0 1) ∧ sI H1 mo (X.1.2 0 2) = sI H mo (X.1.2 0 2) ∧ sI H1 mo (X.1.2 0 3) = sI H mo (X.1.2 0 3)
theorem MoK.rf : MoK X H H mo := ⟨rfl, rfl, rfl, rfl⟩
theorem MoK.ne {b j : Nat} {v : Value} (h : MoK X H0 H mo) (U : Up H H1 b j v) (hn : b ≠ mo) : MoK X H0 H1 mo := by
  have e1 := fun j => up_nI (a' := mo) (j' := j) U (fun q => hn q.1.symm)
  have e2 := fun j => up_nJ (a' := mo) (j' := j) U (fun q => hn q.1.symm)
  unfold MoK
  rw [e2, e1, e1, e1]
  exact h
theorem MoK.kp (h : MoK X H0 H mo) (hk : Kp X Γ gs H H1) (g : Γ mo = some 8) (h5 : gs.contains 5 = true) : MoK X H0 H1 mo := by
  have hs : ∀ k, k < 4 → (gs.any fun g => gF g 8 k) = true → sv H1 mo (X.1.2 0 k) = sv H mo (X.1.2 0 k) := fun k hk4 hp => hk mo 8 g _ (by unfold pr; exact Or.inr (Or.inr (Or.inr ⟨k, by simpa using hk4, hp, rfl⟩)))
  unfold MoK sI sJ
  rw [hs 0 (by decide) (gs_any h5 rfl), hs 1 (by decide) (gs_any h5 rfl), hs 2 (by decide) (gs_any h5 rfl), hs 3 (by decide) (gs_any h5 rfl)]
  exact h
theorem MoK.kp1 (hk : Kp X Γ gs H H1) (g : Γ mo = some 8) (h1 : gs.contains 1 = true) : MoK X H H1 mo := by
  have hs : ∀ k, k < 4 → (gs.any fun g => gF g 8 k) = true → sv H1 mo (X.1.2 0 k) = sv H mo (X.1.2 0 k) := fun k hk4 hp => hk mo 8 g _ (by unfold pr; exact Or.inr (Or.inr (Or.inr ⟨k, by simpa using hk4, hp, rfl⟩)))
  unfold MoK sI sJ
  rw [hs 0 (by decide) (gs_any h1 rfl), hs 1 (by decide) (gs_any h1 rfl), hs 2 (by decide) (gs_any h1 rfl), hs 3 (by decide) (gs_any h1 rfl)]
  exact ⟨rfl, rfl, rfl, rfl⟩
theorem MoS.of (h : MoS X H mo A F G N) (k : MoK X H H1 mo) : MoS X H1 mo A F G N := by
  unfold MoS
  rw [k.1, k.2.1, k.2.2.1, k.2.2.2]
  exact h
theorem MoS.ne {b j : Nat} {v : Value} (h : MoS X H mo A F G N) (U : Up H H1 b j v) (hn : b ≠ mo) : MoS X H1 mo A F G N := h.of (MoK.ne MoK.rf U hn)
theorem MoS.kp (h : MoS X H mo A F G N) (hk : Kp X Γ gs H H1) (g : Γ mo = some 8) (h5 : gs.contains 5 = true) : MoS X H1 mo A F G N := h.of (MoK.kp MoK.rf hk g h5)
/-- the reference's -/
def MmS (X : xW) (H : Heap) (m1 wk : Nat) (A F G N : Int) : Prop := ((sI H m1 (X.1.2 11 30)).toInt ≠ 0 ↔ 0 < A) ∧ (sI H wk 0).toInt = F ∧ (sI H wk 1).toInt = G ∧ (sI H wk 2).toInt = N
def MmK (X : xW) (H H1 : Heap) (m1 wk : Nat) : Prop := sI H1 m1 (X.1.2 11 30) = sI H m1 (X.1.2 11 30) ∧ ∀ j, sI H1 wk j = sI H wk j
theorem MmK.rf : MmK X H H m1 wk := ⟨rfl, fun _ => rfl⟩
theorem MmK.ne {b j : Nat} {v : Value} (h : MmK X H0 H m1 wk) (U : Up H H1 b j v) (h1 : ¬ (m1 = b ∧ X.1.2 11 30 = j)) (h2 : b ≠ wk) : MmK X H0 H1 m1 wk :=
  ⟨(up_nI U h1).trans h.1, fun i => (up_nI U (fun q => h2 q.1.symm)).trans (h.2 i)⟩
theorem MmK.kp (h : MmK X H0 H m1 wk) (hk : Kp X Γ gs H H1) (g : Γ m1 = some 11) (gw : Γ wk = some 70) (h9 : gs.contains 9 = true) : MmK X H0 H1 m1 wk :=
  ⟨(kp_I hk g (ci := 11) (k := 30) rfl (by decide) (gs_any h9 rfl)).trans h.1, fun i => (kp_aI hk i gw rfl (gs_any h9 rfl)).trans (h.2 i)⟩
theorem MmK.kp0 (hk : Kp X Γ gs H H1) (g : Γ m1 = some 11) (gw : Γ wk = some 70) (h0 : gs.contains 0 = true) : MmK X H H1 m1 wk :=
  ⟨kp_I hk g (ci := 11) (k := 30) rfl (by decide) (gs_any h0 rfl), fun i => kp_aI hk i gw rfl (gs_any h0 rfl)⟩
theorem MmS.of (h : MmS X H m1 wk A F G N) (k : MmK X H H1 m1 wk) : MmS X H1 m1 wk A F G N := by
  unfold MmS
  rw [k.1, k.2, k.2, k.2]
  exact h
/-- heights and thaws that can be; when works can be told -/
def HTn (h t : Nat → Int) (n : Int) : Prop := (∀ i : Nat, (i : Int) < n → 0 ≤ h i ∧ h i ≤ 99) ∧ ∀ i : Nat, (i : Int) < n - 1 → 0 ≤ t i ∧ t i ≤ 20
theorem HTn.iff {h t h2 t2 : Nat → Int} {n : Int} (hh : ∀ i : Nat, (i : Int) < n → h i = h2 i) (ht : ∀ i : Nat, (i : Int) < n - 1 → t i = t2 i) : HTn h t n ↔ HTn h2 t2 n :=
  ⟨fun q => ⟨fun i hi => by rw [← hh i hi]; exact q.1 i hi, fun i hi => by rw [← ht i hi]; exact q.2 i hi⟩, fun q => ⟨fun i hi => by rw [hh i hi]; exact q.1 i hi, fun i hi => by rw [ht i hi]; exact q.2 i hi⟩⟩
def WKY (t1 t2 l1 l2 n : Int) (C : Prop) : Prop := 0 ≤ t1 ∧ t1 ≤ 3 ∧ 0 ≤ t2 ∧ t2 ≤ 3 ∧ n ≤ l1 ∧ n - 1 ≤ l2 ∧ 2 ≤ n ∧ n ≤ 12 ∧ C
theorem wI_start {E B T : Int} (h1 : T ≤ 9) : wI E B T 9 0 0 0 := by
  unfold wI
  by_cases q : B = 0
  · exact Or.inl ⟨q, Or.inl ⟨h1, rfl, rfl, rfl⟩⟩
  · exact Or.inr ⟨q, Or.inr ⟨by omega, rfl, rfl, rfl⟩⟩
theorem wI_hit {E B T u w lo hi m : Int} (h : wI E B T u w lo hi) (hT : T ≤ 9 ∧ T ≤ E ∧ (T = E ∨ T = 9)) (u0 : 0 ≤ u) (u9 : u ≤ 9) (b0 : 0 ≤ B) (hm : m = B) (m1 : B - E + u ≤ m) (m2 : m = 0 ∨ m = B - E + u) : wI E B T (u + (-1)) (w + 1) u (if w = 0 then u else hi) := by
  unfold wI at h ⊢
  rcases h with ⟨q, (⟨a1, a2, a3, a4⟩ | ⟨a1, a2, a3, a4⟩)⟩ | ⟨q, (⟨a1, a2, a3, a4, a5⟩ | ⟨a1, a2, a3, a4⟩)⟩
  · rw [if_pos a2]; exact Or.inl ⟨q, Or.inr ⟨by omega, by omega, by omega, by omega⟩⟩
  · rw [if_neg (by omega)]; exact Or.inl ⟨q, Or.inr ⟨by omega, by omega, by omega, by omega⟩⟩
  · exfalso; omega
  · rw [if_pos a2]; exact Or.inr ⟨q, Or.inl ⟨by omega, by omega, by omega, by omega, by omega⟩⟩
theorem wI_miss {E B T u w lo hi m : Int} (h : wI E B T u w lo hi) (hT : T ≤ 9 ∧ T ≤ E ∧ (T = E ∨ T = 9)) (u0 : 0 ≤ u) (b0 : 0 ≤ B) (hm : m ≠ B) (m0 : 0 ≤ m) (m1 : B - E + u ≤ m) (m2 : m = 0 ∨ m = B - E + u) : wI E B T (u + (-1)) w lo hi := by
  unfold wI at h ⊢
  rcases h with ⟨q, (⟨a1, a2, a3, a4⟩ | ⟨a1, a2, a3, a4⟩)⟩ | ⟨q, (⟨a1, a2, a3, a4, a5⟩ | ⟨a1, a2, a3, a4⟩)⟩
  · exact Or.inl ⟨q, Or.inl ⟨by omega, by omega, by omega, by omega⟩⟩
  · exfalso; omega
  · exact Or.inr ⟨q, Or.inl ⟨by omega, by omega, by omega, by omega, by omega⟩⟩
  · exact Or.inr ⟨q, Or.inr ⟨by omega, by omega, by omega, by omega⟩⟩
/-- both sides' mornings tell the same -/
def WRl (X : xW) (H : Heap) (mo m1 wk : Nat) : Prop := ((sI H m1 (X.1.2 11 30)).toInt ≠ 0 ↔ (sJ H mo (X.1.2 0 0)).toInt ≠ 0) ∧ ((sJ H mo (X.1.2 0 0)).toInt ≠ 0 → (sI H mo (X.1.2 0 1)).toInt = (sI H wk 0).toInt ∧ (sI H mo (X.1.2 0 2)).toInt = (sI H wk 1).toInt ∧ (sI H mo (X.1.2 0 3)).toInt = (sI H wk 2).toInt)
theorem WRl.same (r : WRl X H mo m1 wk) (a : MoK X H H1 mo) (b : MmK X H H1 m1 wk) : WRl X H1 mo m1 wk := by
  unfold WRl
  rw [a.1, a.2.1, a.2.2.1, a.2.2.2, b.1, b.2, b.2, b.2]
  exact r
theorem WRl.set (a : MoS X H mo A F G N) (b : MmS X H m1 wk A F G N) (hA : 0 ≤ A) : WRl X H mo m1 wk := by
  refine ⟨by rw [a.1]; exact b.1.trans ⟨fun q => by omega, fun q => by omega⟩, fun q => ?_⟩
  rw [a.1] at q
  have h1 := a.2 q
  exact ⟨h1.1.trans b.2.1.symm, h1.2.1.trans b.2.2.1.symm, h1.2.2.trans b.2.2.2.symm⟩
end FRW3
