-- trays: the class's row of four, the reference's rows
section FRT
variable {X : xW} {Γ : Nat → Option Nat} {H H0 H1 H2 : Heap} {gs : List Nat} {ta x1 tm ts : Nat} {td nd : Nat → Nat} {t n s : Int}
/-- an object's row of trays and its four trays -/
def SHP (X : xW) (Γ : Nat → Option Nat) (H : Heap) (x1 ta : Nat) (td nd : Nat → Nat) : Prop := Γ ta = some 20 ∧ sR H x1 (X.1.2 10 1) = some ta ∧ (∀ i, i < 4 → sR H ta i = some (td i) ∧ Γ (td i) = some 1) ∧ (∀ i j, i < 4 → j < 4 → td i = td j → i = j) ∧ (∀ i, i < 4 → sR H (td i) (X.1.2 6 0) = some (nd i) ∧ Γ (nd i) = some 24) ∧ ∀ i j, i < 4 → j < 4 → nd i = nd j → i = j
theorem kp_R (h : Kp X Γ gs H H1) {a r ci k : Nat} {fts : List xT} (g : Γ a = some r) (hr : kO r = some (ci, fts)) (hk : k < fts.length) (hp : (gs.any fun g => gF g r k) = true) : sR H1 a (X.1.2 ci k) = sR H a (X.1.2 ci k) := by
  have h2 := h a r g (X.1.2 ci k) (by unfold pr; rw [hr]; exact Or.inr (Or.inr (Or.inr ⟨k, hk, hp, rfl⟩)))
  simp [sR, h2]
theorem kp_a (h : Kp X Γ gs H H1) {a r : Nat} (j : Nat) (g : Γ a = some r) (hr : kO r = none) (hp : (gs.any fun g => gF g r 0) = true) : sv H1 a j = sv H a j :=
  h a r g j (by unfold pr; rw [hr]; exact Or.inr (Or.inr (Or.inr hp)))
theorem kp_aI (h : Kp X Γ gs H H1) {a r : Nat} (j : Nat) (g : Γ a = some r) (hr : kO r = none) (hp : (gs.any fun g => gF g r 0) = true) : sI H1 a j = sI H a j := by
  simp [sI, kp_a h j g hr hp]
theorem kp_aR (h : Kp X Γ gs H H1) {a r : Nat} (j : Nat) (g : Γ a = some r) (hr : kO r = none) (hp : (gs.any fun g => gF g r 0) = true) : sR H1 a j = sR H a j := by
  simp [sR, kp_a h j g hr hp]
theorem gs_any {g r k : Nat} (h : gs.contains g = true) (hg : gF g r k = true) : (gs.any fun q => gF q r k) = true := List.any_eq_true.mpr ⟨g, by simpa using h, hg⟩
theorem SHP.kp (h : SHP X Γ H x1 ta td nd) (g : Γ x1 = some 0) (hk : Kp X Γ gs H H1) (h18 : gs.contains 18 = true) : SHP X Γ H1 x1 ta td nd := by
  obtain ⟨a1, a2, a3, a4, a5, a6⟩ := h
  refine ⟨a1, ?_, fun i hi => ⟨?_, (a3 i hi).2⟩, a4, fun i hi => ⟨?_, (a5 i hi).2⟩, a6⟩
  · rw [kp_R hk g (ci := 10) (k := 1) rfl (by decide) (gs_any h18 rfl)]
    exact a2
  · rw [kp_aR hk i a1 rfl (gs_any h18 rfl)]
    exact (a3 i hi).1
  · rw [kp_R hk (a3 i hi).2 (ci := 6) (k := 0) rfl (by decide) (gs_any h18 rfl)]
    exact (a5 i hi).1
theorem SHP.kpM (h : SHP X Γ H x1 ta td nd) (g : Γ x1 = some 0) (hk : Kp X Γ gs H H1) (h1 : gs.contains 1 = true) : SHP X Γ H1 x1 ta td nd := by
  obtain ⟨a1, a2, a3, a4, a5, a6⟩ := h
  refine ⟨a1, ?_, fun i hi => ⟨?_, (a3 i hi).2⟩, a4, fun i hi => ⟨?_, (a5 i hi).2⟩, a6⟩
  · rw [kp_R hk g (ci := 10) (k := 1) rfl (by decide) (gs_any h1 rfl)]
    exact a2
  · rw [kp_aR hk i a1 rfl (gs_any h1 rfl)]
    exact (a3 i hi).1
  · rw [kp_R hk (a3 i hi).2 (ci := 6) (k := 0) rfl (by decide) (gs_any h1 rfl)]
    exact (a5 i hi).1
theorem SHP.ne (h : SHP X Γ H x1 ta td nd) {a r : Nat} (ga : Γ a = some r) (hr : r ≠ 1) : ∀ u, u < 4 → td u ≠ a := fun u hu e => by
  have := (h.2.2.1 u hu).2
  rw [e, ga] at this
  exact hr (Option.some.inj this)
theorem SHP.neN (h : SHP X Γ H x1 ta td nd) {a r : Nat} (ga : Γ a = some r) (hr : r ≠ 24) : ∀ u, u < 4 → nd u ≠ a := fun u hu e => by
  have := (h.2.2.2.2.1 u hu).2
  rw [e, ga] at this
  exact hr (Option.some.inj this)
/-- all trays' lengths and sorts are as they were -/
def TSm (X : xW) (td : Nat → Nat) (H H1 : Heap) : Prop := ∀ u : Nat, u < 4 → (sI H1 (td u) (X.1.2 6 2)).toInt = (sI H (td u) (X.1.2 6 2)).toInt ∧ (sI H1 (td u) (X.1.2 6 1)).toInt = (sI H (td u) (X.1.2 6 1)).toInt
/-- .. but one's, that are these -/
def TSt (X : xW) (td : Nat → Nat) (H H1 : Heap) (t n s : Int) : Prop := ∀ u : Nat, u < 4 → ((u : Int) = t → (sI H1 (td u) (X.1.2 6 2)).toInt = n ∧ (sI H1 (td u) (X.1.2 6 1)).toInt = s) ∧ ((u : Int) ≠ t → (sI H1 (td u) (X.1.2 6 2)).toInt = (sI H (td u) (X.1.2 6 2)).toInt ∧ (sI H1 (td u) (X.1.2 6 1)).toInt = (sI H (td u) (X.1.2 6 1)).toInt)
theorem TSm.rf : TSm X td H H := fun _ _ => ⟨rfl, rfl⟩
theorem TSm.ne {a j : Nat} {v : Value} (h : TSm X td H0 H) (U : Up H H1 a j v) (hn : ∀ u, u < 4 → td u ≠ a) : TSm X td H0 H1 := fun u hu => by
  rw [up_nI U (fun q => hn u hu q.1), up_nI U (fun q => hn u hu q.1)]
  exact h u hu
theorem TSm.kp (h : TSm X td H0 H) (hk : Kp X Γ gs H H1) (sh : SHP X Γ H2 x1 ta td nd) (h21 : gs.contains 21 = true) : TSm X td H0 H1 := fun u hu => by
  have g := (sh.2.2.1 u hu).2
  rw [kp_I hk g (ci := 6) (k := 2) rfl (by decide) (gs_any h21 rfl), kp_I hk g (ci := 6) (k := 1) rfl (by decide) (gs_any h21 rfl)]
  exact h u hu
theorem TSt.ne {a j : Nat} {v : Value} (h : TSt X td H0 H t n s) (U : Up H H1 a j v) (hn : ∀ u, u < 4 → td u ≠ a) : TSt X td H0 H1 t n s := fun u hu => by
  rw [up_nI U (fun q => hn u hu q.1), up_nI U (fun q => hn u hu q.1)]
  exact h u hu
theorem TSt.kp (h : TSt X td H0 H t n s) (hk : Kp X Γ gs H H1) (sh : SHP X Γ H2 x1 ta td nd) (h21 : gs.contains 21 = true) : TSt X td H0 H1 t n s := fun u hu => by
  have g := (sh.2.2.1 u hu).2
  rw [kp_I hk g (ci := 6) (k := 2) rfl (by decide) (gs_any h21 rfl), kp_I hk g (ci := 6) (k := 1) rfl (by decide) (gs_any h21 rfl)]
  exact h u hu
/-- the lengths and sorts of all trays but a0 -/
def OTH (X : xW) (Γ : Nat → Option Nat) (a0 : Nat) (H H1 : Heap) : Prop := ∀ a, a ≠ a0 → Γ a = some 1 → sI H1 a (X.1.2 6 2) = sI H a (X.1.2 6 2) ∧ sI H1 a (X.1.2 6 1) = sI H a (X.1.2 6 1)
theorem OTH.rf {a0 : Nat} : OTH X Γ a0 H H := fun _ _ _ => ⟨rfl, rfl⟩
theorem OTH.ne {a0 j : Nat} {v : Value} {o : Option Nat} (h : OTH X Γ a0 H0 H) (U : Up H H1 a0 j v) (_ : Γ a0 = o) : OTH X Γ a0 H0 H1 := fun a ha g => by
  rw [up_nI U (fun q => ha q.1), up_nI U (fun q => ha q.1)]
  exact h a ha g
theorem OTH.cp {a0 b r : Nat} (h : OTH X Γ a0 H0 H) (U : Cp H H1 b) (gb : Γ b = some r) (hr : r ≠ 1) : OTH X Γ a0 H0 H1 := fun a ha g => by
  have hb : a ≠ b := fun e => by
    rw [e, gb] at g
    exact hr (Option.some.inj g)
  have e : ∀ j, sI H1 a j = sI H a j := fun j => by simp [sI, U a hb j]
  rw [e, e]
  exact h a ha g
theorem cp_I {a b j : Nat} (U : Cp H H1 b) (hb : a ≠ b) : sI H1 a j = sI H a j := by simp [sI, U a hb j]
theorem TSt.mk {z : Nat} (sh : SHP X Γ H2 x1 ta td nd) (hz : z < 4) (ht : (z : Int) = t) (h1 : (sI H1 (td z) (X.1.2 6 2)).toInt = n) (h2 : (sI H1 (td z) (X.1.2 6 1)).toInt = s) (ho : OTH X Γ (td z) H H1) : TSt X td H H1 t n s := fun u hu => ⟨fun e => by
  have : u = z := by omega
  subst this
  exact ⟨h1, h2⟩, fun e => by
  have h := ho (td u) (fun q => e (by rw [sh.2.2.2.1 u z hu hz q]; exact ht)) (sh.2.2.1 u hu).2
  rw [h.1, h.2]
  exact ⟨rfl, rfl⟩⟩
/-- the reference's -/
def TMm (tm ts : Nat) (H H1 : Heap) : Prop := ∀ u : Nat, u < 4 → (sI H1 tm u).toInt = (sI H tm u).toInt ∧ (sI H1 ts u).toInt = (sI H ts u).toInt
def TMt (tm ts : Nat) (H H1 : Heap) (t n s : Int) : Prop := ∀ u : Nat, u < 4 → ((u : Int) = t → (sI H1 tm u).toInt = n ∧ (sI H1 ts u).toInt = s) ∧ ((u : Int) ≠ t → (sI H1 tm u).toInt = (sI H tm u).toInt ∧ (sI H1 ts u).toInt = (sI H ts u).toInt)
theorem TMm.rf : TMm tm ts H H := fun _ _ => ⟨rfl, rfl⟩
theorem TMm.ne {a j : Nat} {v : Value} (h : TMm tm ts H0 H) (U : Up H H1 a j v) (h1 : a ≠ tm) (h2 : a ≠ ts) : TMm tm ts H0 H1 := fun u hu => by
  rw [up_nI U (fun q => h1 q.1.symm), up_nI U (fun q => h2 q.1.symm)]
  exact h u hu
theorem TMm.kp (h : TMm tm ts H0 H) (hk : Kp X Γ gs H H1) (g1 : Γ tm = some 61) (g2 : Γ ts = some 60) (h22 : gs.contains 22 = true) : TMm tm ts H0 H1 := fun u hu => by
  rw [kp_aI hk u g1 rfl (gs_any h22 rfl), kp_aI hk u g2 rfl (gs_any h22 rfl)]
  exact h u hu
theorem TMt.ne {a j : Nat} {v : Value} (h : TMt tm ts H0 H t n s) (U : Up H H1 a j v) (h1 : a ≠ tm) (h2 : a ≠ ts) : TMt tm ts H0 H1 t n s := fun u hu => by
  rw [up_nI U (fun q => h1 q.1.symm), up_nI U (fun q => h2 q.1.symm)]
  exact h u hu
theorem TMt.kp (h : TMt tm ts H0 H t n s) (hk : Kp X Γ gs H H1) (g1 : Γ tm = some 61) (g2 : Γ ts = some 60) (h22 : gs.contains 22 = true) : TMt tm ts H0 H1 t n s := fun u hu => by
  rw [kp_aI hk u g1 rfl (gs_any h22 rfl), kp_aI hk u g2 rfl (gs_any h22 rfl)]
  exact h u hu
theorem TMt.mk {x y : Int32} (h : TMm tm ts H0 H) (hts : ts ≠ tm) (h0 : 0 ≤ t) (h3 : t ≤ 3) (U1 : Up H H1 ts t.toNat (.int y)) (U2 : Up H1 H2 tm t.toNat (.int x)) (hx : x.toInt = n) (hy : y.toInt = s) : TMt tm ts H0 H2 t n s := fun u hu => ⟨fun e => by
  have : u = t.toNat := by omega
  subst this
  rw [up_I U2, up_nI U2 (fun q => hts q.1), up_I U1]
  exact ⟨hx, hy⟩, fun e => by
  have hne : ¬ u = t.toNat := fun q => e (by omega)
  rw [up_nI U2 (fun q => hne q.2), up_nI U1 (fun q => hne q.2), up_nI U2 (fun q => hne q.2), up_nI U1 (fun q => hne q.2)]
  exact h u hu⟩
/-- both sides' trays agree in length, and in sort where there is one -/
def TRl (X : xW) (td : Nat → Nat) (tm ts : Nat) (H : Heap) : Prop := ∀ u : Nat, u < 4 → (sI H (td u) (X.1.2 6 2)).toInt = (sI H tm u).toInt ∧ (0 ≤ (sI H tm u).toInt → (sI H (td u) (X.1.2 6 1)).toInt = (sI H ts u).toInt)
end FRT
section FRV
variable {p : Program} {l : Launch} {e : Env} {R : Room} {s : State} {m : MethodId} {args : Array Value} {below : List Frame} {meth : Method} {c : Code} {H H0 : Heap} {locs : List Loc} {Q : State → Prop}
variable {cc : ByteArray} {pc mL : Nat} {own : String} {ret : Option FieldType} {ls : Array Slot} {rest : List Value} {X : xW} {Γ : Nat → Option Nat} {kc ks : Nat}
theorem q_getS (E : Ev p s m args meth c cc mL own ret X Γ H0) (hC : Conf X Γ H) {a r ci k index k2 q0 : Nat} {hi : Int} (ha : Γ a = some r) (hf : FA own index r ci k (k2 + 2, 0, hi)) (hs : sR H a (X.1.2 ci k) = some q0) (hdg : decode cc pc = .ok (.getfield index, 3))
    (kk : Γ q0 = some k2 → W p l e R s m args below meth c H locs kc ks Q (F0 m (pc + 3) ls (.ref q0 :: rest))) : W p l e R s m args below meth c H locs kc ks Q (F0 m pc ls (.ref a :: rest)) :=
  q_getR E hC ha hf hdg (fun q e g => by cases Option.some.inj (e.symm.trans hs); exact kk g)
theorem q_aaldS (E : Ev p s m args meth c cc mL own ret X Γ H0) (hC : Conf X Γ H) {a r n t k2 q0 : Nat} {hi : Int} {C : String} {i : Int32} (ha : Γ a = some r) (hr : kO r = none) {F : Nat → xT} (hA : kA r = some (t, n, F)) (hF : ∀ j, F j = (k2 + 2, 0, hi)) (ht : (xty X)[t]? = some (X.2 t, .object C)) {z : Int} (ez : i.toInt = z) (h0 : 0 ≤ z) (h1 : z < n) (hs : sR H a z.toNat = some q0) (hdg : decode cc pc = .ok (.aaload, 1))
    (kk : Γ q0 = some k2 → W p l e R s m args below meth c H locs kc ks Q (F0 m (pc + 1) ls (.ref q0 :: rest))) : W p l e R s m args below meth c H locs kc ks Q (F0 m pc ls (.int i :: .ref a :: rest)) :=
  q_aald E hC ha hr hA hF ht (i_in ez h0 h1) hdg (fun q e g => by rw [i_ix ez] at e; cases Option.some.inj (e.symm.trans hs); exact kk g)
theorem q_tald (E : Ev p s m args meth c cc mL own ret X Γ H0) (hC : Conf X Γ H) {q r n : Nat} {lo hi : Int} {i : Int32} (hq : Γ q = some r) (hr : kO r = none) {F : Nat → xT} (hA : kA r = some (1, n, F)) {a : Int} (hF : ∀ v, tv Γ (F a.toNat) v → tv Γ (0, lo, hi) v) (ha : i.toInt = a) (h0 : 0 ≤ a) (h1 : a < n) (hdg : decode cc pc = .ok (.iaload, 1))
    (kk : ∀ v : Int32, sI H q a.toNat = v → lo ≤ v.toInt → v.toInt ≤ hi → W p l e R s m args below meth c H locs kc ks Q (F0 m (pc + 1) ls (.int v :: rest))) : W p l e R s m args below meth c H locs kc ks Q (F0 m pc ls (.int i :: .ref q :: rest)) :=
  q_iald E hC hq hr hA (by rw [i_ix ha]; exact hF) (i_in ha h0 h1) hdg (by rw [i_ix ha]; exact kk)
theorem q_tast (E : Ev p s m args meth c cc mL own ret X Γ H0) (hC : Conf X Γ H) (hS : va_S (AΓ Γ) H0 H locs) {q r n : Nat} {i x : Int32} {t : Nat → xT} (hq : Γ q = some r) (hw : r ≠ 12) (hr : kO r = none) (hA : kA r = some (1, n, t)) {a : Int} (ha : i.toInt = a) (h0 : 0 ≤ a) (h1 : a < n) (hv : tv Γ (t a.toNat) (.int x)) (hdg : decode cc pc = .ok (.iastore, 1))
    (kk : ∀ (H1 : Heap) (locs1 : List Loc), Conf X Γ H1 → va_S (AΓ Γ) H0 H1 locs1 → Up H H1 q a.toNat (.int x) → W p l e R s m args below meth c H1 locs1 kc ks Q (F0 m (pc + 1) ls rest)) : W p l e R s m args below meth c H locs kc ks Q (F0 m pc ls (.int x :: .int i :: .ref q :: rest)) :=
  q_iast E hC hS hq hw hr hA (i_in ha h0 h1) (by rw [i_ix ha]; exact hv) hdg (by rw [i_ix ha]; exact kk)
end FRV
section FRTL
variable {X : xW} {Γ : Nat → Option Nat} {H H0 H1 H2 : Heap} {gs : List Nat} {ta x1 tm ts : Nat} {td nd : Nat → Nat} {t n s : Int}
theorem TSm.kp1 (hk : Kp X Γ gs H H1) (sh : SHP X Γ H2 x1 ta td nd) (h1 : gs.contains 1 = true) : TSm X td H H1 := fun u hu => by
  have g := (sh.2.2.1 u hu).2
  rw [kp_I hk g (ci := 6) (k := 2) rfl (by decide) (gs_any h1 rfl), kp_I hk g (ci := 6) (k := 1) rfl (by decide) (gs_any h1 rfl)]
  exact ⟨rfl, rfl⟩
theorem TMm.kp0 (hk : Kp X Γ gs H H1) (g1 : Γ tm = some 61) (g2 : Γ ts = some 60) (h0 : gs.contains 0 = true) : TMm tm ts H H1 := fun u hu => by
  rw [kp_aI hk u g1 rfl (gs_any h0 rfl), kp_aI hk u g2 rfl (gs_any h0 rfl)]
  exact ⟨rfl, rfl⟩
theorem TRl.same (h : TRl X td tm ts H) (a : TSm X td H H1) (b : TMm tm ts H H1) : TRl X td tm ts H1 := fun u hu => by
  have h1 := h u hu; have h2 := a u hu; have h3 := b u hu
  omega
theorem TRl.same2 (h : TRl X td tm ts H) (a : TSm X td H H1) (b : TMm tm ts H H1) (c : TMm tm ts H1 H2) (d : TSm X td H1 H2) : TRl X td tm ts H2 := (h.same a b).same d c
theorem TRl.set (h : TRl X td tm ts H) (a : TSt X td H H1 t n s) (b : TMm tm ts H H1) (c : TMt tm ts H1 H2 t n s) (d : TSm X td H1 H2) : TRl X td tm ts H2 := fun u hu => by
  have h1 := h u hu; have h2 := a u hu; have h3 := b u hu; have h4 := c u hu; have h5 := d u hu
  by_cases e : (u : Int) = t
  · have h2 := h2.1 e; have h4 := h4.1 e
    omega
  · have h2 := h2.2 e; have h4 := h4.2 e
    omega
end FRTL

-- numbers in trays
def cutJ (s : Int) (v : Int64) : Int64 := if s = 0 then v.toInt32.toInt8.toInt32.toInt64 else if s = 1 then v.toInt32.toInt16.toInt32.toInt64 else if s = 2 then v.toInt32.toInt64 else v
section FRN
variable {X : xW} {Γ : Nat → Option Nat} {H H0 H1 H2 : Heap} {gs : List Nat} {ta x1 tm ts na : Nat} {td nd : Nat → Nat} {t n s : Int} {f g h : Nat → Nat → Int64}
theorem kp_aJ (h : Kp X Γ gs H H1) {a r : Nat} (j : Nat) (g : Γ a = some r) (hr : kO r = none) (hp : (gs.any fun g => gF g r 0) = true) : sJ H1 a j = sJ H a j := by
  simp [sJ, kp_a h j g hr hp]
theorem cp_J {a b j : Nat} (U : Cp H H1 b) (hb : a ≠ b) : sJ H1 a j = sJ H a j := by simp [sJ, U a hb j]
theorem cp_R {a b j : Nat} (U : Cp H H1 b) (hb : a ≠ b) : sR H1 a j = sR H a j := by simp [sR, U a hb j]
/-- numbers by tray and place -/
def nC (nd : Nat → Nat) (H : Heap) : Nat → Nat → Int64 := fun u j => sJ H (nd u) j
def nM (na : Nat) (H : Heap) : Nat → Nat → Int64 := fun u j => sJ H na (60 * u + j)
/-- as they were -/
def NSm (f g : Nat → Nat → Int64) : Prop := ∀ u j : Nat, u < 4 → j < 60 → g u j = f u j
/-- one is another -/
def NWr (f g : Nat → Nat → Int64) (t k : Int) (w : Int64) : Prop := ∀ u j : Nat, u < 4 → j < 60 → g u j = if (u : Int) = t ∧ (j : Int) = k then w else f u j
/-- a tray's first z are 0 -/
def NZr (f g : Nat → Nat → Int64) (t z : Int) : Prop := ∀ u j : Nat, u < 4 → j < 60 → ((u : Int) = t → (j : Int) < z → g u j = 0) ∧ ((u : Int) ≠ t → g u j = f u j)
/-- those from lo to hi behind b are poured from behind a -/
def NPr (f g : Nat → Nat → Int64) (t a o b lo hi : Int) : Prop := ∀ u j : Nat, u < 4 → j < 60 → g u j = if (u : Int) = o ∧ b + lo ≤ (j : Int) ∧ (j : Int) < b + hi then f t.toNat (a + ((j : Int) - b)).toNat else f u j
theorem NSm.rf : NSm f f := fun _ _ _ _ => rfl
theorem nC_ne {a j : Nat} {v : Value} (h : NSm f (nC nd H)) (U : Up H H1 a j v) (hn : ∀ u, u < 4 → nd u ≠ a) : NSm f (nC nd H1) := fun u k hu hk => (up_nJ U (fun q => hn u hu q.1)).trans (h u k hu hk)
theorem nC_kp (h : NSm f (nC nd H)) (hk : Kp X Γ gs H H1) (sh : SHP X Γ H2 x1 ta td nd) (h23 : gs.contains 23 = true) : NSm f (nC nd H1) := fun u k hu hk2 => (kp_aJ hk k (sh.2.2.2.2.1 u hu).2 rfl (gs_any h23 rfl)).trans (h u k hu hk2)
theorem nC_kp1 (hk : Kp X Γ gs H H1) (sh : SHP X Γ H2 x1 ta td nd) (h1 : gs.contains 1 = true) : NSm (nC nd H) (nC nd H1) := fun u k hu hk2 => kp_aJ hk k (sh.2.2.2.2.1 u hu).2 rfl (gs_any h1 rfl)
theorem nM_ne {a j : Nat} {v : Value} (h : NSm f (nM na H)) (U : Up H H1 a j v) (hn : a ≠ na) : NSm f (nM na H1) := fun u k hu hk => (up_nJ U (fun q => hn q.1.symm)).trans (h u k hu hk)
theorem nM_kp (h : NSm f (nM na H)) (hk : Kp X Γ gs H H1) (g1 : Γ na = some 62) (h24 : gs.contains 24 = true) : NSm f (nM na H1) := fun u k hu hk2 => (kp_aJ hk _ g1 rfl (gs_any h24 rfl)).trans (h u k hu hk2)
theorem nM_kp0 (hk : Kp X Γ gs H H1) (g1 : Γ na = some 62) (h0 : gs.contains 0 = true) : NSm (nM na H) (nM na H1) := fun u k hu hk2 => kp_aJ hk _ g1 rfl (gs_any h0 rfl)
theorem NSm.tr (h1 : NSm f g) (h2 : NSm g h) : NSm f h := fun u j hu hj => (h2 u j hu hj).trans (h1 u j hu hj)
theorem NWr.sm {k : Int} {w : Int64} (h1 : NWr f g t k w) (h2 : NSm g h) : NWr f h t k w := fun u j hu hj => (h2 u j hu hj).trans (h1 u j hu hj)
theorem NPr.sm {a o b lo hi : Int} (h1 : NPr f g t a o b lo hi) (h2 : NSm g h) : NPr f h t a o b lo hi := fun u j hu hj => (h2 u j hu hj).trans (h1 u j hu hj)
theorem NZr.sm {z : Int} (h1 : NZr f g t z) (h2 : NSm g h) : NZr f h t z := fun u j hu hj => ⟨fun a b => (h2 u j hu hj).trans ((h1 u j hu hj).1 a b), fun a => (h2 u j hu hj).trans ((h1 u j hu hj).2 a)⟩
/-- one number of one row is written -/
def NUp (H H1 : Heap) (q k : Nat) (w : Int64) : Prop := sJ H1 q k = w ∧ ∀ a j, ¬ (a = q ∧ j = k) → sJ H1 a j = sJ H a j
theorem NUp.mk {q k : Nat} {w : Int64} (U : Up H H1 q k (.long w)) : NUp H H1 q k w := ⟨up_J U, fun _ _ hn => up_nJ U hn⟩
theorem NUp.wr {z k : Nat} {w : Int64} {kk : Int} (sh : SHP X Γ H2 x1 ta td nd) (hz : z < 4) (ht : (z : Int) = t) (hk : (k : Int) = kk) (U : NUp H H1 (nd z) k w) : NWr (nC nd H) (nC nd H1) t kk w := fun u j hu hj => by
  by_cases e : u = z ∧ j = k
  · obtain ⟨rfl, rfl⟩ := e
    rw [if_pos ⟨ht, hk⟩]
    exact U.1
  · rw [if_neg (fun q => e ⟨by omega, by omega⟩)]
    exact U.2 _ _ (fun q => e ⟨sh.2.2.2.2.2 u z hu hz q.1, q.2⟩)
theorem nM_wr {i : Nat} {w : Int64} {k : Int} (h : NSm f (nM na H)) (h0 : 0 ≤ t) (h3 : t ≤ 3) (k0 : 0 ≤ k) (k1 : k ≤ 59) (hi : (i : Int) = 60 * t + k) (U : Up H H1 na i (.long w)) : NWr f (nM na H1) t k w := fun u j hu hj => by
  by_cases e : (u : Int) = t ∧ (j : Int) = k
  · rw [if_pos e]
    have : 60 * u + j = i := by omega
    show sJ H1 na (60 * u + j) = w
    rw [this]
    exact up_J U
  · rw [if_neg e]
    refine (up_nJ U (fun q => e ?_)).trans (h u j hu hj)
    have := q.2
    omega
theorem nM_zr0 (h : NSm f (nM na H)) : NZr f (nM na H) t 0 := fun u j hu hj => ⟨fun _ hz => by omega, fun _ => h u j hu hj⟩
theorem nM_zr {i : Nat} {z : Int} (h : NZr f (nM na H) t z) (h0 : 0 ≤ t) (h3 : t ≤ 3) (k0 : 0 ≤ z) (k1 : z ≤ 59) (hi : (i : Int) = 60 * t + z) (U : Up H H1 na i (.long 0)) : NZr f (nM na H1) t (z + 1) := fun u j hu hj => by
  by_cases e : 60 * u + j = i
  · refine ⟨fun _ _ => ?_, fun hn => ?_⟩
    · show sJ H1 na (60 * u + j) = 0
      rw [e]
      exact up_J U
    · omega
  · have e2 : nM na H1 u j = nM na H u j := up_nJ U (fun q => e q.2)
    rw [e2]
    exact ⟨fun a b => (h u j hu hj).1 a (by omega), (h u j hu hj).2⟩
theorem nC_zr {z : Nat} (sh : SHP X Γ H2 x1 ta td nd) (hz : z < 4) (ht : (z : Int) = t) (h1 : ∀ j, j < 60 → sJ H1 (nd z) j = 0) (h2 : ∀ a j, Γ a = some 24 → a ≠ nd z → sJ H1 a j = sJ H a j) : NZr (nC nd H) (nC nd H1) t n := fun u j hu hj => ⟨fun e _ => by
  have : u = z := by omega
  subst this
  exact h1 j hj, fun e => h2 _ _ (sh.2.2.2.2.1 u hu).2 (fun q => e (by rw [sh.2.2.2.2.2 u z hu hz q]; exact ht))⟩
theorem nC_pr {z y : Nat} {a o b d : Int} (sh : SHP X Γ H2 x1 ta td nd) (hz : z < 4) (hy : y < 4) (ht : (z : Int) = t) (ho : (y : Int) = o) (h0 : 0 ≤ b) (U : Cp H H1 (nd y)) (C : Cpc H H1 (nd z) (nd y) a b d 60) : NPr (nC nd H) (nC nd H1) t a o b 0 d := fun u j hu hj => by
  have et : t.toNat = z := by omega
  by_cases e : u = y
  · subst e
    have h1 := C j hj
    by_cases hh : b ≤ (j : Int) ∧ (j : Int) < b + d
    · rw [if_pos hh] at h1
      rw [if_pos ⟨ho, by omega, by omega⟩, et]
      show sJ H1 (nd u) j = sJ H (nd z) _
      simp [sJ, h1]
    · rw [if_neg hh] at h1
      rw [if_neg (fun q => hh ⟨by omega, by omega⟩)]
      show sJ H1 (nd u) j = sJ H (nd u) j
      simp [sJ, h1]
  · rw [if_neg (fun q => e (by omega))]
    exact cp_J U (fun q => e (sh.2.2.2.2.2 u y hu hy q))
theorem NPr.nil {a o b lo : Int} (h : NSm f g) : NPr f g t a o b lo lo := fun u j hu hj => by
  rw [if_neg (by omega)]
  exact h u j hu hj
/-- the reference pours one more: at the upper end of what is done, or at the lower -/
theorem nM_pr {i : Nat} {w : Int64} {a o b lo hi c lo2 hi2 : Int} (h : NPr f (nM na H) t a o b lo hi) (t0 : 0 ≤ t) (t3 : t ≤ 3) (o0 : 0 ≤ o) (o3 : o ≤ 3) (a0 : 0 ≤ a) (c0 : 0 ≤ c) (ac : a + c ≤ 59) (b0 : 0 ≤ b) (bc : b + c ≤ 59) (hi' : (i : Int) = 60 * o + b + c) (hw : sJ H na (60 * t + a + c).toNat = w)
    (hs : ¬ (t = o ∧ b + lo ≤ a + c ∧ a + c < b + hi)) (he : (lo2 = lo ∧ hi = c ∧ hi2 = c + 1) ∨ (hi2 = hi ∧ lo2 = c ∧ lo = c + 1)) (hle : lo ≤ hi) (U : Up H H1 na i (.long w)) : NPr f (nM na H1) t a o b lo2 hi2 := fun u j hu hj => by
  have hw2 : f t.toNat (a + c).toNat = w := by
    have h1 := h t.toNat (a + c).toNat (by omega) (by omega)
    rw [if_neg (fun q => hs ⟨by omega, by omega, by omega⟩)] at h1
    rw [← h1, ← hw]
    show sJ H na (60 * t.toNat + (a + c).toNat) = _
    congr 1
    omega
  by_cases e : 60 * u + j = i
  · rw [if_pos ⟨by omega, by omega, by omega⟩]
    show sJ H1 na (60 * u + j) = _
    rw [e, up_J U, ← hw2]
    congr 1
    omega
  · have e2 : nM na H1 u j = nM na H u j := up_nJ U (fun q => e q.2)
    rw [e2, h u j hu hj]
    by_cases q : (u : Int) = o ∧ b + lo ≤ (j : Int) ∧ (j : Int) < b + hi
    · rw [if_pos q, if_pos ⟨by omega, by omega, by omega⟩]
    · rw [if_neg q, if_neg (fun q2 => q ⟨by omega, by omega, by omega⟩)]
/-- the numbers that trays have agree -/
def NRl (X : xW) (td nd : Nat → Nat) (na : Nat) (H : Heap) : Prop := ∀ u j : Nat, u < 4 → j < 60 → (j : Int) < (sI H (td u) (X.1.2 6 2)).toInt → nC nd H u j = nM na H u j
end FRN
section FRN2
variable {p : Program} {l : Launch} {e : Env} {R : Room} {s : State} {m : MethodId} {args : Array Value} {below : List Frame} {meth : Method} {c : Code} {H H0 : Heap} {locs : List Loc} {Q : State → Prop}
variable {cc : ByteArray} {pc mL : Nat} {own : String} {ret : Option FieldType} {ls : Array Slot} {rest : List Value} {X : xW} {Γ : Nat → Option Nat} {kc ks : Nat}
theorem q_lald2 (E : Ev p s m args meth c cc mL own ret X Γ H0) (hC : Conf X Γ H) {q r n : Nat} {lo hi : Int} {i : Int32} (hq : Γ q = some r) (hr : kO r = none) {F : Nat → xT} (hA : kA r = some (2, n, F)) (hF : ∀ j, F j = (1, lo, hi)) {a : Int} (ha : i.toInt = a) (h0 : 0 ≤ a) (h1 : a < n) (hdg : decode cc pc = .ok (.laload, 1))
    (kk : ∀ v : Int64, sJ H q a.toNat = v → W p l e R s m args below meth c H locs kc ks Q (F0 m (pc + 1) ls (.long v :: rest))) : W p l e R s m args below meth c H locs kc ks Q (F0 m pc ls (.int i :: .ref q :: rest)) :=
  q_lald E hC hq hr hA hF (i_in ha h0 h1) hdg (by rw [i_ix ha]; exact kk)
theorem q_last2 (E : Ev p s m args meth c cc mL own ret X Γ H0) (hC : Conf X Γ H) (hS : va_S (AΓ Γ) H0 H locs) {q r n : Nat} {lo hi : Int} {i : Int32} {x : Int64} (hq : Γ q = some r) (hw : r ≠ 12) (hr : kO r = none) {F : Nat → xT} (hA : kA r = some (2, n, F)) (hF : ∀ j, F j = (1, lo, hi)) {a : Int} (ha : i.toInt = a) (h0 : 0 ≤ a) (h1 : a < n) (hdg : decode cc pc = .ok (.lastore, 1))
    (kk : ∀ (H1 : Heap) (locs1 : List Loc), Conf X Γ H1 → va_S (AΓ Γ) H0 H1 locs1 → Up H H1 q a.toNat (.long x) → W p l e R s m args below meth c H1 locs1 kc ks Q (F0 m (pc + 1) ls rest)) : W p l e R s m args below meth c H locs kc ks Q (F0 m pc ls (.long x :: .int i :: .ref q :: rest)) :=
  q_last E hC hS hq hw hr hA hF (i_in ha h0 h1) hdg (by rw [i_ix ha]; exact kk)
end FRN2
section FRN3
variable {X : xW} {Γ : Nat → Option Nat} {H H0 H1 H2 : Heap} {tm ts na : Nat} {td nd : Nat → Nat} {t n s : Int}
theorem TSm.tr (h : TSm X td H H1) (h2 : TSm X td H1 H2) : TSm X td H H2 := fun u hu => ⟨(h2 u hu).1.trans (h u hu).1, (h2 u hu).2.trans (h u hu).2⟩
theorem NRl.same (h : NRl X td nd na H) (a : TSm X td H H1) (b : NSm (nC nd H) (nC nd H1)) (c : NSm (nM na H) (nM na H1)) : NRl X td nd na H1 := fun u j hu hj hl => by
  rw [b u j hu hj, c u j hu hj]
  exact h u j hu hj (by rw [← (a u hu).1]; exact hl)
theorem NRl.tray (h : NRl X td nd na H) (a : TSt X td H H1 t n s) (a2 : TSm X td H1 H2) (b : NZr (nC nd H) (nC nd H1) t n) (b2 : NSm (nC nd H1) (nC nd H2)) (c : NSm (nM na H) (nM na H1)) (c2 : NZr (nM na H1) (nM na H2) t n) : NRl X td nd na H2 := fun u j hu hj hl => by
  rw [b2 u j hu hj]
  rw [(a2 u hu).1] at hl
  by_cases e : (u : Int) = t
  · rw [((a u hu).1 e).1] at hl
    rw [(b u j hu hj).1 e hl, (c2 u j hu hj).1 e hl]
  · rw [((a u hu).2 e).1] at hl
    rw [(b u j hu hj).2 e, (c2 u j hu hj).2 e, c u j hu hj]
    exact h u j hu hj hl
theorem NRl.write {k : Int} {w : Int64} (h : NRl X td nd na H) (a : TSm X td H H2) (b : NWr (nC nd H) (nC nd H1) t k w) (b2 : NSm (nC nd H1) (nC nd H2)) (c : NSm (nM na H) (nM na H1)) (c2 : NWr (nM na H1) (nM na H2) t k w) : NRl X td nd na H2 := fun u j hu hj hl => by
  rw [b2 u j hu hj, b u j hu hj, c2 u j hu hj, c u j hu hj]
  rw [(a u hu).1] at hl
  split
  · rfl
  · exact h u j hu hj hl
theorem NRl.pour {x o y d : Int} (h : NRl X td nd na H) (a : TSm X td H H2) (b : NPr (nC nd H) (nC nd H1) t x o y 0 d) (b2 : NSm (nC nd H1) (nC nd H2)) (c : NSm (nM na H) (nM na H1)) (c2 : NPr (nM na H1) (nM na H2) t x o y 0 d) (h0 : 0 ≤ t) (h3 : t ≤ 3) (hx : 0 ≤ x) (hl2 : x + d ≤ (sI H (td t.toNat) (X.1.2 6 2)).toInt) (hd : 0 ≤ d) (h60 : (sI H (td t.toNat) (X.1.2 6 2)).toInt ≤ 60) : NRl X td nd na H2 := fun u j hu hj hl => by
  rw [b2 u j hu hj, b u j hu hj, c2 u j hu hj]
  rw [(a u hu).1] at hl
  split
  · rename_i q
    rw [c _ _ (by omega) (by omega)]
    exact h _ _ (by omega) (by omega) (by omega)
  · rw [c u j hu hj]
    exact h u j hu hj hl
end FRN3
