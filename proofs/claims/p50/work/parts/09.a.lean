-- constructors: what the addresses are grows; an object under way has a raw kind (200 ..), that goes on with each row set
def RK (k : Nat) : Prop := k < 100 ∧ k ≠ 13
def okFB (ft : xT) : Bool := match ft.1 with
  | 0 => true
  | 1 => true
  | k + 2 => Nat.blt k 100 && !(k == 13)
theorem okFB_rk {ft : xT} {k : Nat} (h : okFB ft = true) (hk : ft.1 = k + 2) : RK k := by
  unfold okFB at h
  rw [hk] at h
  simp only [Bool.and_eq_true, Bool.not_eq_true', Nat.blt_eq] at h
  exact ⟨h.1, by simpa using h.2⟩
theorem kO_rk {r : Nat} {o : Nat × List xT} (h : kO r = some o) : o.2.all okFB = true := by
  unfold kO at h
  split at h <;> first | (cases h; rfl) | cases h
theorem okFB_ite {c : Prop} [Decidable c] {a b : xT} (ha : okFB a = true) (hb : okFB b = true) : okFB (if c then a else b) = true := by split <;> assumption
theorem kA_rk {r : Nat} {q : Nat × Nat × (Nat → xT)} (h : kA r = some q) (i : Nat) : okFB (q.2.2 i) = true := by
  unfold kA at h
  split at h <;> first | (cases h; rfl) | (cases h; dsimp only; split <;> rfl) | (cases h; show okFB (cF90 i) = true; unfold cF90; (repeat refine okFB_ite rfl ?_); rfl) | (cases h; show okFB (cF91 i) = true; unfold cF91; (repeat refine okFB_ite rfl ?_); rfl) | cases h
def M100 (Γ Γ1 : Nat → Option Nat) : Prop := ∀ q k, RK k → Γ q = some k → Γ1 q = some k
theorem tv.ch {Γ Γ1 : Nat → Option Nat} {ft : xT} {v : Value} (hf : okFB ft = true) (hM : M100 Γ Γ1) (h : tv Γ ft v) : tv Γ1 ft v := by
  obtain ⟨t, lo, hi⟩ := ft
  match t, hf, h with
  | 0, _, h => exact h
  | 1, _, h => exact h
  | k + 2, hf, h =>
    obtain ⟨o, e, h1, h2⟩ := h
    exact ⟨o, e, h1, fun a ha => hM a k (okFB_rk hf rfl) (h2 a ha)⟩
theorem okc.ch {X : xW} {Γ Γ1 : Nat → Option Nat} {r a : Nat} {H : Heap} (hM : M100 Γ Γ1) (h : okc X Γ r a H) : okc X Γ1 r a H := by
  unfold okc at h ⊢
  cases hr : kO r with
  | some o =>
    rw [hr] at h
    obtain ⟨cell, h1, h2, h3, h4⟩ := h
    refine ⟨cell, h1, h2, h3, fun k ft hk => ?_⟩
    obtain ⟨v, h5, h6⟩ := h4 k ft hk
    exact ⟨v, h5, tv.ch (List.all_eq_true.mp (kO_rk hr) ft (List.mem_of_getElem? hk)) hM h6⟩
  | none =>
    rw [hr] at h
    dsimp only at h ⊢
    cases hA : kA r with
    | none => trivial
    | some q =>
      rw [hA] at h
      obtain ⟨z, h1, h2⟩ := h
      exact ⟨z, h1, fun j hj => tv.ch (kA_rk hA j) hM (h2 j hj)⟩
theorem Conf.ch {X : xW} {Γ Γ1 : Nat → Option Nat} {H H1 : Heap} {a0 : Nat} (hC : Conf X Γ H) (hΓ : ∀ q, q ≠ a0 → Γ1 q = Γ q) (h0 : ∀ k, RK k → Γ a0 ≠ some k) (hn : ∀ r, Γ1 a0 = some r → okc X Γ1 r a0 H1) (hH : ∀ q, q ≠ a0 → H1[q]? = H[q]?) : Conf X Γ1 H1 := by
  have hM : M100 Γ Γ1 := fun q k hk hq => by
    by_cases h : q = a0
    · subst h
      exact absurd hq (h0 k hk)
    · rw [hΓ q h]
      exact hq
  intro a r ha
  by_cases h : a = a0
  · subst h
    exact hn r ha
  · rw [hΓ a h] at ha
    exact ((hC a r ha).ch hM).kept (hH a h)
/-- unborn cells have kind 13; all that is born since the start is free -/
def NwG (Γ : Nat → Option Nat) (n0 : Nat) (H : Heap) : Prop := (∀ q, H.size ≤ q → Γ q = some 13) ∧ ∀ q, AΓ Γ q ↔ n0 ≤ q
/-- kinds stay but at b -/
def Lf (b : Nat) (Γ Γ1 : Nat → Option Nat) : Prop := ∀ x k, x ≠ b → k ≠ 13 → Γ x = some k → Γ1 x = some k
/-- no new Word, no new c, kept, out -/
def KN (Γ Γ1 : Nat → Option Nat) : Prop := ∀ x k, (k = 12 ∨ k = 64 ∨ k = 65 ∨ k = 68 ∨ k = 60 ∨ k = 61 ∨ k = 62) → Γ1 x = some k → Γ x = some k
theorem KN.tr {Γ Γ1 Γ2 : Nat → Option Nat} (h : KN Γ Γ1) (h2 : KN Γ1 Γ2) : KN Γ Γ2 := fun x k hk hx => h x k hk (h2 x k hk hx)
theorem Lf.tr {b : Nat} {Γ Γ1 Γ2 : Nat → Option Nat} (h : Lf b Γ Γ1) (h2 : Lf b Γ1 Γ2) : Lf b Γ Γ2 := fun x k hb hk hx => h2 x k hb hk (h x k hb hk hx)
theorem Lf.tr2 {b q : Nat} {Γ Γ1 Γ2 : Nat → Option Nat} (h : Lf b Γ Γ1) (h2 : Lf q Γ1 Γ2) (hq : Γ q = some 13) : Lf b Γ Γ2 := fun x k hb hk hx => h2 x k (fun e => by rw [e, hq] at hx; cases hx; exact hk rfl) hk (h x k hb hk hx)
theorem Cst.ch {X : xW} {Γ Γ1 : Nat → Option Nat} {U : State} {H : Heap} (hL : ∀ x, Γ x = some 12 → Γ1 x = some 12) (h12 : ∀ x, Γ1 x = some 12 → Γ x = some 12) (hA : ∀ q, AΓ Γ1 q ↔ AΓ Γ q) (h : Cst X Γ U H) : Cst X Γ1 U H := by
  have e : AΓ Γ1 = AΓ Γ := funext fun q => propext (hA q)
  obtain ⟨tR, tD, tA, h1, h2, h3, h4, h5, h6, h7, h8, h9, h10, h11⟩ := h
  refine ⟨tR, tD, tA, ?_⟩
  rw [e]
  exact ⟨h1, h2, h3, h4, fun i hi => ⟨(h5 i hi).1, hL _ (h5 i hi).2⟩, h6, h7, fun a ha => h8 a (h12 a ha), h9, h10, h11⟩
section CTR
variable {p : Program} {l : Launch} {e : Env} {R : Room} {s : State} {m : MethodId} {args : Array Value} {below : List Frame} {meth : Method} {c : Code} {H H0 : Heap} {locs : List Loc} {Q : State → Prop}
variable {cc : ByteArray} {pc mL n0 : Nat} {own : String} {ret : Option FieldType} {ls : Array Slot} {rest : List Value} {X : xW} {Γ Γ1 : Nat → Option Nat} {kc ks : Nat}
theorem Ev.ch (E : Ev p s m args meth c cc mL own ret X Γ H0) (hL : ∀ x, Γ x = some 12 → Γ1 x = some 12) (h12 : ∀ x, Γ1 x = some 12 → Γ x = some 12) (hA : ∀ q, AΓ Γ1 q ↔ AΓ Γ q) : Ev p s m args meth c cc mL own ret X Γ1 H0 := by
  obtain ⟨a1, a2, a3, a4, a5, ⟨b1, b2, b3, b4, b5⟩, a7, a8⟩ := E
  exact ⟨a1, a2, a3, a4, a5, ⟨b1, b2, b3, b4, b5.ch hL h12 hA⟩, a7, a8⟩
theorem vaS_ch (hS : va_S (AΓ Γ) H0 H locs) (hA : ∀ q, AΓ Γ1 q ↔ AΓ Γ q) : va_S (AΓ Γ1) H0 H locs := by
  have e : AΓ Γ1 = AΓ Γ := funext fun q => propext (hA q)
  rw [e]
  exact hS
def dfB (ft : xT) (ty : FieldType) : Bool := match ft.1, defaultValue ty with
  | 0, .int i => decide (ft.2.1 ≤ i.toInt) && decide (i.toInt ≤ ft.2.2)
  | 1, .long _ => true
  | _ + 2, .null => decide (ft.2.1 ≠ 0)
  | _, _ => false
theorem dfB_tv {ft : xT} {ty : FieldType} (h : dfB ft ty = true) : tv Γ ft (defaultValue ty) := by
  obtain ⟨t, lo, hi⟩ := ft
  unfold dfB at h
  split at h
  · rename_i i h1 h2
    have h1 : t = 0 := h1
    subst h1
    rw [h2]
    simp only [Bool.and_eq_true, decide_eq_true_eq] at h
    exact ⟨i, rfl, h.1, h.2⟩
  · rename_i i h1 h2
    have h1 : t = 1 := h1
    subst h1
    rw [h2]
    exact ⟨i, rfl⟩
  · rename_i k h1 h2
    have h1 : t = k + 2 := h1
    subst h1
    rw [h2]
    exact ⟨none, rfl, fun h3 => absurd h3 (by simpa using h), fun a h3 => by cases h3⟩
  · cases h
/-- what is told of a new cell -/
theorem nw_fresh {r : Nat} (hC : Conf X Γ H) (hW : NwG Γ n0 H) (hn : n0 ≤ H.size) (E : Ev p s m args meth c cc mL own ret X Γ H0) (hS : va_S (AΓ Γ) H0 H locs) {H1 : Heap} (hr : r ≠ 12) (hr13 : r ≠ 13) (z : H1.size = H.size + 1) (o : ∀ q, q < H.size → H1[q]? = H[q]?) (hk : ∀ Γ1 : Nat → Option Nat, M100 Γ Γ1 → okc X Γ1 r H.size H1) :
    ∃ Γ1 : Nat → Option Nat, Γ1 H.size = some r ∧ (∀ x k, k ≠ 13 → Γ x = some k → Γ1 x = some k) ∧ (∀ x k, Γ1 x = some k → Γ x = some k ∨ (x = H.size ∧ k = r)) ∧ Ev p s m args meth c cc mL own ret X Γ1 H0 ∧ Conf X Γ1 H1 ∧ va_S (AΓ Γ1) H0 H1 locs ∧ NwG Γ1 n0 H1 := by
  have h13 : Γ H.size = some 13 := hW.1 _ (Nat.le_refl _)
  refine ⟨fun q => if q = H.size then some r else Γ q, if_pos rfl, ?_⟩
  have e1 : ∀ q, q ≠ H.size → (if q = H.size then some r else Γ q) = Γ q := fun q hq => if_neg hq
  have hL : ∀ x k, k ≠ 13 → Γ x = some k → (if x = H.size then some r else Γ x) = some k := fun x k hk hx => by
    by_cases h : x = H.size
    · subst h
      rw [h13] at hx
      cases hx
      exact absurd rfl hk
    · rw [e1 x h]
      exact hx
  have hK : ∀ x k, (if x = H.size then some r else Γ x) = some k → Γ x = some k ∨ (x = H.size ∧ k = r) := fun x k hx => by
    by_cases h : x = H.size
    · rw [if_pos h] at hx
      cases hx
      exact Or.inr ⟨h, rfl⟩
    · rw [e1 x h] at hx
      exact Or.inl hx
  have hA : ∀ q, AΓ (fun q => if q = H.size then some r else Γ q) q ↔ AΓ Γ q := fun q => by
    constructor
    · rintro ⟨k, h1, h2⟩
      rcases hK q k h1 with h | ⟨h, -⟩
      · exact ⟨k, h, h2⟩
      · subst h
        exact ⟨13, h13, by decide⟩
    · rintro ⟨k, h1, h2⟩
      by_cases h : q = H.size
      · subst h
        exact ⟨r, if_pos rfl, hr⟩
      · exact ⟨k, (e1 q h).trans h1, h2⟩
  refine ⟨hL, hK, E.ch (fun x h => hL x 12 (by decide) h) (fun x h => ?_) hA, ?_, ?_, fun q hq => ?_, fun q => (hA q).trans (hW.2 q)⟩
  · rcases hK x 12 h with h | ⟨-, h⟩
    · exact h
    · exact absurd h.symm hr
  · refine hC.ch (a0 := H.size) (fun q hq => e1 q hq) (fun k hk h => ?_) (fun r' h => ?_) (fun q hq => ?_)
    · rw [h13] at h
      cases h
      exact hk.2 rfl
    · rw [if_pos rfl] at h
      cases h
      exact hk _ (fun q k h1 h2 => hL q k h1.2 h2)
    · by_cases h : q < H.size
      · exact o q h
      · rw [Array.getElem?_eq_none (by omega), Array.getElem?_eq_none (by omega)]
  · have := vaS_ch hS hA
    exact ⟨by have := this.1; omega, fun q h1 h2 => (o q (Nat.lt_of_lt_of_le h1 hS.1)).trans (this.2.1 q h1 h2), this.2.2⟩
  · exact (e1 q (by omega)).trans (hW.1 q (by omega))
def NO (own : String) (index r ci N : Nat) (tyL : List FieldType) : Prop := ∃ (fts : List xT) (C : String) (T : u_T), kO r = some (ci, fts) ∧ vwCl[ci]? = some (C, T, N) ∧ ((fts.zip tyL).all fun q => dfB q.1 q.2) = true ∧ fts.length = N ∧ tyL.length = N ∧ (∀ k, k < N → parseFieldDescriptor (T k).2.2.1 = some (tyL.getD k .int)) ∧ (∀ w ∈ u_ws C T N, w ∈ GW) ∧ Cond.classLink own index C ∈ GW ∧ Cond.instantiable C N ∈ GW ∧ Cond.initialized C ∈ GW ∧ r ≠ 12 ∧ r ≠ 13
theorem q_getUz (E : Ev p s m args meth c cc mL own ret X Γ H0) (hC : Conf X Γ H) {a r ci k index ca q0 : Nat} {hi : Int} (ha : Γ a = some r) (hf : FA own index r ci k (q0 + 2, 0, hi)) (uc : ∀ a, Γ a = some q0 → a = ca) (hdg : decode cc pc = .ok (.getfield index, 3))
    (kk : W p l e R s m args below meth c H locs kc ks Q (F0 m (pc + 3) ls (.ref ca :: rest))) : W p l e R s m args below meth c H locs kc ks Q (F0 m pc ls (.ref a :: rest)) :=
  q_getR E hC ha hf hdg (fun q _ hq => by rw [uc q hq]; exact kk)
theorem q_newO (E : Ev p s m args meth c cc mL own ret X Γ H0) (hC : Conf X Γ H) (hS : va_S (AΓ Γ) H0 H locs) (hW : NwG Γ n0 H) (hn : n0 ≤ H.size) {index r ci N : Nat} {tyL : List FieldType} (hf : NO own index r ci N tyL) (h1 : kc + 1 ≤ R.cells) (h2 : ks + N ≤ R.slots) (hdg : decode cc pc = .ok (.new index, 3))
    (kk : ∀ (q : Nat) (H1 : Heap) (Γ1 : Nat → Option Nat), q = H.size → H1.size = H.size + 1 → (∀ x, x < H.size → H1[x]? = H[x]?) → (∀ k v, k < tyL.length → v = X.1.2 ci k → sv H1 q v = some (defaultValue (tyL.getD k .int))) → Γ1 q = some r → (∀ x k, k ≠ 13 → Γ x = some k → Γ1 x = some k) → (∀ x k, Γ1 x = some k → Γ x = some k ∨ (x = q ∧ k = r)) → Ev p s m args meth c cc mL own ret X Γ1 H0 → Conf X Γ1 H1 → va_S (AΓ Γ1) H0 H1 locs → NwG Γ1 n0 H1 →
      W p l e R s m args below meth c H1 locs (kc + 1) (ks + N) Q (F0 m (pc + 3) ls (.ref q :: rest))) : W p l e R s m args below meth c H locs kc ks Q (F0 m pc ls rest) := by
  obtain ⟨fts, C, T, a1, a2, a3, a4, a5, a6, a7, a8, a9, a10, a11, a12⟩ := hf
  obtain ⟨hx, hb, hml, hown, hts, hG, b7, b8⟩ := E
  have hKn := hG.2.1.1 ci _ a2
  refine W.newcK hx hb hown (hts _ a8) (hts _ a9) (hts _ a10) rfl hdg h1 h2 hKn.2.1 rfl fun H1 kC hkC e1 z1 o1 => ?_
  have hb2 := u_born (fun k => tyL.getD k .int) hts a7 hKn hkC e1 a6
  obtain ⟨cell, g1, g2, g3, g4⟩ := hb2
  obtain ⟨Γ1, c1, c2, c3, c4, c5, c6, c7⟩ := nw_fresh (r := r) hC hW hn ⟨hx, hb, hml, hown, hts, hG, b7, b8⟩ hS a11 a12 z1 o1 (fun Γ2 _ => by
    unfold okc
    rw [a1]
    refine ⟨cell, g1, g2, g3, fun k ft hk => ?_⟩
    have hk1 : k < N := by
      have : k < fts.length := (List.getElem?_eq_some_iff.mp hk).1
      omega
    refine ⟨_, g4 k hk1, ?_⟩
    refine dfB_tv ?_
    have hz : (fts.zip tyL)[k]? = some (ft, tyL.getD k .int) := by
      rw [List.getElem?_zip_eq_some]
      exact ⟨hk, by rw [List.getD_eq_getElem?_getD, List.getElem?_eq_getElem (by omega)]; rfl⟩
    exact List.all_eq_true.mp a3 _ (List.mem_of_getElem? hz))
  refine kk _ H1 Γ1 rfl z1 o1 (fun k v hk hv => ?_) c1 c2 c3 c4 c5 c6 c7
  subst hv
  unfold sv
  rw [g1, Option.bind_some]
  exact g4 k (by omega)
theorem q_newP (E : Ev p s m args meth c cc mL own ret X Γ H0) (hC : Conf X Γ H) (hS : va_S (AΓ Γ) H0 H locs) (hW : NwG Γ n0 H) (hn : n0 ≤ H.size) {r t N : Nat} {F : Nat → xT} {atype : ArrayType} {ty : FieldType} (hr : kO r = none) (hA : kA r = some (t, N, F)) (ht : (xty X)[t]? = some (X.2 t, ty)) (hty : newarray.typeOf atype = ty) (hfind : ∀ U cA, va_RA U cA ty → U.vm.findClass ("[" ++ ty.toString) = some cA) (hd : ∀ j, dfB (F j) ty = true) (hw : Cond.arrayClass ty ∈ GW) (hr12 : r ≠ 12 ∧ r ≠ 13) {i : Int32} (hi : ¬ i < 0) (hN : i.toNatClampNeg = N) (hby : N * componentBytes ty ≤ 536870912) (h1 : kc + 1 ≤ R.cells) (h2 : ks + N ≤ R.slots) (hdg : decode cc pc = .ok (.newarray atype, 2))
    (kk : ∀ (q : Nat) (H1 : Heap) (Γ1 : Nat → Option Nat), q = H.size → H1.size = H.size + 1 → (∀ x, x < H.size → H1[x]? = H[x]?) → H1[q]? = some (arrV (X.2 t) N (fun _ => defaultValue ty)) → Γ1 q = some r → (∀ x k, k ≠ 13 → Γ x = some k → Γ1 x = some k) → (∀ x k, Γ1 x = some k → Γ x = some k ∨ (x = q ∧ k = r)) → Ev p s m args meth c cc mL own ret X Γ1 H0 → Conf X Γ1 H1 → va_S (AΓ Γ1) H0 H1 locs → NwG Γ1 n0 H1 →
      W p l e R s m args below meth c H1 locs (kc + 1) (ks + N) Q (F0 m (pc + 2) ls (.ref q :: rest))) : W p l e R s m args below meth c H locs kc ks Q (F0 m pc ls (.int i :: rest)) := by
  subst hty
  have E' := E
  obtain ⟨hx, hb, hml, hown, hts, hG, b7, b8⟩ := E
  refine va_newaK hx hb (hts _ hw) rfl hdg rfl hi hN hby h1 h2 rfl fun H1 cA e1 z1 o1 hAr hNm => ?_
  have hcA : cA = X.2 t := Option.some.inj (hNm.symm.trans (hfind _ _ (hG.2.1.2 t _ ht).2))
  subst hcA
  obtain ⟨Γ1, c1, c2, c3, c4, c5, c6, c7⟩ := nw_fresh (r := r) hC hW hn E' hS hr12.1 hr12.2 z1 o1 (fun Γ2 _ => by
    unfold okc
    rw [hr]
    dsimp only
    rw [hA]
    exact ⟨_, e1, fun j _ => dfB_tv (hd j)⟩)
  exact kk _ H1 Γ1 rfl z1 o1 e1 c1 c2 c3 c4 c5 c6 c7
theorem q_newR (E : Ev p s m args meth c cc mL own ret X Γ H0) (hC : Conf X Γ H) (hS : va_S (AΓ Γ) H0 H locs) (hW : NwG Γ n0 H) (hn : n0 ≤ H.size) {r t N index : Nat} {F : Nat → xT} {C : String} (hr : kO r = none) (hA : kA r = some (t, N, F)) (ht : (xty X)[t]? = some (X.2 t, .object C)) (hd : ∀ j, dfB (F j) (.object C) = true) (hw : Cond.classLink own index C ∈ GW) (hw2 : va_AO C s) (hr12 : r ≠ 12 ∧ r ≠ 13) {i : Int32} (hi : ¬ i < 0) (hN : i.toNatClampNeg = N) (hby : N * 4 ≤ 536870912) (h1 : kc + 1 ≤ R.cells) (h2 : ks + N ≤ R.slots) (hdg : decode cc pc = .ok (.anewarray index, 3))
    (kk : ∀ (q : Nat) (H1 : Heap) (Γ1 : Nat → Option Nat), q = H.size → H1.size = H.size + 1 → (∀ x, x < H.size → H1[x]? = H[x]?) → Γ1 q = some r → (∀ x k, k ≠ 13 → Γ x = some k → Γ1 x = some k) → (∀ x k, Γ1 x = some k → Γ x = some k ∨ (x = q ∧ k = r)) → Ev p s m args meth c cc mL own ret X Γ1 H0 → Conf X Γ1 H1 → va_S (AΓ Γ1) H0 H1 locs → NwG Γ1 n0 H1 →
      W p l e R s m args below meth c H1 locs (kc + 1) (ks + N) Q (F0 m (pc + 3) ls (.ref q :: rest))) : W p l e R s m args below meth c H locs kc ks Q (F0 m pc ls (.int i :: rest)) := by
  subst hN
  have E' := E
  obtain ⟨hx, hb, hml, hown, hts, hG, b7, b8⟩ := E
  refine W.anew hx hb hown (hts _ hw) (va_AO.use hw2) rfl hdg rfl hi hby h1 h2 fun cA kA' comp g1 g2 g3 g4 => ?_
  have hcA : cA = X.2 t := by
    obtain ⟨-, kA2, comp2, f1, f2, f3, f4⟩ := hG.2.1.2 t _ ht
    exact Option.some.inj (g1.symm.trans f4)
  subst hcA
  have e0 : ({ cls := X.2 t, slots := Array.replicate i.toNatClampNeg Value.null, vm := .none } : Cell) = arrV (X.2 t) i.toNatClampNeg (fun _ => .null) := by rw [← arrV_new]
  rw [e0]
  obtain ⟨Γ1, c1, c2, c3, c4, c5, c6, c7⟩ := nw_fresh (H1 := H.push (arrV (X.2 t) i.toNatClampNeg (fun _ => .null))) (r := r) hC hW hn E' hS hr12.1 hr12.2 (by simp) (fun q hq => by rw [Array.getElem?_push, if_neg (Nat.ne_of_lt hq)]) (fun Γ2 _ => by
    unfold okc
    rw [hr]
    dsimp only
    rw [hA]
    exact ⟨fun _ => .null, by simp, fun j _ => dfB_tv (ty := .object C) (hd j)⟩)
  exact kk _ _ Γ1 rfl (by simp) (fun q hq => by rw [Array.getElem?_push, if_neg (Nat.ne_of_lt hq)]) c1 c2 c3 c4 c5 c6 c7
/-- an object under way comes on: its row k is set -/
theorem retype {H1 : Heap} {locs1 : List Loc} (E : Ev p s m args meth c cc mL own ret X Γ H0) (hC : Conf X Γ H1) (hS : va_S (AΓ Γ) H0 H1 locs1) (hW : NwG Γ n0 H1) {a r r2 : Nat} (ha : Γ a = some r) (hrk : 200 ≤ r) (hr2 : r2 ≠ 12 ∧ r2 ≠ 13 ∧ r2 ≠ 64 ∧ r2 ≠ 65 ∧ r2 ≠ 68 ∧ r2 ≠ 60 ∧ r2 ≠ 61 ∧ r2 ≠ 62) (hlt : a < H1.size) (hok : ∀ Γ1 : Nat → Option Nat, M100 Γ Γ1 → okc X Γ1 r2 a H1) :
    ∃ Γ1 : Nat → Option Nat, Γ1 a = some r2 ∧ Lf a Γ Γ1 ∧ KN Γ Γ1 ∧ (∀ x, x ≠ a → Γ1 x = Γ x) ∧ Ev p s m args meth c cc mL own ret X Γ1 H0 ∧ Conf X Γ1 H1 ∧ va_S (AΓ Γ1) H0 H1 locs1 ∧ NwG Γ1 n0 H1 := by
  have e1 : ∀ q, q ≠ a → (if q = a then some r2 else Γ q) = Γ q := fun q hq => if_neg hq
  have hL : Lf a Γ (fun q => if q = a then some r2 else Γ q) := fun x k hx _ hk => (e1 x hx).trans hk
  have hK : KN Γ (fun q => if q = a then some r2 else Γ q) := fun x k hk hx => by
    by_cases h : x = a
    · rw [show (fun q => if q = a then some r2 else Γ q) x = some r2 from if_pos h] at hx
      cases hx
      omega
    · exact (e1 x h).symm.trans hx
  have hM : M100 Γ (fun q => if q = a then some r2 else Γ q) := fun q k hk hq => by
    refine hL q k (fun h => ?_) hk.2 hq
    subst h
    rw [ha] at hq
    cases hq
    have := hk.1
    omega
  have hA : ∀ q, AΓ (fun q => if q = a then some r2 else Γ q) q ↔ AΓ Γ q := fun q => by
    by_cases h : q = a
    · subst h
      exact ⟨fun _ => ⟨r, ha, by omega⟩, fun _ => ⟨r2, if_pos rfl, hr2.1⟩⟩
    · unfold AΓ
      rw [show (fun q => if q = a then some r2 else Γ q) q = Γ q from e1 q h]
  refine ⟨fun q => if q = a then some r2 else Γ q, if_pos rfl, hL, hK, e1, E.ch (fun x h => hM x 12 ⟨by decide, by decide⟩ h) (fun x h => hK x 12 (Or.inl rfl) h) hA, ?_, vaS_ch hS hA, fun q hq => ?_, fun q => (hA q).trans (hW.2 q)⟩
  · refine hC.ch (a0 := a) (fun q hq => e1 q hq) (fun k hk h => ?_) (fun r' h => ?_) (fun q _ => rfl)
    · rw [ha] at h
      cases h
      have := hk.1
      omega
    · rw [if_pos rfl] at h
      cases h
      exact hok _ hM
  · exact (e1 q (by omega)).trans (hW.1 q hq)
theorem NwG.up {H1 : Heap} (hW : NwG Γ n0 H) (hz : H.size ≤ H1.size) : NwG Γ n0 H1 := ⟨fun q hq => hW.1 q (by omega), hW.2⟩
/-- the field k, final or not, of the object under way: reference q, kind on -/
def FN (own : String) (index r r2 ci k kd : Nat) (ty : FieldType) : Prop := ∃ (fts fts2 : List xT) (C : String) (T : u_T) (N : Nat), kO r = some (ci, fts) ∧ kO r2 = some (ci, fts2) ∧ vwCl[ci]? = some (C, T, N) ∧ k < N ∧ fts.length = N ∧ fts2.length = N ∧ fts[k]? = some (kd + 2, 1, 0) ∧ fts2[k]? = some (kd + 2, 0, 0) ∧ ((List.range N).all fun j => j == k || fts2[j]? == fts[j]?) = true ∧ (∀ w ∈ u_ws C T N, w ∈ GW) ∧ Cond.fieldLink own index (T k).1 (T k).2.1 (T k).2.2.1 ∈ GW ∧ (T k).1 = own ∧ parseFieldDescriptor (T k).2.2.1 = some ty ∧ 200 ≤ r ∧ (r2 ≠ 12 ∧ r2 ≠ 13 ∧ r2 ≠ 64 ∧ r2 ≠ 65 ∧ r2 ≠ 68 ∧ r2 ≠ 60 ∧ r2 ≠ 61 ∧ r2 ≠ 62)
theorem q_putN (E : Ev p s m args meth c cc mL own ret X Γ H0) (hin2 : meth.name = "<init>") (hC : Conf X Γ H) (hS : va_S (AΓ Γ) H0 H locs) (hW : NwG Γ n0 H) {a q r r2 ci k kd index : Nat} {ty : FieldType} (ha : Γ a = some r) (hq : Γ q = some kd) (hf : FN own index r r2 ci k kd ty) (hn : narrow ty (.ref q) = .ref q) (hfit : fits ty (.ref q) = true) (hkd : RK kd) (hdg : decode cc pc = .ok (.putfield index, 3))
    (kk : ∀ (H1 : Heap) (locs1 : List Loc) (Γ1 : Nat → Option Nat), H1.size = H.size → (∀ x, x ≠ a → H1[x]? = H[x]?) → Up H H1 a (X.1.2 ci k) (.ref q) → Γ1 a = some r2 → Lf a Γ Γ1 → KN Γ Γ1 → (∀ x, x ≠ a → Γ1 x = Γ x) → Ev p s m args meth c cc mL own ret X Γ1 H0 → Conf X Γ1 H1 → va_S (AΓ Γ1) H0 H1 locs1 → NwG Γ1 n0 H1 → W p l e R s m args below meth c H1 locs1 kc ks Q (F0 m (pc + 3) ls rest)) : W p l e R s m args below meth c H locs kc ks Q (F0 m pc ls (.ref q :: .ref a :: rest)) := by
  have E' := E
  obtain ⟨hx, hb, hml, hown, hts, hG, -⟩ := E
  obtain ⟨fts, fts2, C, T, N, hr, hr2, hc, hkN, hlen, hlen2, hk1, hk2, hsame, hin, hl, hdecl, hd, h200, hr212⟩ := hf
  obtain ⟨cell, v0, q1, q2, q3, q4, q5⟩ := (hC a r ha).obj hr hk1
  obtain ⟨hSl, hfc, kC, hkC, hkind⟩ := hG.2.1.1 ci _ hc
  obtain ⟨cf, kf, fi, f, hi, hsl⟩ := hSl k hkN
  have hap := hG.2.2.1 ci _ hc
  have hlt : X.1.2 ci k < cell.slots.size := k2_hasslot q4
  have hst := (u_facts hfc hkC (u_lays hts hin hkN) hi).1
  have fin : ∀ H' : Heap, H'[a]? = some (cell.setSlot f.slot (.ref q)) → H'.size = H.size → (∀ x, x ≠ a → H'[x]? = H[x]?) → W p l e R s m args below meth c H' (locs ++ [⟨a, f.slot⟩]) kc ks Q (F0 m (pc + 3) ls rest) := fun H' e1 e2 e3 => by
    rw [hsl] at e1 ⊢
    have hC1 : Conf X Γ H' := hC.setO ha hr hk1 (fun x y hx hy => hap x y (hlen ▸ hx) (hlen ▸ hy)) (tv_Q (o := some q) (fun x hx => by cases hx; exact hq)) q1 hlt e1 e3
    have hU : Up H H' a (X.1.2 ci k) (.ref q) := Up.of q1 e1 e3 hlt
    have hal : a < H'.size := by
      have := (Array.getElem?_eq_some_iff.mp e1).1
      exact this
    obtain ⟨Γ1, c1, c2, c3, c8, c4, c5, c6, c7⟩ := retype (r2 := r2) E' hC1 (hS.put e2 e3 ⟨r, ha, by omega⟩) (hW.up (by omega)) ha h200 hr212 hal (fun Γ2 hM => by
      have h5 := (hC1 a r ha).ch hM
      unfold okc at h5 ⊢
      rw [hr] at h5
      rw [hr2]
      obtain ⟨cell2, g1, g2, g3, g4⟩ := h5
      refine ⟨cell2, g1, g2, g3, fun j ft hj => ?_⟩
      by_cases hjk : j = k
      · subst hjk
        obtain ⟨v, g5, g6⟩ := g4 j _ hk1
        rw [hk2] at hj
        cases hj
        refine ⟨v, g5, ?_⟩
        have hv : v = .ref q := by
          have h7 := hU.1
          unfold sv at h7
          rw [g1, Option.bind_some] at h7
          exact Option.some.inj (g5.symm.trans h7)
        subst hv
        exact tv_R (hM q kd hkd hq)
      · have hjN : j < N := by
          have : j < fts2.length := (List.getElem?_eq_some_iff.mp hj).1
          omega
        have h8 := List.all_eq_true.mp hsame j (List.mem_range.mpr hjN)
        simp only [Bool.or_eq_true, beq_iff_eq] at h8
        rcases h8 with h8 | h8
        · exact absurd h8 hjk
        · exact g4 j ft (h8 ▸ hj))
    exact kk H' _ Γ1 e2 e3 hU c1 c2 c3 c8 c4 c5 c6 c7
  by_cases hfin : (T k).2.2.2 = true
  · have hlay := hts _ (hin _ (u_in_lay hkN))
    unfold u_lay at hlay
    rw [if_pos hfin] at hlay
    have hcf : m.cls = cf := by
      obtain ⟨_, _, c', _, _, _, -, -, hf', -, -, -, hown2, -⟩ := Cond.laysFinal_spec hlay
      have e1 : c' = cf := by have := hi.symm.trans hf'; simp at this; exact this.1.symm
      rw [hdecl] at hown2
      rw [← e1]; exact Option.some.inj (hown.symm.trans hown2)
    have h6 := u_fits hfc hkC hkind (Or.inr hlay) hi hd hn hfit
    exact W.putFinK hx hb hown (hts _ hl) hi hst hcf hin2 (by rw [q2]; exact h6) q1 q3 (by rw [hsl]; exact hlt) rfl rfl hdg fin
  · have hlay := hts _ (hin _ (u_in_lay hkN))
    unfold u_lay at hlay
    rw [if_neg hfin] at hlay
    have h6 := u_store hfc hkC hkind hlay hi hd hn hfit
    exact W.putK hx hb (f := f) ⟨hown, hts _ hl, ⟨_, _, _, hi⟩, hst⟩ (by rw [q2]; exact h6) q1 q3 (by rw [hsl]; exact hlt) rfl rfl hdg fin
/-- a row of references under way: place j -/
def AN (r r2 t n j kd : Nat) : Prop := ∃ (F F2 : Nat → xT), kO r = none ∧ kA r = some (t, n, F) ∧ kO r2 = none ∧ kA r2 = some (t, n, F2) ∧ F j = (kd + 2, 1, 0) ∧ F2 j = (kd + 2, 0, 0) ∧ (∀ i, i < n → i ≠ j → F2 i = F i) ∧ 200 ≤ r ∧ (r2 ≠ 12 ∧ r2 ≠ 13 ∧ r2 ≠ 64 ∧ r2 ≠ 65 ∧ r2 ≠ 68 ∧ r2 ≠ 60 ∧ r2 ≠ 61 ∧ r2 ≠ 62)
theorem q_aastN (E : Ev p s m args meth c cc mL own ret X Γ H0) (hC : Conf X Γ H) (hS : va_S (AΓ Γ) H0 H locs) (hW : NwG Γ n0 H) {a q r r2 t n kd ci N : Nat} {i : Int32} {C : String} {T : u_T} {fts : List xT} (ha : Γ a = some r) (hq : Γ q = some kd) (hf : AN r r2 t n i.toNatClampNeg kd) (ht : (xty X)[t]? = some (X.2 t, .object C)) (hkO : kO kd = some (ci, fts)) (hcl : vwCl[ci]? = some (C, T, N)) (hkd : RK kd) (hin : vp_in i n) (hdg : decode cc pc = .ok (.aastore, 1))
    (kk : ∀ (H1 : Heap) (locs1 : List Loc) (Γ1 : Nat → Option Nat), H1.size = H.size → (∀ x, x ≠ a → H1[x]? = H[x]?) → Up H H1 a i.toNatClampNeg (.ref q) → Γ1 a = some r2 → Lf a Γ Γ1 → KN Γ Γ1 → (∀ x, x ≠ a → Γ1 x = Γ x) → Ev p s m args meth c cc mL own ret X Γ1 H0 → Conf X Γ1 H1 → va_S (AΓ Γ1) H0 H1 locs1 → NwG Γ1 n0 H1 → W p l e R s m args below meth c H1 locs1 kc ks Q (F0 m (pc + 1) ls rest)) : W p l e R s m args below meth c H locs kc ks Q (F0 m pc ls (.ref q :: .int i :: .ref a :: rest)) := by
  have E' := E
  obtain ⟨hx, hb, hml, hown, hts, hG, -⟩ := E
  obtain ⟨F, F2, hr, hA, hr2, hA2, hj1, hj2, hsame, h200, hr212⟩ := hf
  obtain ⟨z, h1, h2, h3⟩ := q_arr E' hC ha hr hA ht
  have fin : ∀ H' : Heap, H'[a]? = some ((arrV (X.2 t) n z).setSlot i.toNatClampNeg (.ref q)) → H'.size = H.size → (∀ x, x ≠ a → H'[x]? = H[x]?) → W p l e R s m args below meth c H' (locs ++ [⟨a, i.toNatClampNeg⟩]) kc ks Q (F0 m (pc + 1) ls rest) := fun H' e1 e2 e3 => by
    have hC1 : Conf X Γ H' := hC.setA ha hr hA h2 (hj1 ▸ tv_Q (o := some q) (fun x hx => by cases hx; exact hq)) e1 e3
    have hU : Up H H' a i.toNatClampNeg (.ref q) := Up.of h1 e1 e3 (by rw [arrV_size]; exact q_inl hin)
    have hal : a < H'.size := (Array.getElem?_eq_some_iff.mp e1).1
    obtain ⟨Γ1, c1, c2, c3, c8, c4, c5, c6, c7⟩ := retype (r2 := r2) E' hC1 (hS.put e2 e3 ⟨r, ha, by omega⟩) (hW.up (by omega)) ha h200 hr212 hal (fun Γ2 hM => by
      have h5 := (hC1 a r ha).ch hM
      unfold okc at h5 ⊢
      rw [hr] at h5
      rw [hr2]
      dsimp only at h5 ⊢
      rw [hA] at h5
      rw [hA2]
      obtain ⟨z2, g1, g2⟩ := h5
      refine ⟨z2, g1, fun j hj => ?_⟩
      by_cases hjk : j = i.toNatClampNeg
      · subst hjk
        have hv : z2 i.toNatClampNeg = .ref q := by
          have h7 := hU.1
          unfold sv at h7
          rw [g1, Option.bind_some] at h7
          exact Option.some.inj ((arrV_read _ _ hj).symm.trans h7)
        show tv Γ2 (F2 i.toNatClampNeg) _
        rw [hj2, hv]
        exact tv_R (hM q kd hkd hq)
      · show tv Γ2 (F2 j) _
        rw [hsame j hj hjk]
        exact g2 j hj)
    exact kk H' _ Γ1 e2 e3 hU c1 c2 c3 c8 c4 c5 c6 c7
  obtain ⟨-, kA', comp, g1, g2, g3, g4⟩ := hG.2.1.2 t _ ht
  have hcq := hC q kd hq
  unfold okc at hcq
  rw [hkO] at hcq
  obtain ⟨cv, w1, w2, w3, -⟩ := hcq
  have hcc := (hG.2.1.1 ci _ hcl).2.1
  have hcv : cv.cls = comp := w2.trans (Option.some.inj (hcc.symm.trans g3))
  obtain ⟨kcl, hkc, -⟩ := Vm.findClass_spec g3
  exact W.aast (cv := cv) hx hb h1 (fun q => by intro h; cases h) (fun q => by cases q) g1 g2 rfl hkc ⟨fun h => hin (Or.inl h), by rw [arrV_size]; exact q_inl hin⟩ w1 (fun q h => by rw [w3] at h; cases h) (hcv.symm ▸ hkc) (hcv.symm ▸ va_asg _ _) rfl rfl hdg fin
/-- the tables' word of arrays of these classes -/
def AO4 (U : State) : Prop := va_AO "SnowForts$Tray" U ∧ va_AO "SnowForts$Word" U ∧ va_AO "SnowForts$Yard" U ∧ va_AO "SnowForts$Orders" U
theorem AO4.moved {u U : State} (hvm : u.vm.Alike U.vm) (h : AO4 u) : AO4 U := ⟨h.1.moved hvm, h.2.1.moved hvm, h.2.2.1.moved hvm, h.2.2.2.moved hvm⟩
abbrev GdA (X : xW) (Γ : Nat → Option Nat) (H0 : Heap) (U : State) : Prop := Gd X Γ H0 U ∧ AO4 U
theorem blindA {av : List Value} : FrameBlind (va_Pc av (GdA X Γ H0)) := fun _ U _ _ h => ⟨h.1, h.2.1.calling, AO4.moved (u := U) (Vm.Alike.refl U.vm) h.2.2⟩
theorem q_preA (E : Ev p s m args meth c cc mL own ret X Γ H0) (hAO : AO4 s) (hS : va_S (AΓ Γ) H0 H locs) (av : List Value) : ∀ U : State, U.heap = H → s.WarmedH U.vm → va_Pc av (GdA X Γ H) av.toArray U := fun U hU hW => ⟨rfl, E.2.2.2.2.2.1.go hS hU hW, hAO.moved hW.alike⟩
/-- a constructor's contract: the object b0 comes to kind rF -/
def QN (Γ : Nat → Option Nat) (X : xW) (n0 b0 rF : Nat) (P : Heap → (Nat → Option Nat) → Prop) : Array Value → State → Outcome → State → Prop := va_Qv (S := Heap × (Nat → Option Nat)) (fun u => u.2 b0 = some rF ∧ Lf b0 Γ u.2 ∧ NwG u.2 n0 u.1 ∧ (∀ x, Γ x = some 12 ↔ u.2 x = some 12) ∧ P u.1 u.2) (fun u t => t.heap = u.1 ∧ Conf X u.2 u.1) (AΓ Γ)
def CtrN (l : Launch) (X : xW) (Γ : Nat → Option Nat) (n0 : Nat) (y : MethodName) (b : ByteArray) (mL lv mc ms : Nat) (av : List Value) (H0 : Heap) (b0 rF : Nat) (P : Heap → (Nat → Option Nat) → Prop) : Prop :=
  Met l y (Cond.code y b mL none :: GW) { frames := lv, cells := mc, slots := ms, locals := 48 * lv } (va_Pc av (GdA X Γ H0)) (QN Γ X n0 b0 rF P) mc ms (AΓ Γ)
theorem q_putZ (E : Ev p s m args meth c cc mL own ret X Γ H0) (hC : Conf X Γ H) (hS : va_S (AΓ Γ) H0 H locs) {a r ci k index : Nat} {ft : xT} {ty : FieldType} {v : Value} (ha : Γ a = some r) (hf : FP own index r ci k ft ty) (hv : tv Γ ft v) (hn : narrow ty v = v) (hfit : fits ty v = true) (hdg : decode cc pc = .ok (.putfield index, 3))
    (kk : ∀ (H1 : Heap) (locs1 : List Loc), H1.size = H.size → (∀ x, x ≠ a → H1[x]? = H[x]?) → Conf X Γ H1 → va_S (AΓ Γ) H0 H1 locs1 → Up H H1 a (X.1.2 ci k) v → W p l e R s m args below meth c H1 locs1 kc ks Q (F0 m (pc + 3) ls rest)) : W p l e R s m args below meth c H locs kc ks Q (F0 m pc ls (v :: .ref a :: rest)) := by
  obtain ⟨hx, hb, hml, hown, hts, hG, -⟩ := E
  obtain ⟨fts, C, T, N, hr, hk, hc, hkN, hlen, hin, hl, hfin, hd, hw⟩ := hf
  obtain ⟨cell, v0, q1, q2, q3, q4, q5⟩ := (hC a r ha).obj hr hk
  obtain ⟨hSl, hfc, kC, hkC, hkind⟩ := hG.2.1.1 ci _ hc
  obtain ⟨cf, kf, fi, f, hi, hsl⟩ := hSl k hkN
  have hlay := hts _ (hin _ (u_in_lay hkN))
  unfold u_lay at hlay
  rw [if_neg (by rw [hfin]; decide)] at hlay
  have hst := (u_facts hfc hkC (u_lays hts hin hkN) hi).1
  have h6 := u_store hfc hkC hkind hlay hi hd hn hfit
  have hap := hG.2.2.1 ci _ hc
  have hlt : X.1.2 ci k < cell.slots.size := k2_hasslot q4
  refine W.putK hx hb (f := f) ⟨hown, hts _ hl, ⟨_, _, _, hi⟩, hst⟩ (by rw [q2]; exact h6) q1 q3 (by rw [hsl]; exact hlt) rfl rfl hdg fun H' e1 e2 e3 => ?_
  rw [hsl] at e1 ⊢
  exact kk H' _ e2 e3 (hC.setO ha hr hk (fun x y hx hy => hap x y (hlen ▸ hx) (hlen ▸ hy)) hv q1 hlt e1 e3) (hS.put e2 e3 ⟨r, ha, hw⟩) (Up.of q1 e1 e3 hlt)
theorem q_iastZ (E : Ev p s m args meth c cc mL own ret X Γ H0) (hC : Conf X Γ H) (hS : va_S (AΓ Γ) H0 H locs) {a r n : Nat} {i x : Int32} (ha : Γ a = some r) (hw : r ≠ 12) (hr : kO r = none) {F : Nat → xT} (hA : kA r = some (1, n, F)) (hin : vp_in i n) (hv : tv Γ (F i.toNatClampNeg) (.int x)) (hdg : decode cc pc = .ok (.iastore, 1))
    (kk : ∀ (H1 : Heap) (locs1 : List Loc), H1.size = H.size → (∀ x, x ≠ a → H1[x]? = H[x]?) → Conf X Γ H1 → va_S (AΓ Γ) H0 H1 locs1 → Up H H1 a i.toNatClampNeg (.int x) → W p l e R s m args below meth c H1 locs1 kc ks Q (F0 m (pc + 1) ls rest)) : W p l e R s m args below meth c H locs kc ks Q (F0 m pc ls (.int x :: .int i :: .ref a :: rest)) := by
  obtain ⟨z, h1, h2, h3⟩ := q_arr E hC ha hr hA rfl
  refine W.iast E.1 E.2.1 h1 h3 (fun q => by cases q) (q_inn hin) rfl rfl hdg fun H' e1 e2 e3 => ?_
  exact kk H' _ e2 e3 (hC.setA ha hr hA h2 hv e1 e3) (hS.put e2 e3 ⟨r, ha, hw⟩) (Up.of h1 e1 e3 (by rw [arrV_size]; exact q_inl hin))
theorem q_enterN {y : MethodName} {b : ByteArray} {lv mc ms b0 rF : Nat} {av : List Value} {P : Heap → (Nat → Option Nat) → Prop} (hy : plainName y.cls = true) (hown : y.cls = own) (hnm : y.name = "<init>") (hlen : (lg_sl av).length ≤ mL) (hA : ∀ q, AΓ Γ q ↔ n0 ≤ q)
    (body : ∀ (p : Program) (e : Env) (s : State) (m : MethodId) (args : Array Value) (below : List Frame) (meth : Method) (c : Code) (ls : Array Slot) (Qz : State → Prop), Ev p s m args meth c b mL own none X Γ H0 → AO4 s → meth.name = "<init>" → lv_has ls mL (lv_args 0 av) →
      (∀ (H1 : Heap) (Γ1 : Nat → Option Nat) (locs1 : List Loc) (pc : Nat) (ls1 : Array Slot), decode b pc = .ok (.return_, 1) → Γ1 b0 = some rF → Lf b0 Γ Γ1 → NwG Γ1 n0 H1 → (∀ x, Γ x = some 12 ↔ Γ1 x = some 12) → P H1 Γ1 → Conf X Γ1 H1 → va_S (AΓ Γ1) H0 H1 locs1 → W p l e { frames := lv, cells := mc, slots := ms, locals := 48 * lv } s m args below meth c H1 locs1 mc ms Qz (F0 m pc ls1 [])) →
      va_S (AΓ Γ) H0 H0 [] → W p l e { frames := lv, cells := mc, slots := ms, locals := 48 * lv } s m args below meth c H0 [] 0 0 Qz (F0 m 0 ls [])) : CtrN l X Γ n0 y b mL lv mc ms av H0 b0 rF P := by
  refine Met.ofW (cc := b) (maxL := mL) (ret := none) hy rfl ?_
  intro p e s m args below meth c s₁ B hml hv
  obtain ⟨rfl, hG, hAO⟩ := hv
  have hh : s.heap = H0 := hG.1
  have hin : meth.name = y.name := (name_of_methodNamed B.named B.method).1
  have hl := lv_entry av hlen
  rw [lg_entry_eq, hh]
  have E : Ev p s m av.toArray meth c b mL own none X Γ H0 := ⟨B.exec, B.bytes, hml, hown ▸ findClass_of_methodNamed B.named, fun w hw => atoms_spec (ws := Cond.code y b mL none :: GW) B.pre w (List.mem_cons_of_mem _ hw), hG, B.notSynchronized, B.returns⟩
  refine body p e s m _ below meth c _ _ E hAO (hin.trans hnm) hl (fun H1 Γ1 locs1 pc ls1 hd g hLf hW h12 hP hC hS => ?_) va_S.rf
  have eA : AΓ Γ1 = AΓ Γ := funext fun q => propext ((hW.2 q).trans (hA q).symm)
  rw [eA] at hS
  exact W.vret E.1 E.2.1 E.2.2.2.2.2.2.2 (fun t ht hW2 => ⟨⟨(H1, Γ1), rfl, ⟨g, hLf, hW, h12, hP⟩, ht, hC⟩, hS.F0 E.2.2.2.2.2.1.1 ht⟩) hS.2.2 hd E.2.2.2.2.2.2.1
theorem q_goN {mc ms b rF : Nat} {st : List Value} {a : Array Value} {P : Heap → (Nat → Option Nat) → Prop} (hr : va_Run p l e R s m args below meth c H locs kc ks mc ms (F0 m pc ls st) rest (QN Γ X n0 b rF P a) (AΓ Γ)) (E : Ev p s m args meth c cc mL own ret X Γ H0) (hS : va_S (AΓ Γ) H0 H locs) (hA : ∀ q, AΓ Γ q ↔ n0 ≤ q)
    (kk : ∀ (H1 : Heap) (Γ1 : Nat → Option Nat) (locs1 : List Loc), H.size ≤ H1.size → Γ1 b = some rF → Lf b Γ Γ1 → (∀ x, Γ x = some 12 ↔ Γ1 x = some 12) → P H1 Γ1 → NwG Γ1 n0 H1 → Ev p s m args meth c cc mL own ret X Γ1 H0 → Conf X Γ1 H1 → va_S (AΓ Γ1) H0 H1 locs1 → W p l e R s m args below meth c H1 locs1 (kc + mc) (ks + ms) Q (F0 m (pc + 3) ls rest)) : W p l e R s m args below meth c H locs kc ks Q (F0 m pc ls st) := by
  refine va_callv hr hS (fun _ _ h => h) (fun _ h => h) fun u t H1 locs1 ht hvm hp hB hz hk hS1 => ?_
  obtain ⟨u1, u2⟩ := u
  obtain ⟨hB1, hB2⟩ := hB
  have hu : u1 = H1 := hB1.symm.trans ht
  subst hu
  obtain ⟨g, hLf, hW, h12, hP⟩ := hp
  have hA1 : ∀ q, AΓ u2 q ↔ AΓ Γ q := fun q => (hW.2 q).trans (hA q).symm
  exact kk u1 u2 locs1 hz g hLf h12 hP hW (E.ch (fun x h => (h12 x).mp h) (fun x h => (h12 x).mpr h) hA1) hB2 (vaS_ch hS1 hA1)
theorem q_runI {y : MethodName} {by1 : ByteArray} {mL1 lv1 mc ms n b rF index : Nat} {As st : List Value} {P : Heap → (Nat → Option Nat) → Prop} (E : Ev p s m args meth c cc mL own ret X Γ H0) (hAO : AO4 s) (hS : va_S (AΓ Γ) H0 H locs) (hM : CtrN l X Γ n0 y by1 mL1 lv1 mc ms (.ref b :: As) H b rF P) (hw : CWB y by1 mL1 none n) (hl : Cond.methodLink own index y ∈ GW ∧ Cond.instanceMethod y ∈ GW) (hnm : y.name = "<init>")
    (hn : As.length = n) (hsz : ls.size = mL) (hst : st = As.reverse ++ .ref b :: rest) (hcat : (rest.map fun v => v.category).sum ≤ 8) (hfr : lv1 + 1 ≤ R.frames) (hlo : 8 + (mL1 + 11) + 48 * lv1 ≤ R.locals) (h1 : kc + mc ≤ R.cells) (h2 : ks + ms ≤ R.slots) (hdg : decode cc pc = .ok (.invokespecial index, 3)) :
    va_Run p l e R s m args below meth c H locs kc ks mc ms (F0 m pc ls st) rest (QN Γ X n0 b rF P (Value.ref b :: As).toArray) (AΓ Γ) :=
  have hts := E.2.2.2.2.1
  va_runI (R := R) (locs := locs) (As := As) (rest := rest) (cells := kc) (slots := ks) (g := F0 m pc ls st) (q_fix E) hM ⟨⟨rfl, rfl, hfr, hlo, pay_all E hw.1, List.mem_cons_self, hts _ hw.1, hts _ hw.2.1, hw.2.2.1, len_of hw.2.2.2, hts _ hl.1⟩, hnm, hts _ hl.2⟩ ⟨blindA, q_preA E hAO hS _⟩ rfl hn hsz hst (lv_room hcat) hdg ⟨h1, h2⟩
theorem q_runIN {y : MethodName} {by1 : ByteArray} {mL1 lv1 mc ms n b rF index : Nat} {As st : List Value} {P : Heap → (Nat → Option Nat) → Prop} {host : String} (E : Ev p s m args meth c cc mL own ret X Γ H0) (hAO : AO4 s) (hS : va_S (AΓ Γ) H0 H locs) (hM : CtrN l X Γ n0 y by1 mL1 lv1 mc ms (.ref b :: As) H b rF P) (hw : CWB y by1 mL1 none n) (hl : (own, index, y, host) ∈ nwL ∧ Cond.instanceMethod y ∈ GW) (hnm : y.name = "<init>")
    (hn : As.length = n) (hsz : ls.size = mL) (hst : st = As.reverse ++ .ref b :: rest) (hcat : (rest.map fun v => v.category).sum ≤ 8) (hfr : lv1 + 1 ≤ R.frames) (hlo : 8 + (mL1 + 11) + 48 * lv1 ≤ R.locals) (h1 : kc + mc ≤ R.cells) (h2 : ks + ms ≤ R.slots) (hdg : decode cc pc = .ok (.invokespecial index, 3)) :
    va_Run p l e R s m args below meth c H locs kc ks mc ms (F0 m pc ls st) rest (QN Γ X n0 b rF P (Value.ref b :: As).toArray) (AΓ Γ) :=
  have hts := E.2.2.2.2.1
  va_runIN (R := R) (locs := locs) (As := As) (rest := rest) (cells := kc) (slots := ks) (host := host) (g := F0 m pc ls st) (q_fix E) hM ⟨⟨⟨rfl, rfl, hfr, hlo, pay_all E hw.1, List.mem_cons_self⟩, hts _ hw.1, hts _ hw.2.1, hw.2.2.1, len_of hw.2.2.2, va_Nw.use rfl (E.2.2.2.2.2.1.2.2.2.1 _ hl.1)⟩, hnm, hts _ hl.2⟩ ⟨blindA, q_preA E hAO hS _⟩ rfl hn hsz hst (lv_room hcat) hdg ⟨h1, h2⟩
end CTR
theorem Lf.al {b : Nat} {Γ Γ0 Γ1 : Nat → Option Nat} (h : Lf b Γ Γ0) (hL : ∀ x k, k ≠ 13 → Γ0 x = some k → Γ1 x = some k) : Lf b Γ Γ1 := fun x k hb hk hx => hL x k hk (h x k hb hk hx)
theorem KN.al {Γ Γ0 Γ1 : Nat → Option Nat} {q r : Nat} (h : KN Γ Γ0) (hK : ∀ x k, Γ1 x = some k → Γ0 x = some k ∨ (x = q ∧ k = r)) (hr : r ≠ 12 ∧ r ≠ 64 ∧ r ≠ 65 ∧ r ≠ 68 ∧ r ≠ 60 ∧ r ≠ 61 ∧ r ≠ 62) : KN Γ Γ1 := fun x k hk hx => by
  rcases hK x k hx with h2 | ⟨-, h2⟩
  · exact h x k hk h2
  · omega
def I12 (Γ Γ1 : Nat → Option Nat) : Prop := ∀ x, Γ x = some 12 ↔ Γ1 x = some 12
theorem I12.rf {Γ : Nat → Option Nat} : I12 Γ Γ := fun _ => Iff.rfl
theorem I12.al {Γ Γ0 Γ1 : Nat → Option Nat} {q r : Nat} (h : I12 Γ Γ0) (hL : ∀ x k, k ≠ 13 → Γ0 x = some k → Γ1 x = some k) (hK : ∀ x k, Γ1 x = some k → Γ0 x = some k ∨ (x = q ∧ k = r)) (hr : r ≠ 12) : I12 Γ Γ1 := fun x => (h x).trans ⟨fun h2 => hL x 12 (by decide) h2, fun h2 => by
  rcases hK x 12 h2 with h3 | ⟨-, h3⟩
  · exact h3
  · exact absurd h3.symm hr⟩
theorem I12.put {Γ Γ0 Γ1 : Nat → Option Nat} {a r : Nat} (h : I12 Γ Γ0) (hl : Lf a Γ0 Γ1) (hk : KN Γ0 Γ1) (ga : Γ0 a = some r) (hr : r ≠ 12) : I12 Γ Γ1 := fun x => (h x).trans ⟨fun h2 => hl x 12 (fun e => by rw [e, ga] at h2; cases h2; exact hr rfl) (by decide) h2, fun h2 => hk x 12 (Or.inl rfl) h2⟩
theorem I12.tr {Γ Γ0 Γ1 : Nat → Option Nat} (h : I12 Γ Γ0) (h2 : I12 Γ0 Γ1) : I12 Γ Γ1 := fun x => (h x).trans (h2 x)
theorem Lf.rf {b : Nat} {Γ : Nat → Option Nat} : Lf b Γ Γ := fun _ _ _ _ h => h
theorem KN.rf {Γ : Nat → Option Nat} : KN Γ Γ := fun _ _ _ h => h
theorem Lf.tr2x {b q r : Nat} {Γ Γ1 Γ2 : Nat → Option Nat} (h : Lf b Γ Γ1) (h2 : Lf q Γ1 Γ2) (hq : Γ q = some 13) (_ : Γ1 q = some r) : Lf b Γ Γ2 := h.tr2 h2 hq
theorem nw_lt {Γ : Nat → Option Nat} {n0 a r : Nat} {H : Heap} (hW : NwG Γ n0 H) (ha : Γ a = some r) (hr : r ≠ 13) : a < H.size := by
  by_cases h : a < H.size
  · exact h
  · have := hW.1 a (by omega)
    rw [ha] at this
    cases this
    exact absurd rfl hr
theorem sI_al {H H1 : Heap} {a j : Nat} (ho : ∀ x, x < H.size → H1[x]? = H[x]?) (ha : a < H.size) : sI H1 a j = sI H a j := by
  unfold sI sv
  rw [ho a ha]
def NoK (k : Nat) (Γ : Nat → Option Nat) : Prop := ∀ x, Γ x ≠ some k
/-- one of kind k, and only one -/
def OneK (k : Nat) (Γ : Nat → Option Nat) (q : Nat) : Prop := Γ q = some k ∧ ∀ x, Γ x = some k → x = q
theorem NoK.al {k q r : Nat} {Γ Γ1 : Nat → Option Nat} (h : NoK k Γ) (hK : ∀ x k, Γ1 x = some k → Γ x = some k ∨ (x = q ∧ k = r)) (hr : r ≠ k) : NoK k Γ1 := fun x hx => by
  rcases hK x k hx with h2 | ⟨-, h2⟩
  · exact h x h2
  · exact hr h2.symm
theorem NoK.nw {k q : Nat} {Γ Γ1 : Nat → Option Nat} (h : NoK k Γ) (hK : ∀ x j, Γ1 x = some j → Γ x = some j ∨ (x = q ∧ j = k)) (gq : Γ1 q = some k) : OneK k Γ1 q := ⟨gq, fun x hx => by
  rcases hK x k hx with h2 | ⟨h2, -⟩
  · exact absurd h2 (h x)
  · exact h2⟩
theorem OneK.al {k q q2 r : Nat} {Γ Γ1 : Nat → Option Nat} (h : OneK k Γ q) (hL : ∀ x k, k ≠ 13 → Γ x = some k → Γ1 x = some k) (hK : ∀ x k, Γ1 x = some k → Γ x = some k ∨ (x = q2 ∧ k = r)) (hr : r ≠ k) (h13 : k ≠ 13) : OneK k Γ1 q := ⟨hL _ _ h13 h.1, fun x hx => by
  rcases hK x k hx with h2 | ⟨-, h2⟩
  · exact h.2 x h2
  · exact absurd h2.symm hr⟩
theorem NoK.kn {k a : Nat} {Γ Γ1 : Nat → Option Nat} (h : NoK k Γ) (hk : KN Γ Γ1) (_ : Lf a Γ Γ1) (hc : k = 64 ∨ k = 65 ∨ k = 68 ∨ k = 60 ∨ k = 61 ∨ k = 62) : NoK k Γ1 := fun x hx => h x (hk x k (by omega) hx)
theorem OneK.kn {k a q r : Nat} {Γ Γ1 : Nat → Option Nat} (h : OneK k Γ q) (hk : KN Γ Γ1) (hl : Lf a Γ Γ1) (hc : k = 64 ∨ k = 65 ∨ k = 68 ∨ k = 60 ∨ k = 61 ∨ k = 62) (ga : Γ a = some r) (hr : r ≠ k) : OneK k Γ1 q := ⟨hl _ _ (fun e => by
  have h2 := h.1
  rw [e, ga] at h2
  exact hr (Option.some.inj h2)) (by omega) h.1, fun x hx => h.2 x (hk x k (by omega) hx)⟩
/-- old cells are as they were, but b -/
def Ol (b : Nat) (H0 H : Heap) : Prop := ∀ x, x < H0.size → x ≠ b → H[x]? = H0[x]?
theorem Ol.rf {b : Nat} {H : Heap} : Ol b H H := fun _ _ _ => rfl
theorem Ol.al {b : Nat} {H0 H H1 : Heap} (h : Ol b H0 H) (ho : ∀ x, x < H.size → H1[x]? = H[x]?) (hz : H0.size ≤ H.size) : Ol b H0 H1 := fun x h1 h2 => (ho x (by omega)).trans (h x h1 h2)
theorem Ol.put {b : Nat} {H0 H H1 : Heap} (h : Ol b H0 H) (e : ∀ x, x ≠ b → H1[x]? = H[x]?) : Ol b H0 H1 := fun x h1 h2 => (e x h2).trans (h x h1 h2)
theorem Ol.fr {b a : Nat} {H0 H H1 : Heap} (h : Ol b H0 H) (e : ∀ x, x ≠ a → H1[x]? = H[x]?) (ha : H0.size ≤ a) : Ol b H0 H1 := fun x h1 h2 => (e x (by omega)).trans (h x h1 h2)
theorem Ol.call {b a : Nat} {H0 H H1 : Heap} (h : Ol b H0 H) (e : Ol a H H1) (ha : H0.size ≤ a) (hz : H0.size ≤ H.size) : Ol b H0 H1 := fun x h1 h2 => (e x (by omega) (by omega)).trans (h x h1 h2)
theorem sI_ol {b a j : Nat} {H H1 : Heap} (e : Ol b H H1) (ha : a < H.size) (hne : a ≠ b) : sI H1 a j = sI H a j := by
  unfold sI sv
  rw [e a ha hne]
theorem sI_ne {a b j : Nat} {H H1 : Heap} (e : ∀ x, x ≠ b → H1[x]? = H[x]?) (hne : a ≠ b) : sI H1 a j = sI H a j := by
  unfold sI sv
  rw [e a hne]
/-- no new one of kind k but perhaps b -/
def KNb (b k : Nat) (Γ Γ1 : Nat → Option Nat) : Prop := ∀ x, x ≠ b → Γ1 x = some k → Γ x = some k
theorem KNb.rf {b k : Nat} {Γ : Nat → Option Nat} : KNb b k Γ Γ := fun _ _ h => h
theorem KNb.al {b k q r : Nat} {Γ Γ0 Γ1 : Nat → Option Nat} (h : KNb b k Γ Γ0) (hK : ∀ x k, Γ1 x = some k → Γ0 x = some k ∨ (x = q ∧ k = r)) (hr : r ≠ k) : KNb b k Γ Γ1 := fun x hx h1 => by
  rcases hK x k h1 with h2 | ⟨-, h2⟩
  · exact h x hx h2
  · exact absurd h2.symm hr
theorem KNb.put {b k : Nat} {Γ Γ0 Γ1 : Nat → Option Nat} (h : KNb b k Γ Γ0) (hE : ∀ x, x ≠ b → Γ1 x = Γ0 x) : KNb b k Γ Γ1 := fun x hx h1 => h x hx ((hE x hx).symm.trans h1)
theorem KNb.fr {a b k r : Nat} {Γ Γ0 Γ1 : Nat → Option Nat} (h : KNb b k Γ Γ0) (hE : ∀ x, x ≠ a → Γ1 x = Γ0 x) (ga : Γ1 a = some r) (hr : r ≠ k) : KNb b k Γ Γ1 := fun x hx h1 => by
  by_cases e : x = a
  · rw [e, ga] at h1
    exact absurd (Option.some.inj h1) hr
  · exact h x hx ((hE x e).symm.trans h1)
theorem NoK.call {b k r : Nat} {Γ Γ1 : Nat → Option Nat} (h : NoK k Γ) (hk : KNb b k Γ Γ1) (gb : Γ1 b = some r) (hr : r ≠ k) : NoK k Γ1 := fun x hx => by
  by_cases e : x = b
  · rw [e, gb] at hx
    exact hr (Option.some.inj hx)
  · exact h x (hk x e hx)
theorem NoK.new {b k : Nat} {Γ Γ1 : Nat → Option Nat} (h : NoK k Γ) (hk : KNb b k Γ Γ1) (gb : Γ1 b = some k) : OneK k Γ1 b := ⟨gb, fun x hx => by
  by_cases e : x = b
  · exact e
  · exact absurd (hk x e hx) (h x)⟩
theorem OneK.call {b k q r r0 : Nat} {Γ Γ1 : Nat → Option Nat} (h : OneK k Γ q) (hk : KNb b k Γ Γ1) (hl : Lf b Γ Γ1) (gb0 : Γ b = some r0) (hr0 : r0 ≠ k) (gb : Γ1 b = some r) (hr : r ≠ k) (h13 : k ≠ 13) : OneK k Γ1 q := ⟨hl _ _ (fun e => by
  have h2 := h.1
  rw [e, gb0] at h2
  exact hr0 (Option.some.inj h2)) h13 h.1, fun x hx => by
  by_cases e : x = b
  · rw [e, gb] at hx
    exact absurd (Option.some.inj hx) hr
  · exact h.2 x (hk x e hx)⟩
theorem NoK.eq {a k r : Nat} {Γ Γ1 : Nat → Option Nat} (h : NoK k Γ) (hE : ∀ x, x ≠ a → Γ1 x = Γ x) (ga : Γ1 a = some r) (hr : r ≠ k) : NoK k Γ1 := fun x hx => by
  by_cases e : x = a
  · rw [e, ga] at hx
    exact hr (Option.some.inj hx)
  · exact h x ((hE x e).symm.trans hx)
theorem OneK.eq {a k q r r0 : Nat} {Γ Γ1 : Nat → Option Nat} (h : OneK k Γ q) (hE : ∀ x, x ≠ a → Γ1 x = Γ x) (ga0 : Γ a = some r0) (hr0 : r0 ≠ k) (ga : Γ1 a = some r) (hr : r ≠ k) : OneK k Γ1 q := ⟨(hE q (fun e => by
  have h2 := h.1
  rw [e, ga0] at h2
  exact hr0 (Option.some.inj h2))).trans h.1, fun x hx => by
  by_cases e : x = a
  · rw [e, ga] at hx
    exact absurd (Option.some.inj hx) hr
  · exact h.2 x ((hE x e).symm.trans hx)⟩

theorem sv_al {H H1 : Heap} {a j : Nat} (ho : ∀ x, x < H.size → H1[x]? = H[x]?) (ha : a < H.size) : sv H1 a j = sv H a j := by
  unfold sv
  rw [ho a ha]
theorem sv_ol {b a j : Nat} {H H1 : Heap} (e : Ol b H H1) (ha : a < H.size) (hne : a ≠ b) : sv H1 a j = sv H a j := by
  unfold sv
  rw [e a ha hne]
theorem sv_ne {a b j : Nat} {H H1 : Heap} (e : ∀ x, x ≠ b → H1[x]? = H[x]?) (hne : a ≠ b) : sv H1 a j = sv H a j := by
  unfold sv
  rw [e a hne]
/-- what is told of slots of cells born from lo on and ahead of n -/
def SF (lo n : Nat) (H : Heap) (fs : List (Nat × Nat × Value)) : Prop := ∀ f ∈ fs, lo ≤ f.1 ∧ f.1 < n ∧ sv H f.1 f.2.1 = some f.2.2
theorem SF.nil {lo n : Nat} {H : Heap} : SF lo n H [] := fun _ h => absurd h List.not_mem_nil
theorem SF.al {lo n : Nat} {H H1 : Heap} {fs : List (Nat × Nat × Value)} (h : SF lo n H fs) (ho : ∀ x, x < H.size → H1[x]? = H[x]?) (hn : n ≤ H.size) : SF lo n H1 fs := fun f hf => ⟨(h f hf).1, (h f hf).2.1, (sv_al ho (Nat.lt_of_lt_of_le (h f hf).2.1 hn)).trans (h f hf).2.2⟩
theorem SF.eo {lo n b : Nat} {H H1 : Heap} {fs : List (Nat × Nat × Value)} (h : SF lo n H fs) (e : ∀ x, x ≠ b → H1[x]? = H[x]?) (hb : b < lo ∨ n ≤ b) : SF lo n H1 fs := fun f hf => ⟨(h f hf).1, (h f hf).2.1, (sv_ne e (by have := h f hf; omega)).trans (h f hf).2.2⟩
theorem SF.ol {lo n b : Nat} {H H1 : Heap} {fs : List (Nat × Nat × Value)} (h : SF lo n H fs) (e : Ol b H H1) (hn : n ≤ H.size) (hb : n ≤ b) : SF lo n H1 fs := fun f hf => ⟨(h f hf).1, (h f hf).2.1, (sv_ol e (Nat.lt_of_lt_of_le (h f hf).2.1 hn) (by have := (h f hf).2.1; omega)).trans (h f hf).2.2⟩
theorem SF.up {lo n a j : Nat} {v : Value} {H H1 : Heap} {fs : List (Nat × Nat × Value)} (h : SF lo n H fs) (U : Up H H1 a j v) (hn : ∀ f ∈ fs, ¬ (f.1 = a ∧ f.2.1 = j)) : SF lo n H1 fs := fun f hf => ⟨(h f hf).1, (h f hf).2.1, (U.2 _ _ (hn f hf)).trans (h f hf).2.2⟩
theorem SF.cons {lo n a j : Nat} {v : Value} {H : Heap} {fs : List (Nat × Nat × Value)} (h : SF lo n H fs) (h1 : lo ≤ a) (h2 : a < n) (hs : sv H a j = some v) : SF lo n H ((a, j, v) :: fs) := fun f hf => by
  rcases List.mem_cons.mp hf with e | e
  · subst e
    exact ⟨h1, h2, hs⟩
  · exact h f e
theorem SF.mono {lo n m : Nat} {H : Heap} {fs : List (Nat × Nat × Value)} (h : SF lo n H fs) (hm : n ≤ m) : SF lo m H fs := fun f hf => ⟨(h f hf).1, Nat.lt_of_lt_of_le (h f hf).2.1 hm, (h f hf).2.2⟩
/-- a new tray -/
def TrP (X : xW) (h0 : Nat) (n : Nat) (H1 : Heap) (Γ1 : Nat → Option Nat) : Prop := ∃ na : Nat, sv H1 h0 (X.1.2 6 0) = some (.ref na) ∧ Γ1 na = some 24 ∧ n ≤ na ∧ sv H1 h0 (X.1.2 6 2) = some (.int (-1))
/-- the trays of a new object -/
def TrO (X : xW) (h0 : Nat) (H1 : Heap) (Γ1 : Nat → Option Nat) : Prop := ∃ (ta : Nat) (td nd : Nat → Nat), Γ1 ta = some 20 ∧ sR H1 h0 (X.1.2 10 1) = some ta ∧ (∀ i, i < 4 → sR H1 ta i = some (td i) ∧ Γ1 (td i) = some 1) ∧ (∀ i j, i < 4 → j < 4 → td i = td j → i = j) ∧ (∀ i, i < 4 → sR H1 (td i) (X.1.2 6 0) = some (nd i) ∧ Γ1 (nd i) = some 24) ∧ (∀ i j, i < 4 → j < 4 → nd i = nd j → i = j) ∧ (∀ i, i < 4 → sI H1 (td i) (X.1.2 6 2) = -1) ∧ ∃ mo, sR H1 h0 (X.1.2 10 13) = some mo ∧ Γ1 mo = some 8 ∧ sJ H1 mo (X.1.2 0 0) = 0
theorem inj4 {f : Nat → Nat} {a b c d : Nat} (h0 : f 0 = a) (h1 : f 1 = b) (h2 : f 2 = c) (h3 : f 3 = d) (l1 : a < b) (l2 : b < c) (l3 : c < d) : ∀ i j, i < 4 → j < 4 → f i = f j → i = j := by
  intro i j hi hj h
  rcases (show i = 0 ∨ i = 1 ∨ i = 2 ∨ i = 3 by omega) with rfl | rfl | rfl | rfl <;> rcases (show j = 0 ∨ j = 1 ∨ j = 2 ∨ j = 3 by omega) with rfl | rfl | rfl | rfl <;> first | rfl | omega
theorem TrO.mk {X : xW} {h0 mo ta t0 t1 t2 t3 n0 n1 n2 n3 lo n : Nat} {H1 : Heap} {Γ1 : Nat → Option Nat} (gta : Γ1 ta = some 20) (tr : sv H1 h0 (X.1.2 10 1) = some (.ref ta)) (gmo : Γ1 mo = some 8) (tmo : sv H1 h0 (X.1.2 10 13) = some (.ref mo)) (g0 : Γ1 t0 = some 1) (g1 : Γ1 t1 = some 1) (g2 : Γ1 t2 = some 1) (g3 : Γ1 t3 = some 1) (k0 : Γ1 n0 = some 24) (k1 : Γ1 n1 = some 24) (k2 : Γ1 n2 = some 24) (k3 : Γ1 n3 = some 24)
    (d1 : t0 < t1) (d2 : t1 < t2) (d3 : t2 < t3) (b1 : n0 < n1) (b2 : n1 < n2) (b3 : n2 < n3) (sf : SF lo n H1 [(mo, X.1.2 0 0, .long 0), (ta, 3, .ref t3), (t3, X.1.2 6 2, .int (-1)), (t3, X.1.2 6 0, .ref n3), (ta, 2, .ref t2), (t2, X.1.2 6 2, .int (-1)), (t2, X.1.2 6 0, .ref n2), (ta, 1, .ref t1), (t1, X.1.2 6 2, .int (-1)), (t1, X.1.2 6 0, .ref n1), (ta, 0, .ref t0), (t0, X.1.2 6 2, .int (-1)), (t0, X.1.2 6 0, .ref n0)]) : TrO X h0 H1 Γ1 := by
  have f := fun x hx => (sf x hx).2.2
  simp only [List.forall_mem_cons] at f
  obtain ⟨zm, a3, l3, m3, a2, l2, m2, a1, l1, m1, a0, l0, m0, -⟩ := f
  have eR : ∀ {a j q : Nat}, sv H1 a j = some (.ref q) → sR H1 a j = some q := fun h => by unfold sR; rw [h]
  have eI : ∀ {a j : Nat} {v : Int32}, sv H1 a j = some (.int v) → sI H1 a j = v := fun h => by unfold sI; rw [h]
  refine ⟨ta, fun i => match i with | 0 => t0 | 1 => t1 | 2 => t2 | _ => t3, fun i => match i with | 0 => n0 | 1 => n1 | 2 => n2 | _ => n3, gta, eR tr, ?_, ?_, ?_, ?_, ?_, mo, eR tmo, gmo, by unfold sJ; rw [zm]⟩
  · intro i hi
    rcases (show i = 0 ∨ i = 1 ∨ i = 2 ∨ i = 3 by omega) with rfl | rfl | rfl | rfl
    · exact ⟨eR a0, g0⟩
    · exact ⟨eR a1, g1⟩
    · exact ⟨eR a2, g2⟩
    · exact ⟨eR a3, g3⟩
  · exact inj4 rfl rfl rfl rfl d1 d2 d3
  · intro i hi
    rcases (show i = 0 ∨ i = 1 ∨ i = 2 ∨ i = 3 by omega) with rfl | rfl | rfl | rfl
    · exact ⟨eR m0, k0⟩
    · exact ⟨eR m1, k1⟩
    · exact ⟨eR m2, k2⟩
    · exact ⟨eR m3, k3⟩
  · exact inj4 rfl rfl rfl rfl b1 b2 b3
  · intro i hi
    rcases (show i = 0 ∨ i = 1 ∨ i = 2 ∨ i = 3 by omega) with rfl | rfl | rfl | rfl
    · exact eI l0
    · exact eI l1
    · exact eI l2
    · exact eI l3

theorem TrO.go {X : xW} {x1 : Nat} {H H1 : Heap} {Γ Γ1 : Nat → Option Nat} (h : TrO X x1 H Γ) (g1 : Γ x1 = some 0) (hG : ∀ x k, k < 60 → k ≠ 13 → Γ x = some k → Γ1 x = some k ∧ H1[x]? = H[x]?) : TrO X x1 H1 Γ1 := by
  obtain ⟨ta, td, nd, a1, a2, a3, a4, a5, a6, a7, mo, b1, b2, b3⟩ := h
  have eJ : ∀ {a j k : Nat}, k < 60 → k ≠ 13 → Γ a = some k → sJ H1 a j = sJ H a j := fun h1 h2 h3 => by
    unfold sJ sv
    rw [(hG _ _ h1 h2 h3).2]
  have eR : ∀ {a j k : Nat}, k < 60 → k ≠ 13 → Γ a = some k → sR H1 a j = sR H a j := fun h1 h2 h3 => by
    unfold sR sv
    rw [(hG _ _ h1 h2 h3).2]
  have eI : ∀ {a j k : Nat}, k < 60 → k ≠ 13 → Γ a = some k → sI H1 a j = sI H a j := fun h1 h2 h3 => by
    unfold sI sv
    rw [(hG _ _ h1 h2 h3).2]
  refine ⟨ta, td, nd, (hG _ _ (by decide) (by decide) a1).1, (eR (by decide) (by decide) g1).trans a2, fun i hi => ⟨(eR (by decide) (by decide) a1).trans (a3 i hi).1, (hG _ _ (by decide) (by decide) (a3 i hi).2).1⟩, a4, fun i hi => ⟨(eR (by decide) (by decide) (a3 i hi).2).trans (a5 i hi).1, (hG _ _ (by decide) (by decide) (a5 i hi).2).1⟩, a6, fun i hi => (eI (by decide) (by decide) (a3 i hi).2).trans (a7 i hi), mo, (eR (by decide) (by decide) g1).trans b1, (hG _ _ (by decide) (by decide) b2).1, (eJ (by decide) (by decide) b2).trans b3⟩

theorem sI_z {H : Heap} {a j : Nat} {v : Value} (h : sv H a j = some v) (hv : v = .int 0) : sI H a j = 0 := by
  unfold sI
  rw [h, hv]

