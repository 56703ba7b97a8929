-- the law: calls in its room, what holds between calls
section LAW
variable {p : Program} {l : Launch} {e : Env} {R : Room} {s : State} {m : MethodId} {args : Array Value} {below : List Frame} {meth : Method} {c : Code} {H H0 H1 : Heap} {locs : List Loc} {Q : State → Prop}
variable {cc by1 : ByteArray} {pc mL kc ks mL1 lv1 n index ci : Nat} {own C : String} {ret ret1 : Option FieldType} {ls : Array Slot} {rest As st : List Value} {X : xW} {Γ : Nat → Option Nat} {y : MethodName} {b r : Nat}
theorem r_runV {Qc : Array Value → State → Outcome → State → Prop} (E : Ev p s m args meth c cc mL own ret X Γ H0) (hC : Conf X Γ H) (hS : va_S (AΓ Γ) H0 H locs) (hM : Ctr l X Γ y by1 mL1 ret1 lv1 (.ref b :: As) H Qc) (hw : CWB y by1 mL1 ret1 n) (hl : Cond.methodLink own index y ∈ GW ∧ Cond.instanceMethod y ∈ GW ∧ Cond.selects C y y ∈ GW) (hb : Γ b = some r) {fts : List xT} {T : u_T} {N : Nat} (hr : kO r = some (ci, fts) ∧ vwCl[ci]? = some (C, T, N))
    (hn : As.length = n) (hsz : ls.size = mL) (hst : st = As.reverse ++ .ref b :: rest) (hcat : (rest.map fun v => v.category).sum ≤ 8) (hfr : lv1 + 1 ≤ R.frames) (hlo : 8 + (mL1 + 11) + 64 * lv1 ≤ R.locals) (h1 : kc ≤ R.cells) (h2 : ks ≤ R.slots) (hdg : decode cc pc = .ok (.invokevirtual index, 3)) :
    va_Run p l e R s m args below meth c H locs kc ks 0 0 (F0 m pc ls st) rest (Qc (Value.ref b :: As).toArray) (AΓ Γ) :=
  have hts := E.2.2.2.2.1
  va_runV (As := As) (rest := rest) (q_fix E) hM ⟨⟨rfl, rfl, hfr, hlo, pay_all E hw.1, List.mem_cons_self, hts _ hw.1, hts _ hw.2.1, hw.2.2.1, len_of hw.2.2.2, hts _ hl.1⟩, E.2.2.2.2.1 _ hl.2.1, E.2.2.2.2.1 _ hl.2.2⟩ ⟨blind, q_recv E hC hb hr, q_pre E hS _⟩ rfl hn hsz hst (lv_room hcat) hdg ⟨h1, h2⟩
theorem r_goI {a : Array Value} {post : Int32 → Heap → Prop} (hr : va_Run p l e R s m args below meth c H locs kc ks 0 0 (F0 m pc ls st) rest (QI X Γ post a) (AΓ Γ)) (hS : va_S (AΓ Γ) H0 H locs)
    (kk : ∀ (v : Int32) (H1 : Heap) (locs1 : List Loc), post v H1 → Conf X Γ H1 → va_S (AΓ Γ) H0 H1 locs1 → W p l e R s m args below meth c H1 locs1 kc ks Q (F0 m (pc + 3) ls (.int v :: rest))) : W p l e R s m args below meth c H locs kc ks Q (F0 m pc ls st) :=
  va_calli hr hS (fun _ _ h => h) (fun _ h => h) fun v u t H1 locs1 ht hvm hp hB hz hk hS1 => by
    obtain ⟨hB1, hB2⟩ := hB
    have hu : u = H1 := hB1.symm.trans ht
    subst hu
    exact kk v u locs1 hp hB2 hS1
theorem r_goJ {a : Array Value} {post : Int64 → Heap → Prop} (hr : va_Run p l e R s m args below meth c H locs kc ks 0 0 (F0 m pc ls st) rest (QJ X Γ post a) (AΓ Γ)) (hS : va_S (AΓ Γ) H0 H locs)
    (kk : ∀ (v : Int64) (H1 : Heap) (locs1 : List Loc), post v H1 → Conf X Γ H1 → va_S (AΓ Γ) H0 H1 locs1 → W p l e R s m args below meth c H1 locs1 kc ks Q (F0 m (pc + 3) ls (.long v :: rest))) : W p l e R s m args below meth c H locs kc ks Q (F0 m pc ls st) :=
  va_calll hr hS (fun _ _ h => h) (fun _ h => h) fun v u t H1 locs1 ht hvm hp hB hz hk hS1 => by
    obtain ⟨hB1, hB2⟩ := hB
    have hu : u = H1 := hB1.symm.trans ht
    subst hu
    exact kk v u locs1 hp hB2 hS1
end LAW
section MIS
variable {X : xW} {Γ : Nat → Option Nat} {H H0 H1 : Heap} {ca m1 : Nat} {gs : List Nat} {o o2 b i : Int}
/-- what holds of a block of c: its yard, its hands, its orders -/
def BI (H : Heap) (ca : Nat) (o : Int) : Prop := 2 ≤ (sI H ca o.toNat).toInt ∧ 1 ≤ (sI H ca (o + 1).toNat).toInt ∧ (∀ t : Int, 0 ≤ t → t ≤ 1 → (sI H ca (o + (14 + t)).toNat).toInt ≤ (sI H ca (o + (12 + t)).toNat).toInt) ∧ SW H ca o
def mmI (X : xW) (H : Heap) (m1 : Nat) : Int := (sI H m1 (X.1.2 11 24)).toInt
def mkI (X : xW) (H : Heap) (x1 : Nat) : Int := (sI H x1 (X.1.2 10 11)).toInt
theorem mk_kp {x1 : Nat} (hk : Kp X Γ gs H H1) (g : Γ x1 = some 0) (h : (gs.any fun q => gF q 0 11) = true) : mkI X H1 x1 = mkI X H x1 := congrArg Int32.toInt (kp_I hk g (ci := 10) (k := 11) rfl (by decide) h)
/-- what the tape holds, both sides -/
def flI (X : xW) (H : Heap) (ra : Nat) : Int := (sI H ra (X.1.2 4 1)).toInt
def tpdI (X : xW) (H : Heap) (m1 : Nat) : Int := (sI H m1 (X.1.2 11 8)).toInt
theorem fl_kp {ra : Nat} (hk : Kp X Γ gs H H1) (g : Γ ra = some 2) (h : (gs.any fun q => gF q 2 1) = true) : flI X H1 ra = flI X H ra := congrArg Int32.toInt (kp_I hk g (ci := 4) (k := 1) rfl (by decide) h)
theorem tpd_kp (hk : Kp X Γ gs H H1) (g : Γ m1 = some 11) (h : (gs.any fun q => gF q 11 8) = true) : tpdI X H1 m1 = tpdI X H m1 := congrArg Int32.toInt (kp_I hk g (ci := 11) (k := 8) rfl (by decide) h)
/-- of the yard and of all marked ones -/
def MI (X : xW) (H : Heap) (m1 ca : Nat) : Prop := (0 ≤ mmI X H m1 ∧ mmI X H m1 ≤ 3) ∧ ∀ b : Int, 0 ≤ b → b ≤ mmI X H m1 → BI H ca (520 * b)
theorem SW.of (h : SW H ca o) (h0 : 0 ≤ o) (h2 : 0 ≤ o2) (hn : (sI H ca (o + 243).toNat).toInt ≤ 30) (hc : ∀ i : Int, 243 ≤ i → i < 520 → sI H1 ca (o2 + i).toNat = sI H ca (o + i).toNat) : SW H1 ca o2 := fun s h3 h4 => by
  have e := hc 243 (by omega) (by omega)
  rw [e] at h4 ⊢
  refine (h s h3 h4).of fun i h5 h6 => ?_
  have := hc (244 + 9 * s + i) (by omega) (by omega)
  rw [show o2 + 244 + 9 * s + i = o2 + (244 + 9 * s + i) by omega, show o + 244 + 9 * s + i = o + (244 + 9 * s + i) by omega]
  exact this
theorem BI.of' (h : BI H ca o) (h0 : 0 ≤ o) (h2 : 0 ≤ o2) (hn : (sI H ca (o + 243).toNat).toInt ≤ 30) (hc : ∀ i : Int, 0 ≤ i → i < 520 → (i ≤ 1 ∨ 243 ≤ i) → sI H1 ca (o2 + i).toNat = sI H ca (o + i).toNat) (hu : ∀ t : Int, 0 ≤ t → t ≤ 1 → (sI H1 ca (o2 + (14 + t)).toNat).toInt ≤ (sI H1 ca (o2 + (12 + t)).toNat).toInt) : BI H1 ca o2 := by
  obtain ⟨a1, a2, a3, a4⟩ := h
  refine ⟨?_, ?_, hu, a4.of h0 h2 hn fun i i0 i1 => hc i (by omega) i1 (Or.inr i0)⟩
  · have := hc 0 (by omega) (by omega) (Or.inl (by omega))
    rw [Int.add_zero, Int.add_zero] at this
    rw [this]
    exact a1
  · rw [hc 1 (by omega) (by omega) (Or.inl (by omega))]
    exact a2
theorem BI.of (h : BI H ca o) (h0 : 0 ≤ o) (h2 : 0 ≤ o2) (hn : (sI H ca (o + 243).toNat).toInt ≤ 30) (hc : ∀ i : Int, 0 ≤ i → i < 520 → (i ≤ 1 ∨ (12 ≤ i ∧ i ≤ 15) ∨ 243 ≤ i) → sI H1 ca (o2 + i).toNat = sI H ca (o + i).toNat) : BI H1 ca o2 :=
  h.of' h0 h2 hn (fun i i0 i1 hi => hc i i0 i1 (by omega)) fun t t0 t1 => by
    rw [hc (14 + t) (by omega) (by omega) (by omega), hc (12 + t) (by omega) (by omega) (by omega)]
    exact h.2.2.1 t t0 t1
theorem c243b (hC : Conf X Γ H) (hca : Γ ca = some 64) (h0 : 0 ≤ b) (h1 : b ≤ 3) : (sI H ca (520 * b + 243).toNat).toInt ≤ 30 := by
  obtain ⟨v, e1, e2, -⟩ := ct_get hC hca (a := 520 * b + 243) (by omega) (by omega)
  have e3 := cT_cp (b := 243) (f := b) (t := 0) (k := 243) rfl (by omega) h0 h1 (by omega) (by omega) (by omega) (by omega) e2
  obtain ⟨w, hw, l1, l2⟩ := cr_c243 (by omega) (by omega) _ e3
  cases hw
  rw [e1]
  exact l2
theorem blk (h0 : 0 ≤ b) (h1 : b ≤ 3) (i0 : 0 ≤ i) (i1 : i < 520) (hi : i ≤ 1 ∨ (12 ≤ i ∧ i ≤ 15) ∨ 243 ≤ i) : dpc (520 * b + i).toNat ∨ dpu (520 * b + i).toNat := by
  have e : (520 * b + i).toNat % 520 = i.toNat := by omega
  unfold dpc dpu
  omega
theorem mm_bd (hC : Conf X Γ H) (g : Γ m1 = some 11) : 0 ≤ mmI X H m1 ∧ mmI X H m1 ≤ 3 := f_bd hC g (ci := 11) (k := 24) rfl rfl
theorem MI.same (h : MI X H m1 ca) (hC : Conf X Γ H) (hca : Γ ca = some 64) (hc : ∀ j, sI H1 ca j = sI H ca j) (hm : mmI X H1 m1 = mmI X H m1) : MI X H1 m1 ca := by
  refine ⟨by rw [hm]; exact h.1, fun b b0 b1 => ?_⟩
  rw [hm] at b1
  have := h.1
  exact (h.2 b b0 b1).of (by omega) (by omega) (c243b hC hca b0 (by omega)) fun i _ _ _ => hc _
theorem MI.kd (h : MI X H m1 ca) (hC : Conf X Γ H) (hca : Γ ca = some 64) (hk : KD H H1 ca 0 0) (hm : mmI X H1 m1 = mmI X H m1) : MI X H1 m1 ca := by
  refine ⟨by rw [hm]; exact h.1, fun b b0 b1 => ?_⟩
  rw [hm] at b1
  have := h.1
  exact (h.2 b b0 b1).of (by omega) (by omega) (c243b hC hca b0 (by omega)) fun i i0 i1 hi => hk _ (by omega) (blk b0 (by omega) i0 i1 hi)
theorem mm_kp (hk : Kp X Γ gs H H1) (g : Γ m1 = some 11) (h8 : (gs.any fun q => gF q 11 24) = true) : mmI X H1 m1 = mmI X H m1 := congrArg Int32.toInt (kp_I hk g (ci := 11) (k := 24) rfl (by decide) h8)
theorem MI.kp (h : MI X H m1 ca) (hC : Conf X Γ H) (hca : Γ ca = some 64) (g : Γ m1 = some 11) (hk : Kp X Γ gs H H1) (h10 : gs.contains 10 = true) (h16 : gs.contains 16 = true) (h8 : (gs.any fun q => gF q 11 24) = true) : MI X H1 m1 ca :=
  h.kd hC hca (KD.kp KD.rf hk hca h10 h16) (mm_kp hk g h8)
theorem MI.cl (h : MI X H m1 ca) (hC : Conf X Γ H) (hca : Γ ca = some 64) (g : Γ m1 = some 11) (hk : Kp X Γ gs H H1) (h0 : gs.contains 0 = true) : MI X H1 m1 ca := by
  have hm : 0 ∈ gs := by simpa using h0
  refine h.same hC hca (fun j => ?_) (mm_kp hk g (List.any_eq_true.mpr ⟨0, hm, rfl⟩))
  have := hk ca 64 hca j (Or.inr (Or.inr (Or.inr (show (gs.any fun g => gF g 64 0) = true from List.any_eq_true.mpr ⟨0, hm, rfl⟩))))
  simp [sI, this]
theorem MI.uh (h : MI X H m1 ca) (hC : Conf X Γ H) (hca : Γ ca = some 64) (g : Γ m1 = some 11) (hk : Kp X Γ gs H H1) (hu : UH H1 ca) (h10 : gs.contains 10 = true) (h8 : (gs.any fun q => gF q 11 24) = true) : MI X H1 m1 ca := by
  have hm := mm_kp (m1 := m1) hk g h8
  refine ⟨by rw [hm]; exact h.1, fun b b0 b1 => ?_⟩
  rw [hm] at b1
  have := h.1
  have hd : ∀ i : Int, 0 ≤ i → i < 520 → (i ≤ 1 ∨ (12 ≤ i ∧ i ≤ 13) ∨ 243 ≤ i ∨ (1 ≤ b ∧ 12 ≤ i ∧ i ≤ 15)) → sI H1 ca (520 * b + i).toNat = sI H ca (520 * b + i).toNat := fun i i0 i1 hi => kp_d hk hca h10 (by
    have e : (520 * b + i).toNat % 520 = i.toNat := by omega
    unfold dpc
    omega)
  by_cases hb : b = 0
  · subst hb
    refine (h.2 0 b0 b1).of' (by omega) (by omega) (c243b hC hca b0 (by omega)) (fun i i0 i1 hi => hd i i0 i1 (by omega)) fun t t0 t1 => ?_
    rw [show (520 : Int) * 0 + (14 + t) = 14 + t by omega, show (520 : Int) * 0 + (12 + t) = 12 + t by omega]
    exact hu t t0 t1
  · exact (h.2 b b0 b1).of (by omega) (by omega) (c243b hC hca b0 (by omega)) fun i i0 i1 hi => hd i i0 i1 (by omega)
theorem MI.yard (h : MI X H m1 ca) (hC : Conf X Γ H) (hca : Γ ca = some 64) (hp : KD H H1 ca 0 0 ∨ (KD H H1 ca 0 520 ∧ YI H1 ca)) (hm : mmI X H1 m1 = mmI X H m1) : MI X H1 m1 ca := by
  rcases hp with hp | ⟨hp, y1, y2, y3, y4⟩
  · exact h.kd hC hca hp hm
  · refine ⟨by rw [hm]; exact h.1, fun b b0 b1 => ?_⟩
    rw [hm] at b1
    have := h.1
    by_cases hb : b = 0
    · subst hb
      refine ⟨y1, y2, fun t t0 t1 => ?_, SW.zero y4⟩
      rw [show (520 : Int) * 0 + (14 + t) = 14 + t by omega, show (520 : Int) * 0 + (12 + t) = 12 + t by omega]
      exact y3 t t0 t1
    · exact (h.2 b b0 b1).of (by omega) (by omega) (c243b hC hca b0 (by omega)) fun i i0 i1 hi => hp _ (by omega) (blk b0 (by omega) i0 i1 hi)
theorem MI.orders (h : MI X H m1 ca) (hC : Conf X Γ H) (hca : Γ ca = some 64) (hp : KD H H1 ca 0 0 ∨ (KD H H1 ca 242 520 ∧ SW H1 ca 0)) (hm : mmI X H1 m1 = mmI X H m1) : MI X H1 m1 ca := by
  rcases hp with hp | ⟨hp, y1⟩
  · exact h.kd hC hca hp hm
  · refine ⟨by rw [hm]; exact h.1, fun b b0 b1 => ?_⟩
    rw [hm] at b1
    have := h.1
    by_cases hb : b = 0
    · subst hb
      obtain ⟨a1, a2, a3, -⟩ := h.2 0 b0 b1
      have hd : ∀ i : Int, 0 ≤ i → i ≤ 15 → (i ≤ 1 ∨ (12 ≤ i ∧ i ≤ 15)) → sI H1 ca (520 * 0 + i).toNat = sI H ca (520 * 0 + i).toNat := fun i i0 i1 hi => hp _ (by omega) (blk (by omega) (by omega) i0 (by omega) (by omega))
      refine ⟨?_, ?_, fun t t0 t1 => ?_, y1⟩
      · have := hd 0 (by omega) (by omega) (by omega)
        rw [Int.add_zero] at this
        rw [this]
        exact a1
      · rw [hd 1 (by omega) (by omega) (by omega)]
        exact a2
      · rw [hd (14 + t) (by omega) (by omega) (by omega), hd (12 + t) (by omega) (by omega) (by omega)]
        exact a3 t t0 t1
    · exact (h.2 b b0 b1).of (by omega) (by omega) (c243b hC hca b0 (by omega)) fun i i0 i1 hi => hp _ (by omega) (blk b0 (by omega) i0 i1 hi)
theorem MI.mark (h : MI X H m1 ca) (hC : Conf X Γ H) (hC1 : Conf X Γ H1) (hca : Γ ca = some 64) (g : Γ m1 = some 11) (hp : (KD H H1 ca 0 0 ∧ mmI X H1 m1 = mmI X H m1) ∨ (mmI X H1 m1 = mmI X H m1 + 1 ∧ CPX H H1 ca 0 (520 * mmI X H1 m1) 520)) : MI X H1 m1 ca := by
  have hb1 := mm_bd (m1 := m1) hC1 g
  rcases hp with ⟨hp, hm⟩ | ⟨hm, c1, c2⟩
  · exact h.kd hC hca hp hm
  · refine ⟨hb1, fun b b0 b1 => ?_⟩
    have h2 := h.1
    by_cases hb : b = mmI X H1 m1
    · rw [hb]
      refine (h.2 0 (by omega) (by omega)).of (by omega) (by omega) (c243b hC hca (by omega) (by omega)) fun i i0 i1 _ => ?_
      have := c1 i i0 i1
      rw [show (520 : Int) * 0 + i = 0 + i by omega]
      exact this
    · exact (h.2 b b0 (by omega)).of (by omega) (by omega) (c243b hC hca b0 (by omega)) fun i i0 i1 _ => c2 _ (by omega) (by omega)
theorem MI.back (h : MI X H m1 ca) (hC : Conf X Γ H) (hC1 : Conf X Γ H1) (hca : Γ ca = some 64) (g : Γ m1 = some 11) (hp : (KD H H1 ca 0 0 ∧ mmI X H1 m1 = mmI X H m1) ∨ (mmI X H1 m1 = mmI X H m1 - 1 ∧ CPX H H1 ca (520 * mmI X H m1) 0 520)) : MI X H1 m1 ca := by
  have hb1 := mm_bd (m1 := m1) hC1 g
  rcases hp with ⟨hp, hm⟩ | ⟨hm, c1, c2⟩
  · exact h.kd hC hca hp hm
  · refine ⟨hb1, fun b b0 b1 => ?_⟩
    have h2 := h.1
    by_cases hb : b = 0
    · subst hb
      refine (h.2 (mmI X H m1) (by omega) (by omega)).of (by omega) (by omega) (c243b hC hca (by omega) (by omega)) fun i i0 i1 _ => ?_
      have := c1 i i0 i1
      rw [show (520 : Int) * 0 + i = 0 + i by omega]
      exact this
    · exact (h.2 b b0 (by omega)).of (by omega) (by omega) (c243b hC hca b0 (by omega)) fun i i0 i1 _ => c2 _ (by omega) (by omega)
/-- what the calls ask -/
theorem MI.c0 (h : MI X H m1 ca) : 2 ≤ (sI H ca (0 : Int).toNat).toInt ∧ 1 ≤ (sI H ca (1 : Int).toNat).toInt ∧ UH H ca ∧ SW H ca 0 := by
  obtain ⟨a1, a2, a3, a4⟩ := h.2 0 (by omega) h.1.1
  refine ⟨a1, a2, fun t t0 t1 => ?_, a4⟩
  have := a3 t t0 t1
  rw [show (520 : Int) * 0 + (14 + t) = 14 + t by omega, show (520 : Int) * 0 + (12 + t) = 12 + t by omega] at this
  exact this
theorem MI.start (hm : sI H m1 (X.1.2 11 24) = 0) (hz : ZZ H ca) (h0 : sI H ca 0 = 2) (h1 : sI H ca 1 = 1) : MI X H m1 ca := by
  have e : mmI X H m1 = 0 := by
    unfold mmI
    rw [hm]
    rfl
  refine ⟨by omega, fun b b0 b1 => ?_⟩
  have hb : b = 0 := by omega
  subst hb
  have z : ∀ i : Int, 2 ≤ i → i < 2600 → sI H ca i.toNat = 0 := fun i i0 i1 => hz _ (by omega) (by omega)
  refine ⟨?_, ?_, fun t t0 t1 => ?_, SW.zero ?_⟩
  · show 2 ≤ (sI H ca 0).toInt
    rw [h0]
    decide
  · show 1 ≤ (sI H ca 1).toInt
    rw [h1]
    decide
  · rw [z _ (by omega) (by omega), z _ (by omega) (by omega)]
    exact Int.le_refl _
  · rw [z _ (by omega) (by omega)]
    rfl
end MIS
/-- the start of the law, and its two objects -/
abbrev LK (p : Program) (s : State) (m : MethodId) (meth : Method) (c : Code) (X : xW) (Γ : Nat → Option Nat) (b L : Nat) (xs : Nat → Int32) (x1 m1 ca ka oa ra tm ts na mo wk : Nat) : Prop := (Ev p s m #[Value.ref b] meth c cL_law 4 "SnowFortsLaw" ret X Γ s.heap) ∧ (Γ x1 = some 0) ∧ (Γ m1 = some 11) ∧ (Γ ca = some 64) ∧ (∀ a, Γ a = some 64 → a = ca) ∧ (Γ ka = some 65) ∧ (∀ a, Γ a = some 65 → a = ka) ∧ (Γ ra = some 2) ∧ (∀ a, Γ a = some 2 → a = ra) ∧ (Γ tm = some 61) ∧ (∀ a, Γ a = some 61 → a = tm) ∧ (Γ ts = some 60) ∧ (∀ a, Γ a = some 60 → a = ts) ∧ (Γ na = some 62) ∧ (∀ a, Γ a = some 62 → a = na) ∧ (Γ mo = some 8) ∧ (Γ wk = some 70) ∧ (Γ oa = some 68) ∧ (∀ a, Γ a = some 68 → a = oa) ∧ (va_X b L xs s s.heap) ∧ (b < s.heap.size) ∧ (¬ AΓ Γ b) ∧ (∀ q, AΓ Γ q ↔ s.heap.size ≤ q) ∧ (L ≤ 3072)
theorem LK.E {p : Program} {s : State} {m : MethodId} {meth : Method} {c : Code} {X : xW} {Γ : Nat → Option Nat} {b L : Nat} {xs : Nat → Int32} {x1 m1 ca ka oa ra tm ts na mo wk : Nat} (K : LK p s m meth c X Γ b L xs x1 m1 ca ka oa ra tm ts na mo wk) : Ev p s m #[Value.ref b] meth c cL_law 4 "SnowFortsLaw" ret X Γ s.heap := K.1
theorem LK.g1 {p : Program} {s : State} {m : MethodId} {meth : Method} {c : Code} {X : xW} {Γ : Nat → Option Nat} {b L : Nat} {xs : Nat → Int32} {x1 m1 ca ka oa ra tm ts na mo wk : Nat} (K : LK p s m meth c X Γ b L xs x1 m1 ca ka oa ra tm ts na mo wk) : Γ x1 = some 0 := K.2.1
theorem LK.g2 {p : Program} {s : State} {m : MethodId} {meth : Method} {c : Code} {X : xW} {Γ : Nat → Option Nat} {b L : Nat} {xs : Nat → Int32} {x1 m1 ca ka oa ra tm ts na mo wk : Nat} (K : LK p s m meth c X Γ b L xs x1 m1 ca ka oa ra tm ts na mo wk) : Γ m1 = some 11 := K.2.2.1
theorem LK.gca {p : Program} {s : State} {m : MethodId} {meth : Method} {c : Code} {X : xW} {Γ : Nat → Option Nat} {b L : Nat} {xs : Nat → Int32} {x1 m1 ca ka oa ra tm ts na mo wk : Nat} (K : LK p s m meth c X Γ b L xs x1 m1 ca ka oa ra tm ts na mo wk) : Γ ca = some 64 := K.2.2.2.1
theorem LK.uc {p : Program} {s : State} {m : MethodId} {meth : Method} {c : Code} {X : xW} {Γ : Nat → Option Nat} {b L : Nat} {xs : Nat → Int32} {x1 m1 ca ka oa ra tm ts na mo wk : Nat} (K : LK p s m meth c X Γ b L xs x1 m1 ca ka oa ra tm ts na mo wk) : ∀ a, Γ a = some 64 → a = ca := K.2.2.2.2.1
theorem LK.gka {p : Program} {s : State} {m : MethodId} {meth : Method} {c : Code} {X : xW} {Γ : Nat → Option Nat} {b L : Nat} {xs : Nat → Int32} {x1 m1 ca ka oa ra tm ts na mo wk : Nat} (K : LK p s m meth c X Γ b L xs x1 m1 ca ka oa ra tm ts na mo wk) : Γ ka = some 65 := K.2.2.2.2.2.1
theorem LK.uk {p : Program} {s : State} {m : MethodId} {meth : Method} {c : Code} {X : xW} {Γ : Nat → Option Nat} {b L : Nat} {xs : Nat → Int32} {x1 m1 ca ka oa ra tm ts na mo wk : Nat} (K : LK p s m meth c X Γ b L xs x1 m1 ca ka oa ra tm ts na mo wk) : ∀ a, Γ a = some 65 → a = ka := K.2.2.2.2.2.2.1
theorem LK.gra {p : Program} {s : State} {m : MethodId} {meth : Method} {c : Code} {X : xW} {Γ : Nat → Option Nat} {b L : Nat} {xs : Nat → Int32} {x1 m1 ca ka oa ra tm ts na mo wk : Nat} (K : LK p s m meth c X Γ b L xs x1 m1 ca ka oa ra tm ts na mo wk) : Γ ra = some 2 := K.2.2.2.2.2.2.2.1
theorem LK.ur {p : Program} {s : State} {m : MethodId} {meth : Method} {c : Code} {X : xW} {Γ : Nat → Option Nat} {b L : Nat} {xs : Nat → Int32} {x1 m1 ca ka oa ra tm ts na mo wk : Nat} (K : LK p s m meth c X Γ b L xs x1 m1 ca ka oa ra tm ts na mo wk) : ∀ a, Γ a = some 2 → a = ra := K.2.2.2.2.2.2.2.2.1
theorem LK.gtm {p : Program} {s : State} {m : MethodId} {meth : Method} {c : Code} {X : xW} {Γ : Nat → Option Nat} {b L : Nat} {xs : Nat → Int32} {x1 m1 ca ka oa ra tm ts na mo wk : Nat} (K : LK p s m meth c X Γ b L xs x1 m1 ca ka oa ra tm ts na mo wk) : Γ tm = some 61 := K.2.2.2.2.2.2.2.2.2.1
theorem LK.utm {p : Program} {s : State} {m : MethodId} {meth : Method} {c : Code} {X : xW} {Γ : Nat → Option Nat} {b L : Nat} {xs : Nat → Int32} {x1 m1 ca ka oa ra tm ts na mo wk : Nat} (K : LK p s m meth c X Γ b L xs x1 m1 ca ka oa ra tm ts na mo wk) : ∀ a, Γ a = some 61 → a = tm := K.2.2.2.2.2.2.2.2.2.2.1
theorem LK.gts {p : Program} {s : State} {m : MethodId} {meth : Method} {c : Code} {X : xW} {Γ : Nat → Option Nat} {b L : Nat} {xs : Nat → Int32} {x1 m1 ca ka oa ra tm ts na mo wk : Nat} (K : LK p s m meth c X Γ b L xs x1 m1 ca ka oa ra tm ts na mo wk) : Γ ts = some 60 := K.2.2.2.2.2.2.2.2.2.2.2.1
theorem LK.uts {p : Program} {s : State} {m : MethodId} {meth : Method} {c : Code} {X : xW} {Γ : Nat → Option Nat} {b L : Nat} {xs : Nat → Int32} {x1 m1 ca ka oa ra tm ts na mo wk : Nat} (K : LK p s m meth c X Γ b L xs x1 m1 ca ka oa ra tm ts na mo wk) : ∀ a, Γ a = some 60 → a = ts := K.2.2.2.2.2.2.2.2.2.2.2.2.1
theorem LK.gna {p : Program} {s : State} {m : MethodId} {meth : Method} {c : Code} {X : xW} {Γ : Nat → Option Nat} {b L : Nat} {xs : Nat → Int32} {x1 m1 ca ka oa ra tm ts na mo wk : Nat} (K : LK p s m meth c X Γ b L xs x1 m1 ca ka oa ra tm ts na mo wk) : Γ na = some 62 := K.2.2.2.2.2.2.2.2.2.2.2.2.2.1
theorem LK.una {p : Program} {s : State} {m : MethodId} {meth : Method} {c : Code} {X : xW} {Γ : Nat → Option Nat} {b L : Nat} {xs : Nat → Int32} {x1 m1 ca ka oa ra tm ts na mo wk : Nat} (K : LK p s m meth c X Γ b L xs x1 m1 ca ka oa ra tm ts na mo wk) : ∀ a, Γ a = some 62 → a = na := K.2.2.2.2.2.2.2.2.2.2.2.2.2.2.1
theorem LK.gmo {p : Program} {s : State} {m : MethodId} {meth : Method} {c : Code} {X : xW} {Γ : Nat → Option Nat} {b L : Nat} {xs : Nat → Int32} {x1 m1 ca ka oa ra tm ts na mo wk : Nat} (K : LK p s m meth c X Γ b L xs x1 m1 ca ka oa ra tm ts na mo wk) : Γ mo = some 8 := K.2.2.2.2.2.2.2.2.2.2.2.2.2.2.2.1
theorem LK.gwk {p : Program} {s : State} {m : MethodId} {meth : Method} {c : Code} {X : xW} {Γ : Nat → Option Nat} {b L : Nat} {xs : Nat → Int32} {x1 m1 ca ka oa ra tm ts na mo wk : Nat} (K : LK p s m meth c X Γ b L xs x1 m1 ca ka oa ra tm ts na mo wk) : Γ wk = some 70 := K.2.2.2.2.2.2.2.2.2.2.2.2.2.2.2.2.1
theorem LK.goa {p : Program} {s : State} {m : MethodId} {meth : Method} {c : Code} {X : xW} {Γ : Nat → Option Nat} {b L : Nat} {xs : Nat → Int32} {x1 m1 ca ka oa ra tm ts na mo wk : Nat} (K : LK p s m meth c X Γ b L xs x1 m1 ca ka oa ra tm ts na mo wk) : Γ oa = some 68 := K.2.2.2.2.2.2.2.2.2.2.2.2.2.2.2.2.2.1
theorem LK.uo {p : Program} {s : State} {m : MethodId} {meth : Method} {c : Code} {X : xW} {Γ : Nat → Option Nat} {b L : Nat} {xs : Nat → Int32} {x1 m1 ca ka oa ra tm ts na mo wk : Nat} (K : LK p s m meth c X Γ b L xs x1 m1 ca ka oa ra tm ts na mo wk) : ∀ a, Γ a = some 68 → a = oa := K.2.2.2.2.2.2.2.2.2.2.2.2.2.2.2.2.2.2.1
theorem LK.hX {p : Program} {s : State} {m : MethodId} {meth : Method} {c : Code} {X : xW} {Γ : Nat → Option Nat} {b L : Nat} {xs : Nat → Int32} {x1 m1 ca ka oa ra tm ts na mo wk : Nat} (K : LK p s m meth c X Γ b L xs x1 m1 ca ka oa ra tm ts na mo wk) : va_X b L xs s s.heap := K.2.2.2.2.2.2.2.2.2.2.2.2.2.2.2.2.2.2.2.1
theorem LK.hbl {p : Program} {s : State} {m : MethodId} {meth : Method} {c : Code} {X : xW} {Γ : Nat → Option Nat} {b L : Nat} {xs : Nat → Int32} {x1 m1 ca ka oa ra tm ts na mo wk : Nat} (K : LK p s m meth c X Γ b L xs x1 m1 ca ka oa ra tm ts na mo wk) : b < s.heap.size := K.2.2.2.2.2.2.2.2.2.2.2.2.2.2.2.2.2.2.2.2.1
theorem LK.hbA {p : Program} {s : State} {m : MethodId} {meth : Method} {c : Code} {X : xW} {Γ : Nat → Option Nat} {b L : Nat} {xs : Nat → Int32} {x1 m1 ca ka oa ra tm ts na mo wk : Nat} (K : LK p s m meth c X Γ b L xs x1 m1 ca ka oa ra tm ts na mo wk) : ¬ AΓ Γ b := K.2.2.2.2.2.2.2.2.2.2.2.2.2.2.2.2.2.2.2.2.2.1
theorem LK.hA {p : Program} {s : State} {m : MethodId} {meth : Method} {c : Code} {X : xW} {Γ : Nat → Option Nat} {b L : Nat} {xs : Nat → Int32} {x1 m1 ca ka oa ra tm ts na mo wk : Nat} (K : LK p s m meth c X Γ b L xs x1 m1 ca ka oa ra tm ts na mo wk) : ∀ q, AΓ Γ q ↔ s.heap.size ≤ q := K.2.2.2.2.2.2.2.2.2.2.2.2.2.2.2.2.2.2.2.2.2.2.1
theorem LK.hL {p : Program} {s : State} {m : MethodId} {meth : Method} {c : Code} {X : xW} {Γ : Nat → Option Nat} {b L : Nat} {xs : Nat → Int32} {x1 m1 ca ka oa ra tm ts na mo wk : Nat} (K : LK p s m meth c X Γ b L xs x1 m1 ca ka oa ra tm ts na mo wk) : L ≤ 3072 := K.2.2.2.2.2.2.2.2.2.2.2.2.2.2.2.2.2.2.2.2.2.2.2
theorem lcl_13 : Cond.methodLink "SnowFortsLaw" 13 yX11_status ∈ GW ∧ Cond.instanceMethod yX11_status ∈ GW ∧ Cond.selects "SnowForts" yX11_status yX11_status ∈ GW := ⟨w_460, w_461, w_462⟩
theorem lcw_X11_status : CWB yX11_status cX11_status 1 (some .int) 0 := ⟨w_463, w_1, by decide +kernel, by decide +kernel⟩
theorem lcl_17 : Cond.methodLink "SnowFortsLaw" 17 yX12_status ∈ GW ∧ Cond.instanceMethod yX12_status ∈ GW ∧ Cond.selects "SnowFortsModel" yX12_status yX12_status ∈ GW := ⟨w_1431, w_1432, w_1433⟩
theorem lcw_X12_status : CWB yX12_status cX12_status 1 (some .int) 0 := ⟨w_1434, w_12, by decide +kernel, by decide +kernel⟩
theorem lcl_18 : Cond.methodLink "SnowFortsLaw" 18 yX11_top ∈ GW ∧ Cond.instanceMethod yX11_top ∈ GW ∧ Cond.selects "SnowForts" yX11_top yX11_top ∈ GW := ⟨w_464, w_465, w_466⟩
theorem lcw_X11_top : CWB yX11_top cX11_top 1 (some .long) 0 := ⟨w_467, w_1, by decide +kernel, by decide +kernel⟩
theorem lcl_22 : Cond.methodLink "SnowFortsLaw" 22 yX12_top ∈ GW ∧ Cond.instanceMethod yX12_top ∈ GW ∧ Cond.selects "SnowFortsModel" yX12_top yX12_top ∈ GW := ⟨w_1435, w_1436, w_1437⟩
theorem lcw_X12_top : CWB yX12_top cX12_top 1 (some .long) 0 := ⟨w_1438, w_12, by decide +kernel, by decide +kernel⟩
theorem lcl_23 : Cond.methodLink "SnowFortsLaw" 23 yX11_bottom ∈ GW ∧ Cond.instanceMethod yX11_bottom ∈ GW ∧ Cond.selects "SnowForts" yX11_bottom yX11_bottom ∈ GW := ⟨w_468, w_469, w_470⟩
theorem lcw_X11_bottom : CWB yX11_bottom cX11_bottom 1 (some .long) 0 := ⟨w_471, w_1, by decide +kernel, by decide +kernel⟩
theorem lcl_26 : Cond.methodLink "SnowFortsLaw" 26 yX12_bottom ∈ GW ∧ Cond.instanceMethod yX12_bottom ∈ GW ∧ Cond.selects "SnowFortsModel" yX12_bottom yX12_bottom ∈ GW := ⟨w_1439, w_1440, w_1441⟩
theorem lcw_X12_bottom : CWB yX12_bottom cX12_bottom 1 (some .long) 0 := ⟨w_1442, w_12, by decide +kernel, by decide +kernel⟩
theorem lcl_27 : Cond.methodLink "SnowFortsLaw" 27 yX11_tray ∈ GW ∧ Cond.instanceMethod yX11_tray ∈ GW ∧ Cond.selects "SnowForts" yX11_tray yX11_tray ∈ GW := ⟨w_472, w_473, w_474⟩
theorem lcw_X11_tray : CWB yX11_tray cX11_tray 4 (some .boolean) 3 := ⟨w_475, w_1, by decide +kernel, by decide +kernel⟩
theorem lcl_31 : Cond.methodLink "SnowFortsLaw" 31 yX12_tray ∈ GW ∧ Cond.instanceMethod yX12_tray ∈ GW ∧ Cond.selects "SnowFortsModel" yX12_tray yX12_tray ∈ GW := ⟨w_1443, w_1444, w_1445⟩
theorem lcw_X12_tray : CWB yX12_tray cX12_tray 5 (some .boolean) 3 := ⟨w_1446, w_12, by decide +kernel, by decide +kernel⟩
theorem lcl_34 : Cond.methodLink "SnowFortsLaw" 34 yX11_write ∈ GW ∧ Cond.instanceMethod yX11_write ∈ GW ∧ Cond.selects "SnowForts" yX11_write yX11_write ∈ GW := ⟨w_497, w_498, w_499⟩
theorem lcw_X11_write : CWB yX11_write cX11_write 6 (some .boolean) 3 := ⟨w_500, w_1, by decide +kernel, by decide +kernel⟩
theorem lcl_38 : Cond.methodLink "SnowFortsLaw" 38 yX12_write ∈ GW ∧ Cond.instanceMethod yX12_write ∈ GW ∧ Cond.selects "SnowFortsModel" yX12_write yX12_write ∈ GW := ⟨w_1451, w_1452, w_1453⟩
theorem lcw_X12_write : CWB yX12_write cX12_write 5 (some .boolean) 3 := ⟨w_1454, w_12, by decide +kernel, by decide +kernel⟩
theorem lcl_39 : Cond.methodLink "SnowFortsLaw" 39 yX11_read ∈ GW ∧ Cond.instanceMethod yX11_read ∈ GW ∧ Cond.selects "SnowForts" yX11_read yX11_read ∈ GW := ⟨w_522, w_523, w_524⟩
theorem lcw_X11_read : CWB yX11_read cX11_read 4 (some .long) 2 := ⟨w_525, w_1, by decide +kernel, by decide +kernel⟩
theorem lcl_43 : Cond.methodLink "SnowFortsLaw" 43 yX12_read ∈ GW ∧ Cond.instanceMethod yX12_read ∈ GW ∧ Cond.selects "SnowFortsModel" yX12_read yX12_read ∈ GW := ⟨w_1466, w_1467, w_1468⟩
theorem lcw_X12_read : CWB yX12_read cX12_read 3 (some .long) 2 := ⟨w_1469, w_12, by decide +kernel, by decide +kernel⟩
theorem lcl_44 : Cond.methodLink "SnowFortsLaw" 44 yX11_pour ∈ GW ∧ Cond.instanceMethod yX11_pour ∈ GW ∧ Cond.selects "SnowForts" yX11_pour yX11_pour ∈ GW := ⟨w_535, w_536, w_537⟩
theorem lcw_X11_pour : CWB yX11_pour cX11_pour 8 (some .boolean) 5 := ⟨w_538, w_1, by decide +kernel, by decide +kernel⟩
theorem lcl_48 : Cond.methodLink "SnowFortsLaw" 48 yX12_pour ∈ GW ∧ Cond.instanceMethod yX12_pour ∈ GW ∧ Cond.selects "SnowFortsModel" yX12_pour yX12_pour ∈ GW := ⟨w_1471, w_1472, w_1473⟩
theorem lcw_X12_pour : CWB yX12_pour cX12_pour 9 (some .boolean) 5 := ⟨w_1474, w_12, by decide +kernel, by decide +kernel⟩
theorem lcl_49 : Cond.methodLink "SnowFortsLaw" 49 yX11_feed ∈ GW ∧ Cond.instanceMethod yX11_feed ∈ GW ∧ Cond.selects "SnowForts" yX11_feed yX11_feed ∈ GW := ⟨w_546, w_547, w_548⟩
theorem lcw_X11_feed : CWB yX11_feed cX11_feed 6 (some .int) 5 := ⟨w_549, w_1, by decide +kernel, by decide +kernel⟩
theorem lcl_53 : Cond.methodLink "SnowFortsLaw" 53 yX12_feed ∈ GW ∧ Cond.instanceMethod yX12_feed ∈ GW ∧ Cond.selects "SnowFortsModel" yX12_feed yX12_feed ∈ GW := ⟨w_1475, w_1476, w_1477⟩
theorem lcw_X12_feed : CWB yX12_feed cX12_feed 6 (some .int) 5 := ⟨w_1478, w_12, by decide +kernel, by decide +kernel⟩
theorem lcl_54 : Cond.methodLink "SnowFortsLaw" 54 yX11_yard ∈ GW ∧ Cond.instanceMethod yX11_yard ∈ GW ∧ Cond.selects "SnowForts" yX11_yard yX11_yard ∈ GW := ⟨w_554, w_555, w_556⟩
theorem lcw_X11_yard : CWB yX11_yard cX11_yard 4 (some .int) 1 := ⟨w_557, w_1, by decide +kernel, by decide +kernel⟩
theorem lcl_58 : Cond.methodLink "SnowFortsLaw" 58 yX12_yard ∈ GW ∧ Cond.instanceMethod yX12_yard ∈ GW ∧ Cond.selects "SnowFortsModel" yX12_yard yX12_yard ∈ GW := ⟨w_1487, w_1488, w_1489⟩
theorem lcw_X12_yard : CWB yX12_yard cX12_yard 4 (some .int) 1 := ⟨w_1490, w_12, by decide +kernel, by decide +kernel⟩
theorem lcl_59 : Cond.methodLink "SnowFortsLaw" 59 yX11_orders ∈ GW ∧ Cond.instanceMethod yX11_orders ∈ GW ∧ Cond.selects "SnowForts" yX11_orders yX11_orders ∈ GW := ⟨w_712, w_713, w_714⟩
theorem lcw_X11_orders : CWB yX11_orders cX11_orders 4 (some .int) 1 := ⟨w_715, w_1, by decide +kernel, by decide +kernel⟩
theorem lcl_62 : Cond.methodLink "SnowFortsLaw" 62 yX12_orders ∈ GW ∧ Cond.instanceMethod yX12_orders ∈ GW ∧ Cond.selects "SnowFortsModel" yX12_orders yX12_orders ∈ GW := ⟨w_1649, w_1650, w_1651⟩
theorem lcw_X12_orders : CWB yX12_orders cX12_orders 3 (some .int) 1 := ⟨w_1652, w_12, by decide +kernel, by decide +kernel⟩
theorem lcl_63 : Cond.methodLink "SnowFortsLaw" 63 yX11_fault ∈ GW ∧ Cond.instanceMethod yX11_fault ∈ GW ∧ Cond.selects "SnowForts" yX11_fault yX11_fault ∈ GW := ⟨w_810, w_811, w_812⟩
theorem lcw_X11_fault : CWB yX11_fault cX11_fault 2 (some .int) 1 := ⟨w_813, w_1, by decide +kernel, by decide +kernel⟩
theorem lcl_66 : Cond.methodLink "SnowFortsLaw" 66 yX12_fault ∈ GW ∧ Cond.instanceMethod yX12_fault ∈ GW ∧ Cond.selects "SnowFortsModel" yX12_fault yX12_fault ∈ GW := ⟨w_1483, w_1484, w_1485⟩
theorem lcw_X12_fault : CWB yX12_fault cX12_fault 2 (some .int) 1 := ⟨w_1486, w_12, by decide +kernel, by decide +kernel⟩
theorem lcl_67 : Cond.methodLink "SnowFortsLaw" 67 yX11_many ∈ GW ∧ Cond.instanceMethod yX11_many ∈ GW ∧ Cond.selects "SnowForts" yX11_many yX11_many ∈ GW := ⟨w_814, w_815, w_816⟩
theorem lcw_X11_many : CWB yX11_many cX11_many 2 (some .int) 1 := ⟨w_817, w_1, by decide +kernel, by decide +kernel⟩
theorem lcl_70 : Cond.methodLink "SnowFortsLaw" 70 yX12_many ∈ GW ∧ Cond.instanceMethod yX12_many ∈ GW ∧ Cond.selects "SnowFortsModel" yX12_many yX12_many ∈ GW := ⟨w_1677, w_1678, w_1679⟩
theorem lcw_X12_many : CWB yX12_many cX12_many 2 (some .int) 1 := ⟨w_1680, w_12, by decide +kernel, by decide +kernel⟩
theorem lcl_71 : Cond.methodLink "SnowFortsLaw" 71 yX11_cell ∈ GW ∧ Cond.instanceMethod yX11_cell ∈ GW ∧ Cond.selects "SnowForts" yX11_cell yX11_cell ∈ GW := ⟨w_829, w_830, w_831⟩
theorem lcw_X11_cell : CWB yX11_cell cX11_cell 4 (some .int) 3 := ⟨w_832, w_1, by decide +kernel, by decide +kernel⟩
theorem lcl_75 : Cond.methodLink "SnowFortsLaw" 75 yX12_cell ∈ GW ∧ Cond.instanceMethod yX12_cell ∈ GW ∧ Cond.selects "SnowFortsModel" yX12_cell yX12_cell ∈ GW := ⟨w_1689, w_1690, w_1691⟩
theorem lcw_X12_cell : CWB yX12_cell cX12_cell 5 (some .int) 3 := ⟨w_1692, w_12, by decide +kernel, by decide +kernel⟩
theorem lcl_76 : Cond.methodLink "SnowFortsLaw" 76 yX11_school ∈ GW ∧ Cond.instanceMethod yX11_school ∈ GW ∧ Cond.selects "SnowForts" yX11_school yX11_school ∈ GW := ⟨w_850, w_851, w_852⟩
theorem lcw_X11_school : CWB yX11_school cX11_school 3 (some .int) 2 := ⟨w_853, w_1, by decide +kernel, by decide +kernel⟩
theorem lcl_80 : Cond.methodLink "SnowFortsLaw" 80 yX12_school ∈ GW ∧ Cond.instanceMethod yX12_school ∈ GW ∧ Cond.selects "SnowFortsModel" yX12_school yX12_school ∈ GW := ⟨w_1700, w_1701, w_1702⟩
theorem lcw_X12_school : CWB yX12_school cX12_school 3 (some .int) 2 := ⟨w_1703, w_12, by decide +kernel, by decide +kernel⟩
theorem lcl_81 : Cond.methodLink "SnowFortsLaw" 81 yX11_article ∈ GW ∧ Cond.instanceMethod yX11_article ∈ GW ∧ Cond.selects "SnowForts" yX11_article yX11_article ∈ GW := ⟨w_872, w_873, w_874⟩
theorem lcw_X11_article : CWB yX11_article cX11_article 3 (some .int) 1 := ⟨w_875, w_1, by decide +kernel, by decide +kernel⟩
theorem lcl_84 : Cond.methodLink "SnowFortsLaw" 84 yX12_article ∈ GW ∧ Cond.instanceMethod yX12_article ∈ GW ∧ Cond.selects "SnowFortsModel" yX12_article yX12_article ∈ GW := ⟨w_1712, w_1713, w_1714⟩
theorem lcw_X12_article : CWB yX12_article cX12_article 2 (some .int) 1 := ⟨w_1715, w_12, by decide +kernel, by decide +kernel⟩
theorem lcl_85 : Cond.methodLink "SnowFortsLaw" 85 yX11_breach ∈ GW ∧ Cond.instanceMethod yX11_breach ∈ GW ∧ Cond.selects "SnowForts" yX11_breach yX11_breach ∈ GW := ⟨w_876, w_877, w_878⟩
theorem lcw_X11_breach : CWB yX11_breach cX11_breach 2 (some .int) 1 := ⟨w_879, w_1, by decide +kernel, by decide +kernel⟩
theorem lcl_88 : Cond.methodLink "SnowFortsLaw" 88 yX12_breach ∈ GW ∧ Cond.instanceMethod yX12_breach ∈ GW ∧ Cond.selects "SnowFortsModel" yX12_breach yX12_breach ∈ GW := ⟨w_1717, w_1718, w_1719⟩
theorem lcw_X12_breach : CWB yX12_breach cX12_breach 2 (some .int) 1 := ⟨w_1720, w_12, by decide +kernel, by decide +kernel⟩
theorem lcl_89 : Cond.methodLink "SnowFortsLaw" 89 yX11_fall ∈ GW ∧ Cond.instanceMethod yX11_fall ∈ GW ∧ Cond.selects "SnowForts" yX11_fall yX11_fall ∈ GW := ⟨w_881, w_882, w_883⟩
theorem lcw_X11_fall : CWB yX11_fall cX11_fall 2 (some .int) 1 := ⟨w_884, w_1, by decide +kernel, by decide +kernel⟩
theorem lcl_92 : Cond.methodLink "SnowFortsLaw" 92 yX12_fall ∈ GW ∧ Cond.instanceMethod yX12_fall ∈ GW ∧ Cond.selects "SnowFortsModel" yX12_fall yX12_fall ∈ GW := ⟨w_1722, w_1723, w_1724⟩
theorem lcw_X12_fall : CWB yX12_fall cX12_fall 2 (some .int) 1 := ⟨w_1725, w_12, by decide +kernel, by decide +kernel⟩
theorem lcl_93 : Cond.methodLink "SnowFortsLaw" 93 yX11_thaw ∈ GW ∧ Cond.instanceMethod yX11_thaw ∈ GW ∧ Cond.selects "SnowForts" yX11_thaw yX11_thaw ∈ GW := ⟨w_896, w_897, w_898⟩
theorem lcw_X11_thaw : CWB yX11_thaw cX11_thaw 2 (some .int) 1 := ⟨w_899, w_1, by decide +kernel, by decide +kernel⟩
theorem lcl_96 : Cond.methodLink "SnowFortsLaw" 96 yX12_thaw ∈ GW ∧ Cond.instanceMethod yX12_thaw ∈ GW ∧ Cond.selects "SnowFortsModel" yX12_thaw yX12_thaw ∈ GW := ⟨w_1732, w_1733, w_1734⟩
theorem lcw_X12_thaw : CWB yX12_thaw cX12_thaw 2 (some .int) 1 := ⟨w_1735, w_12, by decide +kernel, by decide +kernel⟩
theorem lcl_97 : Cond.methodLink "SnowFortsLaw" 97 yX11_build ∈ GW ∧ Cond.instanceMethod yX11_build ∈ GW ∧ Cond.selects "SnowForts" yX11_build yX11_build ∈ GW := ⟨w_909, w_910, w_911⟩
theorem lcw_X11_build : CWB yX11_build cX11_build 5 (some .int) 3 := ⟨w_912, w_1, by decide +kernel, by decide +kernel⟩
theorem lcl_100 : Cond.methodLink "SnowFortsLaw" 100 yX12_build ∈ GW ∧ Cond.instanceMethod yX12_build ∈ GW ∧ Cond.selects "SnowFortsModel" yX12_build yX12_build ∈ GW := ⟨w_1741, w_1742, w_1743⟩
theorem lcw_X12_build : CWB yX12_build cX12_build 5 (some .int) 3 := ⟨w_1744, w_12, by decide +kernel, by decide +kernel⟩
theorem lcl_101 : Cond.methodLink "SnowFortsLaw" 101 yX11_ice ∈ GW ∧ Cond.instanceMethod yX11_ice ∈ GW ∧ Cond.selects "SnowForts" yX11_ice yX11_ice ∈ GW := ⟨w_947, w_948, w_949⟩
theorem lcw_X11_ice : CWB yX11_ice cX11_ice 3 (some .boolean) 2 := ⟨w_950, w_1, by decide +kernel, by decide +kernel⟩
theorem lcl_105 : Cond.methodLink "SnowFortsLaw" 105 yX12_ice ∈ GW ∧ Cond.instanceMethod yX12_ice ∈ GW ∧ Cond.selects "SnowFortsModel" yX12_ice yX12_ice ∈ GW := ⟨w_1765, w_1766, w_1767⟩
theorem lcw_X12_ice : CWB yX12_ice cX12_ice 3 (some .boolean) 2 := ⟨w_1768, w_12, by decide +kernel, by decide +kernel⟩
theorem lcl_106 : Cond.methodLink "SnowFortsLaw" 106 yX11_steal ∈ GW ∧ Cond.instanceMethod yX11_steal ∈ GW ∧ Cond.selects "SnowForts" yX11_steal yX11_steal ∈ GW := ⟨w_955, w_956, w_957⟩
theorem lcw_X11_steal : CWB yX11_steal cX11_steal 7 (some .int) 5 := ⟨w_958, w_1, by decide +kernel, by decide +kernel⟩
theorem lcl_109 : Cond.methodLink "SnowFortsLaw" 109 yX12_steal ∈ GW ∧ Cond.instanceMethod yX12_steal ∈ GW ∧ Cond.selects "SnowFortsModel" yX12_steal yX12_steal ∈ GW := ⟨w_1773, w_1774, w_1775⟩
theorem lcw_X12_steal : CWB yX12_steal cX12_steal 7 (some .int) 5 := ⟨w_1776, w_12, by decide +kernel, by decide +kernel⟩
theorem lcl_110 : Cond.methodLink "SnowFortsLaw" 110 yX11_night ∈ GW ∧ Cond.instanceMethod yX11_night ∈ GW ∧ Cond.selects "SnowForts" yX11_night yX11_night ∈ GW := ⟨w_963, w_964, w_965⟩
theorem lcw_X11_night : CWB yX11_night cX11_night 1 (some .int) 0 := ⟨w_966, w_1, by decide +kernel, by decide +kernel⟩
theorem lcl_113 : Cond.methodLink "SnowFortsLaw" 113 yX12_night ∈ GW ∧ Cond.instanceMethod yX12_night ∈ GW ∧ Cond.selects "SnowFortsModel" yX12_night yX12_night ∈ GW := ⟨w_1781, w_1782, w_1783⟩
theorem lcw_X12_night : CWB yX12_night cX12_night 1 (some .int) 0 := ⟨w_1784, w_12, by decide +kernel, by decide +kernel⟩
theorem lcl_114 : Cond.methodLink "SnowFortsLaw" 114 yX11_room ∈ GW ∧ Cond.instanceMethod yX11_room ∈ GW ∧ Cond.selects "SnowForts" yX11_room yX11_room ∈ GW := ⟨w_972, w_973, w_974⟩
theorem lcw_X11_room : CWB yX11_room cX11_room 3 (some .int) 2 := ⟨w_975, w_1, by decide +kernel, by decide +kernel⟩
theorem lcl_117 : Cond.methodLink "SnowFortsLaw" 117 yX12_room ∈ GW ∧ Cond.instanceMethod yX12_room ∈ GW ∧ Cond.selects "SnowFortsModel" yX12_room yX12_room ∈ GW := ⟨w_1789, w_1790, w_1791⟩
theorem lcw_X12_room : CWB yX12_room cX12_room 3 (some .int) 2 := ⟨w_1792, w_12, by decide +kernel, by decide +kernel⟩
theorem lcl_118 : Cond.methodLink "SnowFortsLaw" 118 yX11_most ∈ GW ∧ Cond.instanceMethod yX11_most ∈ GW ∧ Cond.selects "SnowForts" yX11_most yX11_most ∈ GW := ⟨w_984, w_985, w_986⟩
theorem lcw_X11_most : CWB yX11_most cX11_most 2 (some .int) 1 := ⟨w_987, w_1, by decide +kernel, by decide +kernel⟩
theorem lcl_121 : Cond.methodLink "SnowFortsLaw" 121 yX12_most ∈ GW ∧ Cond.instanceMethod yX12_most ∈ GW ∧ Cond.selects "SnowFortsModel" yX12_most yX12_most ∈ GW := ⟨w_1802, w_1803, w_1804⟩
theorem lcw_X12_most : CWB yX12_most cX12_most 5 (some .int) 1 := ⟨w_1805, w_12, by decide +kernel, by decide +kernel⟩
theorem lcl_122 : Cond.methodLink "SnowFortsLaw" 122 yX11_lowest ∈ GW ∧ Cond.instanceMethod yX11_lowest ∈ GW ∧ Cond.selects "SnowForts" yX11_lowest yX11_lowest ∈ GW := ⟨w_992, w_993, w_994⟩
theorem lcw_X11_lowest : CWB yX11_lowest cX11_lowest 2 (some .int) 1 := ⟨w_995, w_1, by decide +kernel, by decide +kernel⟩
theorem lcl_125 : Cond.methodLink "SnowFortsLaw" 125 yX12_lowest ∈ GW ∧ Cond.instanceMethod yX12_lowest ∈ GW ∧ Cond.selects "SnowFortsModel" yX12_lowest yX12_lowest ∈ GW := ⟨w_1806, w_1807, w_1808⟩
theorem lcw_X12_lowest : CWB yX12_lowest cX12_lowest 5 (some .int) 1 := ⟨w_1809, w_12, by decide +kernel, by decide +kernel⟩
theorem lcl_126 : Cond.methodLink "SnowFortsLaw" 126 yX11_highest ∈ GW ∧ Cond.instanceMethod yX11_highest ∈ GW ∧ Cond.selects "SnowForts" yX11_highest yX11_highest ∈ GW := ⟨w_1007, w_1008, w_1009⟩
theorem lcw_X11_highest : CWB yX11_highest cX11_highest 2 (some .int) 1 := ⟨w_1010, w_1, by decide +kernel, by decide +kernel⟩
theorem lcl_129 : Cond.methodLink "SnowFortsLaw" 129 yX12_highest ∈ GW ∧ Cond.instanceMethod yX12_highest ∈ GW ∧ Cond.selects "SnowFortsModel" yX12_highest yX12_highest ∈ GW := ⟨w_1814, w_1815, w_1816⟩
theorem lcw_X12_highest : CWB yX12_highest cX12_highest 5 (some .int) 1 := ⟨w_1817, w_12, by decide +kernel, by decide +kernel⟩
theorem lcl_130 : Cond.methodLink "SnowFortsLaw" 130 yX11_steepest ∈ GW ∧ Cond.instanceMethod yX11_steepest ∈ GW ∧ Cond.selects "SnowForts" yX11_steepest yX11_steepest ∈ GW := ⟨w_1015, w_1016, w_1017⟩
theorem lcw_X11_steepest : CWB yX11_steepest cX11_steepest 1 (some .int) 0 := ⟨w_1018, w_1, by decide +kernel, by decide +kernel⟩
theorem lcl_133 : Cond.methodLink "SnowFortsLaw" 133 yX12_steepest ∈ GW ∧ Cond.instanceMethod yX12_steepest ∈ GW ∧ Cond.selects "SnowFortsModel" yX12_steepest yX12_steepest ∈ GW := ⟨w_1818, w_1819, w_1820⟩
theorem lcw_X12_steepest : CWB yX12_steepest cX12_steepest 4 (some .int) 0 := ⟨w_1821, w_12, by decide +kernel, by decide +kernel⟩
theorem lcl_134 : Cond.methodLink "SnowFortsLaw" 134 yX11_level ∈ GW ∧ Cond.instanceMethod yX11_level ∈ GW ∧ Cond.selects "SnowForts" yX11_level yX11_level ∈ GW := ⟨w_1030, w_1031, w_1032⟩
theorem lcw_X11_level : CWB yX11_level cX11_level 3 (some .int) 1 := ⟨w_1033, w_1, by decide +kernel, by decide +kernel⟩
theorem lcl_137 : Cond.methodLink "SnowFortsLaw" 137 yX12_level ∈ GW ∧ Cond.instanceMethod yX12_level ∈ GW ∧ Cond.selects "SnowFortsModel" yX12_level yX12_level ∈ GW := ⟨w_1827, w_1828, w_1829⟩
theorem lcw_X12_level : CWB yX12_level cX12_level 15 (some .int) 1 := ⟨w_1830, w_12, by decide +kernel, by decide +kernel⟩
theorem lcl_138 : Cond.methodLink "SnowFortsLaw" 138 yX11_unlike ∈ GW ∧ Cond.instanceMethod yX11_unlike ∈ GW ∧ Cond.selects "SnowForts" yX11_unlike yX11_unlike ∈ GW := ⟨w_1046, w_1047, w_1048⟩
theorem lcw_X11_unlike : CWB yX11_unlike cX11_unlike 1 (some .int) 0 := ⟨w_1049, w_1, by decide +kernel, by decide +kernel⟩
theorem lcl_141 : Cond.methodLink "SnowFortsLaw" 141 yX12_unlike ∈ GW ∧ Cond.instanceMethod yX12_unlike ∈ GW ∧ Cond.selects "SnowFortsModel" yX12_unlike yX12_unlike ∈ GW := ⟨w_1823, w_1824, w_1825⟩
theorem lcw_X12_unlike : CWB yX12_unlike cX12_unlike 4 (some .int) 0 := ⟨w_1826, w_12, by decide +kernel, by decide +kernel⟩
theorem lcl_142 : Cond.methodLink "SnowFortsLaw" 142 yX11_lasting ∈ GW ∧ Cond.instanceMethod yX11_lasting ∈ GW ∧ Cond.selects "SnowForts" yX11_lasting yX11_lasting ∈ GW := ⟨w_1054, w_1055, w_1056⟩
theorem lcw_X11_lasting : CWB yX11_lasting cX11_lasting 4 (some .int) 3 := ⟨w_1057, w_1, by decide +kernel, by decide +kernel⟩
theorem lcl_145 : Cond.methodLink "SnowFortsLaw" 145 yX12_lasting ∈ GW ∧ Cond.instanceMethod yX12_lasting ∈ GW ∧ Cond.selects "SnowFortsModel" yX12_lasting yX12_lasting ∈ GW := ⟨w_1836, w_1837, w_1838⟩
theorem lcw_X12_lasting : CWB yX12_lasting cX12_lasting 7 (some .int) 3 := ⟨w_1839, w_12, by decide +kernel, by decide +kernel⟩
theorem lcl_146 : Cond.methodLink "SnowFortsLaw" 146 yX11_way ∈ GW ∧ Cond.instanceMethod yX11_way ∈ GW ∧ Cond.selects "SnowForts" yX11_way yX11_way ∈ GW := ⟨w_1066, w_1067, w_1068⟩
theorem lcw_X11_way : CWB yX11_way cX11_way 2 (some .int) 0 := ⟨w_1069, w_1, by decide +kernel, by decide +kernel⟩
theorem lcl_149 : Cond.methodLink "SnowFortsLaw" 149 yX12_way ∈ GW ∧ Cond.instanceMethod yX12_way ∈ GW ∧ Cond.selects "SnowFortsModel" yX12_way yX12_way ∈ GW := ⟨w_1845, w_1846, w_1847⟩
theorem lcw_X12_way : CWB yX12_way cX12_way 5 (some .int) 0 := ⟨w_1848, w_12, by decide +kernel, by decide +kernel⟩
theorem lcl_150 : Cond.methodLink "SnowFortsLaw" 150 yX11_wayAt ∈ GW ∧ Cond.instanceMethod yX11_wayAt ∈ GW ∧ Cond.selects "SnowForts" yX11_wayAt yX11_wayAt ∈ GW := ⟨w_1111, w_1112, w_1113⟩
theorem lcw_X11_wayAt : CWB yX11_wayAt cX11_wayAt 4 (some .int) 2 := ⟨w_1114, w_1, by decide +kernel, by decide +kernel⟩
theorem lcl_153 : Cond.methodLink "SnowFortsLaw" 153 yX12_wayAt ∈ GW ∧ Cond.instanceMethod yX12_wayAt ∈ GW ∧ Cond.selects "SnowFortsModel" yX12_wayAt yX12_wayAt ∈ GW := ⟨w_1864, w_1865, w_1866⟩
theorem lcw_X12_wayAt : CWB yX12_wayAt cX12_wayAt 3 (some .int) 2 := ⟨w_1867, w_12, by decide +kernel, by decide +kernel⟩
theorem lcl_154 : Cond.methodLink "SnowFortsLaw" 154 yX11_peace ∈ GW ∧ Cond.instanceMethod yX11_peace ∈ GW ∧ Cond.selects "SnowForts" yX11_peace yX11_peace ∈ GW := ⟨w_1115, w_1116, w_1117⟩
theorem lcw_X11_peace : CWB yX11_peace cX11_peace 1 (some .int) 0 := ⟨w_1118, w_1, by decide +kernel, by decide +kernel⟩
theorem lcl_157 : Cond.methodLink "SnowFortsLaw" 157 yX12_peace ∈ GW ∧ Cond.instanceMethod yX12_peace ∈ GW ∧ Cond.selects "SnowFortsModel" yX12_peace yX12_peace ∈ GW := ⟨w_1868, w_1869, w_1870⟩
theorem lcw_X12_peace : CWB yX12_peace cX12_peace 1 (some .int) 0 := ⟨w_1871, w_12, by decide +kernel, by decide +kernel⟩
theorem lcl_158 : Cond.methodLink "SnowFortsLaw" 158 yX11_look ∈ GW ∧ Cond.instanceMethod yX11_look ∈ GW ∧ Cond.selects "SnowForts" yX11_look yX11_look ∈ GW := ⟨w_1123, w_1124, w_1125⟩
theorem lcw_X11_look : CWB yX11_look cX11_look 3 (some .int) 2 := ⟨w_1126, w_1, by decide +kernel, by decide +kernel⟩
theorem lcl_161 : Cond.methodLink "SnowFortsLaw" 161 yX12_look ∈ GW ∧ Cond.instanceMethod yX12_look ∈ GW ∧ Cond.selects "SnowFortsModel" yX12_look yX12_look ∈ GW := ⟨w_1872, w_1873, w_1874⟩
theorem lcw_X12_look : CWB yX12_look cX12_look 3 (some .int) 2 := ⟨w_1875, w_12, by decide +kernel, by decide +kernel⟩
theorem lcl_162 : Cond.methodLink "SnowFortsLaw" 162 yX11_hiding ∈ GW ∧ Cond.instanceMethod yX11_hiding ∈ GW ∧ Cond.selects "SnowForts" yX11_hiding yX11_hiding ∈ GW := ⟨w_1131, w_1132, w_1133⟩
theorem lcw_X11_hiding : CWB yX11_hiding cX11_hiding 2 (some .int) 1 := ⟨w_1134, w_1, by decide +kernel, by decide +kernel⟩
theorem lcl_165 : Cond.methodLink "SnowFortsLaw" 165 yX12_hiding ∈ GW ∧ Cond.instanceMethod yX12_hiding ∈ GW ∧ Cond.selects "SnowFortsModel" yX12_hiding yX12_hiding ∈ GW := ⟨w_1876, w_1877, w_1878⟩
theorem lcw_X12_hiding : CWB yX12_hiding cX12_hiding 2 (some .int) 1 := ⟨w_1879, w_12, by decide +kernel, by decide +kernel⟩
theorem lcl_166 : Cond.methodLink "SnowFortsLaw" 166 yX11_sure ∈ GW ∧ Cond.instanceMethod yX11_sure ∈ GW ∧ Cond.selects "SnowForts" yX11_sure yX11_sure ∈ GW := ⟨w_1139, w_1140, w_1141⟩
theorem lcw_X11_sure : CWB yX11_sure cX11_sure 4 (some .int) 2 := ⟨w_1142, w_1, by decide +kernel, by decide +kernel⟩
theorem lcl_169 : Cond.methodLink "SnowFortsLaw" 169 yX12_sure ∈ GW ∧ Cond.instanceMethod yX12_sure ∈ GW ∧ Cond.selects "SnowFortsModel" yX12_sure yX12_sure ∈ GW := ⟨w_1884, w_1885, w_1886⟩
theorem lcw_X12_sure : CWB yX12_sure cX12_sure 4 (some .int) 2 := ⟨w_1887, w_12, by decide +kernel, by decide +kernel⟩
theorem lcl_170 : Cond.methodLink "SnowFortsLaw" 170 yX11_works ∈ GW ∧ Cond.instanceMethod yX11_works ∈ GW ∧ Cond.selects "SnowForts" yX11_works yX11_works ∈ GW := ⟨w_1143, w_1144, w_1145⟩
theorem lcw_X11_works : CWB yX11_works cX11_works 6 (some .long) 3 := ⟨w_1146, w_1, by decide +kernel, by decide +kernel⟩
theorem lcl_174 : Cond.methodLink "SnowFortsLaw" 174 yX12_works ∈ GW ∧ Cond.instanceMethod yX12_works ∈ GW ∧ Cond.selects "SnowFortsModel" yX12_works yX12_works ∈ GW := ⟨w_1889, w_1890, w_1891⟩
theorem lcw_X12_works : CWB yX12_works cX12_works 17 (some .long) 3 := ⟨w_1892, w_12, by decide +kernel, by decide +kernel⟩
theorem lcl_175 : Cond.methodLink "SnowFortsLaw" 175 yX11_worked ∈ GW ∧ Cond.instanceMethod yX11_worked ∈ GW ∧ Cond.selects "SnowForts" yX11_worked yX11_worked ∈ GW := ⟨w_1158, w_1159, w_1160⟩
theorem lcw_X11_worked : CWB yX11_worked cX11_worked 2 (some .int) 1 := ⟨w_1161, w_1, by decide +kernel, by decide +kernel⟩
theorem lcl_178 : Cond.methodLink "SnowFortsLaw" 178 yX12_worked ∈ GW ∧ Cond.instanceMethod yX12_worked ∈ GW ∧ Cond.selects "SnowFortsModel" yX12_worked yX12_worked ∈ GW := ⟨w_1907, w_1908, w_1909⟩
theorem lcw_X12_worked : CWB yX12_worked cX12_worked 2 (some .int) 1 := ⟨w_1910, w_12, by decide +kernel, by decide +kernel⟩
theorem lcl_179 : Cond.methodLink "SnowFortsLaw" 179 yX11_wins ∈ GW ∧ Cond.instanceMethod yX11_wins ∈ GW ∧ Cond.selects "SnowForts" yX11_wins yX11_wins ∈ GW := ⟨w_1162, w_1163, w_1164⟩
theorem lcw_X11_wins : CWB yX11_wins cX11_wins 8 (some .int) 4 := ⟨w_1165, w_1, by decide +kernel, by decide +kernel⟩
theorem lcl_183 : Cond.methodLink "SnowFortsLaw" 183 yX12_wins ∈ GW ∧ Cond.instanceMethod yX12_wins ∈ GW ∧ Cond.selects "SnowFortsModel" yX12_wins yX12_wins ∈ GW := ⟨w_1911, w_1912, w_1913⟩
theorem lcw_X12_wins : CWB yX12_wins cX12_wins 10 (some .int) 4 := ⟨w_1914, w_12, by decide +kernel, by decide +kernel⟩
theorem lcl_184 : Cond.methodLink "SnowFortsLaw" 184 yX11_turns ∈ GW ∧ Cond.instanceMethod yX11_turns ∈ GW ∧ Cond.selects "SnowForts" yX11_turns yX11_turns ∈ GW := ⟨w_1177, w_1178, w_1179⟩
theorem lcw_X11_turns : CWB yX11_turns cX11_turns 9 (some .int) 4 := ⟨w_1180, w_1, by decide +kernel, by decide +kernel⟩
theorem lcl_187 : Cond.methodLink "SnowFortsLaw" 187 yX12_turns ∈ GW ∧ Cond.instanceMethod yX12_turns ∈ GW ∧ Cond.selects "SnowFortsModel" yX12_turns yX12_turns ∈ GW := ⟨w_1922, w_1923, w_1924⟩
theorem lcw_X12_turns : CWB yX12_turns cX12_turns 9 (some .int) 4 := ⟨w_1925, w_12, by decide +kernel, by decide +kernel⟩
theorem lcl_188 : Cond.methodLink "SnowFortsLaw" 188 yX11_stands ∈ GW ∧ Cond.instanceMethod yX11_stands ∈ GW ∧ Cond.selects "SnowForts" yX11_stands yX11_stands ∈ GW := ⟨w_1181, w_1182, w_1183⟩
theorem lcw_X11_stands : CWB yX11_stands cX11_stands 5 (some .boolean) 3 := ⟨w_1184, w_1, by decide +kernel, by decide +kernel⟩
theorem lcl_191 : Cond.methodLink "SnowFortsLaw" 191 yX12_stands ∈ GW ∧ Cond.instanceMethod yX12_stands ∈ GW ∧ Cond.selects "SnowFortsModel" yX12_stands yX12_stands ∈ GW := ⟨w_1926, w_1927, w_1928⟩
theorem lcw_X12_stands : CWB yX12_stands cX12_stands 4 (some .boolean) 3 := ⟨w_1929, w_12, by decide +kernel, by decide +kernel⟩
theorem lcl_192 : Cond.methodLink "SnowFortsLaw" 192 yX11_mean ∈ GW ∧ Cond.instanceMethod yX11_mean ∈ GW ∧ Cond.selects "SnowForts" yX11_mean yX11_mean ∈ GW := ⟨w_1218, w_1219, w_1220⟩
theorem lcw_X11_mean : CWB yX11_mean cX11_mean 5 (some .boolean) 3 := ⟨w_1221, w_1, by decide +kernel, by decide +kernel⟩
theorem lcl_195 : Cond.methodLink "SnowFortsLaw" 195 yX12_mean ∈ GW ∧ Cond.instanceMethod yX12_mean ∈ GW ∧ Cond.selects "SnowFortsModel" yX12_mean yX12_mean ∈ GW := ⟨w_1946, w_1947, w_1948⟩
theorem lcw_X12_mean : CWB yX12_mean cX12_mean 7 (some .boolean) 3 := ⟨w_1949, w_12, by decide +kernel, by decide +kernel⟩
theorem lcl_196 : Cond.methodLink "SnowFortsLaw" 196 yX11_run ∈ GW ∧ Cond.instanceMethod yX11_run ∈ GW ∧ Cond.selects "SnowForts" yX11_run yX11_run ∈ GW := ⟨w_1226, w_1227, w_1228⟩
theorem lcw_X11_run : CWB yX11_run cX11_run 2 (some .int) 1 := ⟨w_1229, w_1, by decide +kernel, by decide +kernel⟩
theorem lcl_199 : Cond.methodLink "SnowFortsLaw" 199 yX12_run ∈ GW ∧ Cond.instanceMethod yX12_run ∈ GW ∧ Cond.selects "SnowFortsModel" yX12_run yX12_run ∈ GW := ⟨w_1950, w_1951, w_1952⟩
theorem lcw_X12_run : CWB yX12_run cX12_run 3 (some .int) 1 := ⟨w_1953, w_12, by decide +kernel, by decide +kernel⟩
theorem lcl_200 : Cond.methodLink "SnowFortsLaw" 200 yX11_ran ∈ GW ∧ Cond.instanceMethod yX11_ran ∈ GW ∧ Cond.selects "SnowForts" yX11_ran yX11_ran ∈ GW := ⟨w_1268, w_1269, w_1270⟩
theorem lcw_X11_ran : CWB yX11_ran cX11_ran 2 (some .int) 1 := ⟨w_1271, w_1, by decide +kernel, by decide +kernel⟩
theorem lcl_203 : Cond.methodLink "SnowFortsLaw" 203 yX12_ran ∈ GW ∧ Cond.instanceMethod yX12_ran ∈ GW ∧ Cond.selects "SnowFortsModel" yX12_ran yX12_ran ∈ GW := ⟨w_1980, w_1981, w_1982⟩
theorem lcw_X12_ran : CWB yX12_ran cX12_ran 2 (some .int) 1 := ⟨w_1983, w_12, by decide +kernel, by decide +kernel⟩
theorem lcl_204 : Cond.methodLink "SnowFortsLaw" 204 yX11_peaces ∈ GW ∧ Cond.instanceMethod yX11_peaces ∈ GW ∧ Cond.selects "SnowForts" yX11_peaces yX11_peaces ∈ GW := ⟨w_1276, w_1277, w_1278⟩
theorem lcw_X11_peaces : CWB yX11_peaces cX11_peaces 5 (some .boolean) 2 := ⟨w_1279, w_1, by decide +kernel, by decide +kernel⟩
theorem lcl_207 : Cond.methodLink "SnowFortsLaw" 207 yX12_peaces ∈ GW ∧ Cond.instanceMethod yX12_peaces ∈ GW ∧ Cond.selects "SnowFortsModel" yX12_peaces yX12_peaces ∈ GW := ⟨w_1984, w_1985, w_1986⟩
theorem lcw_X12_peaces : CWB yX12_peaces cX12_peaces 6 (some .boolean) 2 := ⟨w_1987, w_12, by decide +kernel, by decide +kernel⟩
theorem lcl_208 : Cond.methodLink "SnowFortsLaw" 208 yX11_mark ∈ GW ∧ Cond.instanceMethod yX11_mark ∈ GW ∧ Cond.selects "SnowForts" yX11_mark yX11_mark ∈ GW := ⟨w_1285, w_1286, w_1287⟩
theorem lcw_X11_mark : CWB yX11_mark cX11_mark 1 (some .int) 0 := ⟨w_1288, w_1, by decide +kernel, by decide +kernel⟩
theorem lcl_211 : Cond.methodLink "SnowFortsLaw" 211 yX12_mark ∈ GW ∧ Cond.instanceMethod yX12_mark ∈ GW ∧ Cond.selects "SnowFortsModel" yX12_mark yX12_mark ∈ GW := ⟨w_1988, w_1989, w_1990⟩
theorem lcw_X12_mark : CWB yX12_mark cX12_mark 1 (some .int) 0 := ⟨w_1991, w_12, by decide +kernel, by decide +kernel⟩
theorem lcl_212 : Cond.methodLink "SnowFortsLaw" 212 yX11_back ∈ GW ∧ Cond.instanceMethod yX11_back ∈ GW ∧ Cond.selects "SnowForts" yX11_back yX11_back ∈ GW := ⟨w_1294, w_1295, w_1296⟩
theorem lcw_X11_back : CWB yX11_back cX11_back 1 (some .int) 0 := ⟨w_1297, w_1, by decide +kernel, by decide +kernel⟩
theorem lcl_215 : Cond.methodLink "SnowFortsLaw" 215 yX12_back ∈ GW ∧ Cond.instanceMethod yX12_back ∈ GW ∧ Cond.selects "SnowFortsModel" yX12_back yX12_back ∈ GW := ⟨w_1996, w_1997, w_1998⟩
theorem lcw_X12_back : CWB yX12_back cX12_back 1 (some .int) 0 := ⟨w_1999, w_12, by decide +kernel, by decide +kernel⟩
