-- p50: the law's room; what holds between its rounds
section RM1
variable {p : Program} {l : Launch} {e : Env} {s : State} {m : MethodId} {args : Array Value} {below : List Frame} {meth : Method} {c : Code} {H H0 H1 : Heap} {locs : List Loc} {Q : State → Prop}
variable {cc by1 : ByteArray} {pc mL mL1 lv1 n index ci : Nat} {own C : String} {ret ret1 : Option FieldType} {ls : Array Slot} {rest As st : List Value} {X : xW} {Γ : Nat → Option Nat} {y : MethodName} {b r : Nat}
theorem r_runV {Qc : Array Value → State → Outcome → State → Prop} (E : Ev p s m args meth c cc mL own ret X Γ H0) (hC : Conf X Γ H) (hS : va_S (AΓ Γ) H0 H locs) (hM : Ctr l X Γ y by1 mL1 ret1 lv1 (.ref b :: As) H Qc) (hw : CWB y by1 mL1 ret1 n) (hl : Cond.methodLink own index y ∈ GW ∧ Cond.instanceMethod y ∈ GW ∧ Cond.selects C y y ∈ GW) (hb : Γ b = some r) {fts : List xT} {T : u_T} {N : Nat} (hr : kO r = some (ci, fts) ∧ vwCl[ci]? = some (C, T, N))
    (hn : As.length = n) (hsz : ls.size = mL) (hst : st = As.reverse ++ .ref b :: rest) (hcat : (rest.map fun v => v.category).sum ≤ 8) (hlv : lv1 + 1 ≤ 12 ∧ 8 + (mL1 + 11) + 48 * lv1 ≤ 458) (hdg : decode cc pc = .ok (.invokevirtual index, 3)) :
    va_Run p l e room_1 s m args below meth c H locs 133 8682 0 0 (F0 m pc ls st) rest (Qc (Value.ref b :: As).toArray) (AΓ Γ) :=
  have hts := E.2.2.2.2.1
  va_runV (As := As) (rest := rest) (q_fix E) hM ⟨⟨rfl, rfl, hlv.1, hlv.2, pay_all E hw.1, List.mem_cons_self, hts _ hw.1, hts _ hw.2.1, hw.2.2.1, len_of hw.2.2.2, hts _ hl.1⟩, E.2.2.2.2.1 _ hl.2.1, E.2.2.2.2.1 _ hl.2.2⟩ ⟨blind, q_recv E hC hb hr, q_pre E hS _⟩ rfl hn hsz hst (lv_room hcat) hdg ⟨Nat.le_refl _, Nat.le_refl _⟩
theorem r_runS {Qc : Array Value → State → Outcome → State → Prop} (E : Ev p s m args meth c cc mL own ret X Γ H0) (hS : va_S (AΓ Γ) H0 H locs) (hM : Ctr l X Γ y by1 mL1 ret1 lv1 As H Qc) (hw : CWB y by1 mL1 ret1 n) (hl : Cond.methodLink own index y ∈ GW ∧ Cond.static y ∈ GW)
    (hn : As.length = n) (hsz : ls.size = mL) (hst : st = As.reverse ++ rest) (hcat : (rest.map fun v => v.category).sum ≤ 8) (hlv : lv1 + 1 ≤ 12 ∧ 8 + (mL1 + 11) + 48 * lv1 ≤ 458) (hdg : decode cc pc = .ok (.invokestatic index, 3)) :
    va_Run p l e room_1 s m args below meth c H locs 133 8682 0 0 (F0 m pc ls st) rest (Qc As.toArray) (AΓ Γ) :=
  have hts := E.2.2.2.2.1
  va_runS (As := As) (rest := rest) (q_fix E) hM ⟨⟨rfl, rfl, hlv.1, hlv.2, pay_all E hw.1, List.mem_cons_self, hts _ hw.1, hts _ hw.2.1, hw.2.2.1, len_of hw.2.2.2, hts _ hl.1⟩, E.2.2.2.2.1 _ hl.2⟩ ⟨blind, q_pre E hS _⟩ rfl hn hsz hst (lv_room hcat) hdg ⟨Nat.le_refl _, Nat.le_refl _⟩
theorem r_goI {a : Array Value} {post : Int32 → Heap → Prop} (hr : va_Run p l e room_1 s m args below meth c H locs 133 8682 0 0 (F0 m pc ls st) rest (QI X Γ post a) (AΓ Γ)) (hS : va_S (AΓ Γ) H0 H locs)
    (kk : ∀ (v : Int32) (H1 : Heap) (locs1 : List Loc), post v H1 → Conf X Γ H1 → va_S (AΓ Γ) H0 H1 locs1 → W p l e room_1 s m args below meth c H1 locs1 133 8682 Q (F0 m (pc + 3) ls (.int v :: rest))) : W p l e room_1 s m args below meth c H locs 133 8682 Q (F0 m pc ls st) :=
  va_calli hr hS (fun _ _ h => h) (fun _ h => h) fun v u t H1 locs1 ht hvm hp hB hz hk hS1 => by
    obtain ⟨hB1, hB2⟩ := hB
    have hu : u = H1 := hB1.symm.trans ht
    subst hu
    exact kk v u locs1 hp hB2 hS1
theorem r_goV {a : Array Value} {post : Heap → Prop} (hr : va_Run p l e room_1 s m args below meth c H locs 133 8682 0 0 (F0 m pc ls st) rest (QV X Γ post a) (AΓ Γ)) (hS : va_S (AΓ Γ) H0 H locs)
    (kk : ∀ (H1 : Heap) (locs1 : List Loc), post H1 → Conf X Γ H1 → va_S (AΓ Γ) H0 H1 locs1 → W p l e room_1 s m args below meth c H1 locs1 133 8682 Q (F0 m (pc + 3) ls rest)) : W p l e room_1 s m args below meth c H locs 133 8682 Q (F0 m pc ls st) :=
  va_callv hr hS (fun _ _ h => h) (fun _ h => h) fun u t H1 locs1 ht hvm hp hB hz hk hS1 => by
    obtain ⟨hB1, hB2⟩ := hB
    have hu : u = H1 := hB1.symm.trans ht
    subst hu
    exact kk u locs1 hp hB2 hS1
theorem r_mmin (E : Ev p s m args meth c cc mL own ret X Γ H0) (hsz : ls.size = mL) (hl : Cond.methodLink own index Lib.Math.min.name ∈ GW) (hw : Cond.static Lib.Math.min.name ∈ GW ∧ Cond.initialized "java/lang/Math" ∈ GW ∧ Cond.code Lib.Math.min.name Lib.Math.min.code 2 (some .int) ∈ GW) {x y : Int32} {a b : Int} (ha : x.toInt = a) (hb : y.toInt = b) (_ : 1 ≤ 1) (hcat : (rest.map fun v => v.category).sum ≤ 8) (hdg : decode cc pc = .ok (.invokestatic index, 3))
    (kk : ∀ v : Int32, v.toInt ≤ a → v.toInt ≤ b → (v.toInt = a ∨ v.toInt = b) → W p l e room_1 s m args below meth c H locs 133 8682 Q (F0 m (pc + 3) ls (.int v :: rest))) : W p l e room_1 s m args below meth c H locs 133 8682 Q (F0 m pc ls (.int y :: .int x :: rest)) := by
  have hts := E.2.2.2.2.1
  have h := i_min (z := if y < x then y else x) rfl ha hb
  exact va_mmin E.1 E.2.1 (E.2.2.1.trans hsz.symm) E.2.2.2.1 (hts _ hl) (hts _ hw.1) (hts _ hw.2.1) (hts _ hw.2.2) (show 1 ≤ 12 by decide) (by show _ + 13 ≤ 458; omega) (Nat.le_refl _) (Nat.le_refl _) hdg (kk _ h.1 h.2.1 h.2.2)
theorem r_mmax (E : Ev p s m args meth c cc mL own ret X Γ H0) (hsz : ls.size = mL) (hl : Cond.methodLink own index Lib.Math.max.name ∈ GW) (hw : Cond.static Lib.Math.max.name ∈ GW ∧ Cond.initialized "java/lang/Math" ∈ GW ∧ Cond.code Lib.Math.max.name Lib.Math.max.code 2 (some .int) ∈ GW) {x y : Int32} {a b : Int} (ha : x.toInt = a) (hb : y.toInt = b) (_ : 1 ≤ 1) (hcat : (rest.map fun v => v.category).sum ≤ 8) (hdg : decode cc pc = .ok (.invokestatic index, 3))
    (kk : ∀ v : Int32, a ≤ v.toInt → b ≤ v.toInt → (v.toInt = a ∨ v.toInt = b) → W p l e room_1 s m args below meth c H locs 133 8682 Q (F0 m (pc + 3) ls (.int v :: rest))) : W p l e room_1 s m args below meth c H locs 133 8682 Q (F0 m pc ls (.int y :: .int x :: rest)) := by
  have hts := E.2.2.2.2.1
  have h := i_max (z := if x < y then y else x) rfl ha hb
  exact va_mmax E.1 E.2.1 (E.2.2.1.trans hsz.symm) E.2.2.2.1 (hts _ hl) (hts _ hw.1) (hts _ hw.2.1) (hts _ hw.2.2) (show 1 ≤ 12 by decide) (by show _ + 13 ≤ 458; omega) (Nat.le_refl _) (Nat.le_refl _) hdg (kk _ h.1 h.2.1 h.2.2)
end RM1
theorem ms_lt {a b : Int} {n : Nat} (h : a.toNat < n + 1) (h1 : b < a) (h2 : 0 < a) : b.toNat < n := by omega
theorem lwP_s2 {e ic s w : Int} {i : Nat} : (lwP e ic s w (i + 1)).2 = (lwP e ic s w i).2 - (if i = 0 ∧ ic = 1 then 0 else min (e - min e (lwP e ic s w i).1) (lwP e ic s w i).2) := rfl
theorem wy_in {a n k v P M : Int} (h : (0 ≤ a ∧ a < n ∧ ((k = 0 ∧ v = M) ∨ (k = 1 ∧ v = P))) ∨ ((a < 0 ∨ n ≤ a ∨ 36 ≤ a) ∧ v = -1)) (hv : 0 ≤ v) : a < n ∧ (k = 0 → v = M) ∧ (k = 1 → v = P) := by
  refine ⟨by omega, fun q => by omega, fun q => by omega⟩
theorem wy_out {a n v P A : Int} (h : (0 ≤ a ∧ a < n ∧ (((0 : Int) = 0 ∧ v = A % 6) ∨ ((0 : Int) = 1 ∧ v = P))) ∨ ((a < 0 ∨ n ≤ a ∨ 36 ≤ a) ∧ v = -1)) (hv : v < 0) (h0 : 0 ≤ a) (h1 : a ≤ n) (h2 : n ≤ 36) : a = n := by omega
theorem wy_at {a n k v P M : Int} (h : (0 ≤ a ∧ a < n ∧ ((k = 0 ∧ v = M) ∨ (k = 1 ∧ v = P))) ∨ ((a < 0 ∨ n ≤ a ∨ 36 ≤ a) ∧ v = -1)) (h0 : 0 ≤ a) (h1 : a < n) (h2 : a < 36) : (k = 0 → v = M) ∧ (k = 1 → v = P) := by
  refine ⟨fun q => by omega, fun q => by omega⟩
/-- a fact that the arithmetic isn't to look into -/
def Hd (p : Prop) : Prop := p
theorem Hd.mk {p : Prop} (h : p) : Hd p := h
theorem Hd.get {p : Prop} (h : Hd p) : p := h
/-- no more hands are used than there are -/
def UHD (H : Heap) (us hd : Nat) : Prop := ∀ t : Int, 0 ≤ t → t ≤ 1 → aI H us t ≤ aI H hd t
def lwF (fs fw fu fi : Int → Int) (w h half days n : Int) : Int := sumF (inS w h half (fun c => (lwP (n + fu c) (fi c) (fs c) (fw c) days.toNat).2)) 36
/-- the columns so far: each way over them costs as much as the climb -/
def CLB (w h : Int) (ft : Int → Int) (x climb : Int) : Prop := ∀ W : Int, 0 ≤ W → (∀ x9 : Int, 0 ≤ x9 → x9 < x → ∃ c9, HC w h c9 ∧ c9 % 6 = x9 ∧ ft c9 ≤ W) → climb ≤ W
section RND
variable {X : xW} {Γ : Nat → Option Nat} {H H1 : Heap} {sn wl su lw ic kn hd us br ar fi : Nat} {w h c u hf t x y v q climb least : Int} {fs fw fu fi9 fi8 ft ft2 p : Int → Int} {gs : List Nat}
theorem UHD.kp (a : UHD H us hd) (hk : Kp X Γ gs H H1) (g1 : Γ us = some 32) (g2 : Γ hd = some 31) (h62 : gs.contains 62 = true) (h61 : gs.contains 61 = true) : UHD H1 us hd := fun t t0 t1 => by
  rw [aI_kp hk g1 rfl (gs_any h62 rfl), aI_kp hk g2 rfl (gs_any h61 rfl)]
  exact a t t0 t1
theorem UHD.set (a : UHD H us hd) (o : OT H H1 us t) (ed : ∀ z, aI H1 hd z = aI H hd z) (e : aI H1 us t ≤ aI H1 hd t) : UHD H1 us hd := fun z z0 z1 => by
  by_cases q : z = t
  · rw [q]; exact e
  · rw [o.el z0 q, ed]; exact a z z0 z1
theorem UHD.zero (e0 : aI H1 us 0 = 0) (e1 : aI H1 us 1 = 0) (hC : Conf X Γ H1) (g : Γ hd = some 31) : UHD H1 us hd := fun z z0 z1 => by
  have b := el_bd hC g rfl rfl (fun _ => rfl) (z := z) z0 (by omega)
  rcases (show z = 0 ∨ z = 1 by omega) with q | q
  · rw [q] at b ⊢; omega
  · rw [q] at b ⊢; omega
theorem mst_nn (hC : Conf X Γ H) (gs1 : Γ sn = some 36) : 0 ≤ mst H sn wl lw ar hd us w h hf := by
  have h1 : 0 ≤ fitS H sn wl lw ar w h hf := sumF_nn fun k _ => by
    unfold inS
    split
    · unfold fit; omega
    · exact Int.le_refl _
  unfold mst hlf lwh
  split <;> omega
theorem mst_cg (e1 : ∀ z, aI H1 sn z = aI H sn z) (e2 : ∀ z, aI H1 wl z = aI H wl z) (e3 : ∀ z, aI H1 lw z = aI H lw z) (e4 : ∀ z, aI H1 ar z = aI H ar z) (e5 : ∀ z, aI H1 hd z = aI H hd z) (e6 : ∀ z, aI H1 us z = aI H us z) : mst H1 sn wl lw ar hd us w h hf = mst H sn wl lw ar hd us w h hf := by
  have ef : fit H1 sn wl lw ar w = fit H sn wl lw ar w := funext fun z => by
    unfold fit wlm
    rw [e1, e2, e3, e4]
  unfold mst fitS hlf lwh
  rw [ef, e4, e5, e6]
theorem mst_kp (hk : Kp X Γ gs H H1) (g1 : Γ sn = some 36) (g2 : Γ wl = some 80) (g3 : Γ lw = some 82) (g4 : Γ ar = some 34) (g5 : Γ hd = some 31) (g6 : Γ us = some 32) (h55 : gs.contains 55 = true) (h56 : gs.contains 56 = true) (h58 : gs.contains 58 = true) (h40 : gs.contains 40 = true) (h61 : gs.contains 61 = true) (h62 : gs.contains 62 = true) : mst H1 sn wl lw ar hd us w h hf = mst H sn wl lw ar hd us w h hf :=
  mst_cg (fun _ => aI_kp hk g1 rfl (gs_any h55 rfl)) (fun _ => aI_kp hk g2 rfl (gs_any h56 rfl)) (fun _ => aI_kp hk g3 rfl (gs_any h58 rfl)) (fun _ => aI_kp hk g4 rfl (gs_any h40 rfl)) (fun _ => aI_kp hk g5 rfl (gs_any h61 rfl)) (fun _ => aI_kp hk g6 rfl (gs_any h62 rfl))
/-- so many units built take so many away -/
theorem mst_b (os : OT H H1 sn c) (ow : OT H H1 wl c) (es : aI H1 sn c = aI H sn c - u) (ew : aI H1 wl c = aI H wl c + u) (eu : aI H1 us hf = aI H us hf + u) (el : ∀ z, aI H1 lw z = aI H lw z) (ea : ∀ z, aI H1 ar z = aI H ar z) (ed : ∀ z, aI H1 hd z = aI H hd z) (u0 : 0 ≤ u) (u1 : u ≤ fit H sn wl lw ar w c) (u2 : u ≤ lwh H ar us hf) (u3 : u ≤ hlf H hd us hf) (c0 : 0 ≤ c) (c1 : c < 36) (hb : inB w h hf c = true) (hu : aI H us hf ≤ aI H hd hf) (h40 : aI H hd hf ≤ 40 ∧ 0 ≤ aI H us hf) : mst H1 sn wl lw ar hd us w h hf = mst H sn wl lw ar hd us w h hf - u := by
  have e1 := fitS_b (ar := ar) (lw := lw) (w := w) (h := h) (half := hf) os ow es ew (fun z => by unfold wlm; rw [el, ea]) u0 u1 c0 c1 hb
  unfold mst
  rw [e1]
  have e2 : hlf H1 hd us hf = hlf H hd us hf - u := by
    unfold hlf at u3 ⊢
    rw [ed, eu]
    omega
  have e3 : lwh H1 ar us hf = lwh H ar us hf - u ∨ (lwh H1 ar us hf = 1000000 ∧ lwh H ar us hf = 1000000) := by
    unfold lwh at u2 ⊢
    rw [ea, eu]
    split
    · exact Or.inr ⟨rfl, rfl⟩
    · rename_i q
      rw [if_neg q] at u2
      left
      omega
  have e4 : hlf H hd us hf ≤ 40 := by
    unfold hlf
    omega
  rw [e2]
  rcases e3 with e3 | ⟨e3, e5⟩ <;> omega
theorem SM_b (os : OT H H1 sn c) (ow : OT H H1 wl c) (es : aI H1 sn c = aI H sn c - u) (ew : aI H1 wl c = aI H wl c + u) (c0 : 0 ≤ c) (c1 : c < 36) : SM H1 sn 36 + SM H1 wl 36 = SM H sn 36 + SM H wl 36 := by
  have a := os.sm (n := 36) c0 (by omega)
  have b := ow.sm (n := 36) c0 (by omega)
  omega
theorem lwS_F : lwS H sn wl su ic w h hf t v = lwF (aI H sn) (aI H wl) (aI H su) (aI H ic) w h hf t v := rfl
theorem lwF_0 : lwF fs fw fu fi9 w h hf 0 v = sumF (inS w h hf fw) 36 := rfl
theorem lwF_le {d d2 n n2 : Int} {f2 : Int → Int} (hc : ∀ z : Int, 0 ≤ z → z < 36 → (lwP (n + fu z) (fi9 z) (fs z) (fw z) d.toNat).2 ≤ (lwP (n2 + fu z) (f2 z) (fs z) (fw z) d2.toNat).2) : lwF fs fw fu fi9 w h hf d n ≤ lwF fs fw fu f2 w h hf d2 n2 :=
  sumF_le fun k hk => inS_le (hc k (by omega) (by omega))
theorem lwF_day (hs : ∀ z, 0 ≤ z → z < 36 → 0 ≤ fs z ∧ 0 ≤ fw z ∧ 0 ≤ fu z) (ht : 0 ≤ t) (hv : 0 ≤ v) : lwF fs fw fu fi9 w h hf (t + 1) v ≤ lwF fs fw fu fi9 w h hf t v :=
  lwF_le fun z z0 z1 => by
    obtain ⟨a, b, d⟩ := hs z z0 z1
    rw [show (t + 1).toNat = t.toNat + 1 by omega]
    exact lwP_day (by omega) a b _
theorem lwF_mono (hs : ∀ z, 0 ≤ z → z < 36 → 0 ≤ fs z ∧ 0 ≤ fw z ∧ 0 ≤ fu z) (hv : 0 ≤ v) : lwF fs fw fu fi9 w h hf t (v + 1) ≤ lwF fs fw fu fi9 w h hf t v :=
  lwF_le fun z z0 z1 => by
    obtain ⟨a, b, d⟩ := hs z z0 z1
    exact (lwP_mono (by omega) (by omega) a b _).2
theorem lwF_ice (hs : ∀ z, 0 ≤ z → z < 36 → 0 ≤ fs z ∧ 0 ≤ fw z ∧ 0 ≤ fu z) (hv : 0 ≤ v) (e1 : fi8 c = 1) (e2 : ∀ z, 0 ≤ z → z ≠ c → fi8 z = fi9 z) : lwF fs fw fu fi9 w h hf t v ≤ lwF fs fw fu fi8 w h hf t v :=
  lwF_le fun z z0 z1 => by
    obtain ⟨a, b, d⟩ := hs z z0 z1
    by_cases e : z = c
    · rw [e] at a b d ⊢
      rw [e1]
      exact (lwP_ice (by omega) a b _).2
    · rw [e2 z z0 e]
      exact Int.le_refl _
theorem hs_of (hC : Conf X Γ H) (g1 : Γ sn = some 36) (g2 : Γ wl = some 80) (g3 : Γ su = some 81) (e1 : aI H sn = fs) (e2 : aI H wl = fw) (e3 : aI H su = fu) : ∀ z, 0 ≤ z → z < 36 → 0 ≤ fs z ∧ 0 ≤ fw z ∧ 0 ≤ fu z := fun z z0 z1 => by
  subst e1 e2 e3
  exact ⟨(el_bd hC g1 rfl rfl (fun _ => rfl) z0 z1).1, (el_bd hC g2 rfl rfl (fun _ => rfl) z0 z1).1, (el_bd hC g3 rfl rfl (fun _ => rfl) z0 z1).1⟩
theorem CLB.nil : CLB w h ft 0 0 := fun _ W0 _ => W0
theorem CLB.step {z : Int} (a : CLB w h ft x climb) (hx : 0 ≤ x) (hl : ∀ y9 : Int, 0 ≤ y9 → y9 < h → least ≤ ft (y9 * 6 + x)) (hz : z = climb ∨ z = least) : CLB w h ft (x + 1) z := fun W W0 hW => by
  rcases hz with e | e
  · rw [e]
    exact a W W0 fun x9 a0 a1 => hW x9 a0 (by omega)
  · rw [e]
    obtain ⟨c9, h1, h2, h3⟩ := hW x hx (by omega)
    have h1' : 0 ≤ c9 ∧ c9 < 36 ∧ c9 % 6 < w ∧ c9 / 6 < h := h1
    have h4 := hl (c9 / 6) (by omega) h1'.2.2.2
    rw [show c9 / 6 * 6 + x = c9 by omega] at h4
    exact Int.le_trans h4 h3
theorem CLB.fin (a : CLB w h ft w climb) {n W : Int} (hp : PTH w h ft p n W) (hf : ∀ z : Int, 0 ≤ z → z < 36 → 0 ≤ ft z) (hw : 1 ≤ w) : climb ≤ W := by
  obtain ⟨c0, b1, b2, b3⟩ := hp.col (Int.le_refl 0) (by omega)
  have := hf c0 b1.1 b1.2.1
  exact a W (by omega) fun x9 a0 a1 => hp.col a0 a1
theorem cst_cg2 : ∀ n : Nat, (∀ j : Int, 0 ≤ j → j < n → ft (p j) = ft2 (p j)) → cst ft p n = cst ft2 p n
  | 0, _ => rfl
  | n + 1, hj => by
    show cst ft p n + stp (if n = 0 then 0 else ft (p ((n : Int) - 1))) (ft (p n)) = cst ft2 p n + stp (if n = 0 then 0 else ft2 (p ((n : Int) - 1))) (ft2 (p n))
    rw [cst_cg2 n fun j h0 h1 => hj j h0 (by omega), hj n (by omega) (by omega)]
    by_cases e : n = 0
    · rw [if_pos e, if_pos e]
    · rw [if_neg e, if_neg e, hj ((n : Int) - 1) (by omega) (by omega)]
theorem PTH.cg {n W : Int} (a : PTH w h ft p n W) (hf : ∀ z : Int, 0 ≤ z → z < 36 → ft z = ft2 z) : PTH w h ft2 p n W := by
  obtain ⟨q0, q00, q1, q2, q3, q4, q5⟩ := a
  have e : ∀ j : Int, 0 ≤ j → j < n → ft (p j) = ft2 (p j) := fun j j0 j1 => hf _ (q1 j j0 j1).1 (q1 j j0 j1).2.1
  exact ⟨q0, q00, q1, q2, q3, q4, by rw [q5, e (n - 1) (by omega) (by omega), cst_cg2 n.toNat fun j j0 j1 => e j j0 (by omega)]⟩
theorem PTH.cell {n W j : Int} (a : PTH w h ft p n W) (h0 : 0 ≤ j) (h1 : j < n) : 0 ≤ p j ∧ p j < 36 ∧ p j % 6 < w ∧ p j / 6 < h := a.2.2.1 j h0 h1
theorem cst_nx {k a b : Int} (h0 : 0 ≤ k) (ha : (k = 0 → a = 0) ∧ (0 < k → a = ft (p (k - 1)))) (hb : b = ft (p k)) : cst ft p (k + 1).toNat = cst ft p k.toNat + stp a b := by
  rw [show (k + 1).toNat = k.toNat + 1 by omega]
  show cst ft p k.toNat + stp (if k.toNat = 0 then 0 else ft (p ((k.toNat : Int) - 1))) (ft (p (k.toNat : Int))) = _
  rw [show ((k.toNat : Nat) : Int) = k by omega, hb]
  by_cases e : k = 0
  · rw [if_pos (by omega), ha.1 e]
  · rw [if_neg (by omega), ha.2 (by omega)]
end RND
section RN2
variable {X : xW} {Γ : Nat → Option Nat} {H H1 : Heap} {sn wl lw ar us ra tp m : Nat} {w c hf : Int} {gs : List Nat} {txt : List Int}
theorem fit_kp (hk : Kp X Γ gs H H1) (g1 : Γ sn = some 36) (g2 : Γ wl = some 80) (g3 : Γ lw = some 82) (g4 : Γ ar = some 34) (h55 : gs.contains 55 = true) (h56 : gs.contains 56 = true) (h58 : gs.contains 58 = true) (h40 : gs.contains 40 = true) : fit H1 sn wl lw ar w c = fit H sn wl lw ar w c := by
  unfold fit wlm
  rw [aI_kp hk g1 rfl (gs_any h55 rfl), aI_kp hk g2 rfl (gs_any h56 rfl), aI_kp hk g3 rfl (gs_any h58 rfl), aI_kp hk g4 rfl (gs_any h40 rfl)]
theorem lwh_kp (hk : Kp X Γ gs H H1) (g1 : Γ ar = some 34) (g2 : Γ us = some 32) (h40 : gs.contains 40 = true) (h62 : gs.contains 62 = true) : lwh H1 ar us hf = lwh H ar us hf := by
  unfold lwh
  rw [aI_kp hk g1 rfl (gs_any h40 rfl), aI_kp hk g2 rfl (gs_any h62 rfl)]
theorem LT.kp (h : LT X H ra tp m txt) (hk : Kp X Γ gs H H1) (gr : Γ ra = some 2) (gt : Γ tp = some 25) (gm : Γ m = some 90) (h3 : gs.contains 3 = true) (h29 : gs.contains 29 = true) (h70 : gs.contains 70 = true) : LT X H1 ra tp m txt := by
  obtain ⟨F, k, a1, a2, a3, a4, a5, a6⟩ := h
  exact ⟨F, k, a1.kp hk gt gm h29 h70, by rw [kp_I hk gr (ci := 4) (k := 1) rfl (by decide) (gs_any h3 rfl)]; exact a2, a3, a4, by rw [aI_kp hk gm rfl (gs_any h70 rfl)]; exact a5, by rw [aI_kp hk gm rfl (gs_any h70 rfl)]; exact a6⟩
theorem stp_0 {a : Int} (h : 0 ≤ a) : (3 < a ∧ stp a 0 = 2) ∨ (a ≤ 3 ∧ stp a 0 = 0) := by
  unfold stp
  rw [if_neg (by omega)]
  split <;> omega
end RN2
