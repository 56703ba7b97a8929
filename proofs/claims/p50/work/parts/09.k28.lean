-- p50: elements and sums as ints; rows by name; the yard's numbers
def sumF (f : Int → Int) : Nat → Int
  | 0 => 0
  | n + 1 => sumF f n + f n
def aI (H : Heap) (a : Nat) (z : Int) : Int := (sI H a z.toNat).toInt
def SM (H : Heap) (a n : Nat) : Int := sumF (aI H a) n
/-- all but one element is as it was -/
def OT (H0 H : Heap) (a : Nat) (c : Int) : Prop := ∀ j : Nat, (j : Int) ≠ c → sI H a j = sI H0 a j
section SMF
variable {f g : Int → Int} {n : Nat} {c B : Int}
theorem sumF_congr (h : ∀ k : Nat, k < n → f k = g k) : sumF f n = sumF g n := by
  induction n with
  | zero => rfl
  | succ n ih =>
    show sumF f n + f n = sumF g n + g n
    rw [ih (fun k hk => h k (Nat.lt_succ_of_lt hk)), h n (Nat.lt_succ_self n)]
theorem sumF_le (h : ∀ k : Nat, k < n → f k ≤ g k) : sumF f n ≤ sumF g n := by
  induction n with
  | zero => exact Int.le_refl _
  | succ n ih =>
    have h1 := ih (fun k hk => h k (Nat.lt_succ_of_lt hk))
    have h2 := h n (Nat.lt_succ_self n)
    show sumF f n + f n ≤ sumF g n + g n
    omega
theorem sumF_nn (h : ∀ k : Nat, k < n → 0 ≤ f k) : 0 ≤ sumF f n := by
  induction n with
  | zero => exact Int.le_refl _
  | succ n ih =>
    have h1 := ih (fun k hk => h k (Nat.lt_succ_of_lt hk))
    have h2 := h n (Nat.lt_succ_self n)
    show 0 ≤ sumF f n + f n
    omega
theorem sumF_ub (h : ∀ k : Nat, k < n → f k ≤ B) : sumF f n ≤ B * n := by
  induction n with
  | zero => show (0 : Int) ≤ B * 0; rw [Int.mul_zero]; exact Int.le_refl _
  | succ n ih =>
    have h1 := ih (fun k hk => h k (Nat.lt_succ_of_lt hk))
    have h2 := h n (Nat.lt_succ_self n)
    show sumF f n + f n ≤ B * ((n : Int) + 1)
    rw [Int.mul_add, Int.mul_one]
    omega
theorem sumF_pc (hc : ∀ k : Nat, (k : Int) ≠ c → f k = g k) (h0 : 0 ≤ c) (h1 : c < n) : sumF f n = sumF g n - g c + f c := by
  induction n with
  | zero => exfalso; omega
  | succ n ih =>
    show sumF f n + f n = sumF g n + g n - g c + f c
    by_cases e : c = n
    · rw [e, sumF_congr (n := n) (f := f) (g := g) (fun k hk => hc k (by omega))]
      omega
    · have h2 := ih (by omega)
      have h3 := hc n (fun q => e q.symm)
      omega
end SMF
section AIS
variable {H H0 H1 : Heap} {a b j n r : Nat} {c z y w : Int} {i x v : Int32} {u : Value} {X : xW} {Γ : Nat → Option Nat} {gs : List Nat}
theorem aI_of (hi : i.toInt = z) (e : sI H a i.toNatClampNeg = v) : aI H a z = v.toInt := by
  unfold aI
  rw [← i_ix hi, e]
theorem aI_up (U : Up H H1 a i.toNatClampNeg (.int x)) (hi : i.toInt = z) (hx : x.toInt = w) : aI H1 a z = w := by
  unfold aI
  rw [← i_ix hi, up_I U, hx]
theorem aI_un (U : Up H H1 a i.toNatClampNeg u) (hi : i.toInt = y) (h : 0 ≤ y ∧ 0 ≤ z ∧ y ≠ z) : aI H1 a z = aI H a z := by
  unfold aI
  rw [up_nI U (fun q => by have h2 := q.2; rw [i_ix hi] at h2; omega)]
theorem aI_ne (U : Up H H1 b j u) (h : b ≠ a) : aI H1 a z = aI H a z := by
  unfold aI
  rw [up_nI U (fun q => h q.1.symm)]
theorem aI_cp (U : Cp H H1 b) (h : a ≠ b) : aI H1 a z = aI H a z := by
  unfold aI
  rw [cp_I U h]
theorem aI_kp (hk : Kp X Γ gs H H1) (g : Γ a = some r) (hr : kO r = none) (hp : (gs.any fun g => gF g r 0) = true) : aI H1 a z = aI H a z := congrArg Int32.toInt (kp_aI hk _ g hr hp)
theorem SM_ne (U : Up H H1 b j u) (h : b ≠ a) : SM H1 a n = SM H a n := sumF_congr fun _ _ => aI_ne U h
theorem SM_cp (U : Cp H H1 b) (h : a ≠ b) : SM H1 a n = SM H a n := sumF_congr fun _ _ => aI_cp U h
theorem SM_kp (hk : Kp X Γ gs H H1) (g : Γ a = some r) (hr : kO r = none) (hp : (gs.any fun g => gF g r 0) = true) : SM H1 a n = SM H a n := sumF_congr fun _ _ => aI_kp hk g hr hp
theorem SM_up (U : Up H H1 a i.toNatClampNeg (.int x)) (hi : i.toInt = z) (hx : x.toInt = w) (h0 : 0 ≤ z) (h1 : z < n) : SM H1 a n = SM H a n - aI H a z + w := by
  have h := sumF_pc (f := aI H1 a) (g := aI H a) (c := z) (n := n) (fun k hk => aI_un U hi ⟨h0, by omega, by omega⟩) h0 h1
  rw [aI_up U hi hx] at h
  exact h
theorem SM_nx (h0 : 0 ≤ z) : SM H a (z + 1).toNat = SM H a z.toNat + aI H a z := by
  rw [show (z + 1).toNat = z.toNat + 1 by omega]
  show SM H a z.toNat + aI H a (z.toNat : Int) = _
  rw [show (z.toNat : Int) = z by omega]
theorem OT.rf : OT H H a c := fun _ _ => rfl
theorem OT.ne (h : OT H0 H a c) (U : Up H H1 b j u) (hn : b ≠ a) : OT H0 H1 a c := fun k hk => (up_nI U (fun q => hn q.1.symm)).trans (h k hk)
theorem OT.up (h : OT H0 H a c) (U : Up H H1 a i.toNatClampNeg u) (hi : i.toInt = z) (hz : 0 ≤ z ∧ z = c) : OT H0 H1 a c := fun k hk => (up_nI U (fun q => by have h2 := q.2; rw [i_ix hi] at h2; omega)).trans (h k hk)
theorem OT.cp (h : OT H0 H a c) (U : Cp H H1 b) (hn : a ≠ b) : OT H0 H1 a c := fun k hk => (cp_I U hn).trans (h k hk)
theorem OT.kp (h : OT H0 H a c) (hk : Kp X Γ gs H H1) (g : Γ a = some r) (hr : kO r = none) (hp : (gs.any fun g => gF g r 0) = true) : OT H0 H1 a c := fun k hc => (kp_aI hk k g hr hp).trans (h k hc)
theorem OT.tr (h : OT H0 H a c) (h2 : OT H H1 a c) : OT H0 H1 a c := fun k hk => (h2 k hk).trans (h k hk)
theorem OT.el (h : OT H0 H a c) (h0 : 0 ≤ z) (hz : z ≠ c) : aI H a z = aI H0 a z := by
  unfold aI
  rw [h z.toNat (by omega)]
theorem OT.sm (h : OT H0 H a c) (h0 : 0 ≤ c) (h1 : c < n) : SM H a n = SM H0 a n - aI H0 a c + aI H a c := sumF_pc (fun k hk => h.el (by omega) hk) h0 h1
theorem el_bd {F : Nat → xT} {N : Nat} {lo hi : Int} (hC : Conf X Γ H) (g : Γ a = some r) (hr : kO r = none) (hA : kA r = some (1, N, F)) (hF : ∀ k, F k = (0, lo, hi)) (h0 : 0 ≤ z) (h1 : z < N) : lo ≤ aI H a z ∧ aI H a z ≤ hi := by
  obtain ⟨zz, k1, k2⟩ := (hC a r g).arr hr hA
  have hlt : z.toNat < N := by omega
  obtain ⟨v, hv, l1, l2⟩ := hF z.toNat ▸ k2 z.toNat hlt
  have e : sI H a z.toNat = v := by
    unfold sI sv
    rw [k1, Option.bind_some, arrV_read _ _ hlt, hv]
  unfold aI
  rw [e]
  exact ⟨l1, l2⟩
theorem SM_bd {F : Nat → xT} {N : Nat} {hi : Int} (hC : Conf X Γ H) (g : Γ a = some r) (hr : kO r = none) (hA : kA r = some (1, N, F)) (hF : ∀ k, F k = (0, 0, hi)) (hn : n ≤ N) : 0 ≤ SM H a n ∧ SM H a n ≤ hi * n :=
  ⟨sumF_nn fun k hk => (el_bd hC g hr hA hF (by omega) (by omega)).1, sumF_ub fun k hk => (el_bd hC g hr hA hF (by omega) (by omega)).2⟩
end AIS
def YN (X : xW) (Γ : Nat → Option Nat) (H : Heap) (y sn wl su lw ic kn hd us br ar fi : Nat) : Prop := (sR H y (X.1.2 8 12) = some sn ∧ Γ sn = some 36) ∧ (sR H y (X.1.2 8 13) = some wl ∧ Γ wl = some 80) ∧ (sR H y (X.1.2 8 14) = some su ∧ Γ su = some 81) ∧ (sR H y (X.1.2 8 15) = some lw ∧ Γ lw = some 82) ∧ (sR H y (X.1.2 8 16) = some ic ∧ Γ ic = some 83) ∧ (sR H y (X.1.2 8 17) = some kn ∧ Γ kn = some 84) ∧ (sR H y (X.1.2 8 7) = some hd ∧ Γ hd = some 31) ∧ (sR H y (X.1.2 8 8) = some us ∧ Γ us = some 32) ∧ (sR H y (X.1.2 8 9) = some br ∧ Γ br = some 33) ∧ (sR H y (X.1.2 8 10) = some ar ∧ Γ ar = some 34) ∧ (sR H y (X.1.2 8 11) = some fi ∧ Γ fi = some 35)
theorem YN.sn {X : xW} {Γ : Nat → Option Nat} {H : Heap} {y sn wl su lw ic kn hd us br ar fi : Nat} (h : YN X Γ H y sn wl su lw ic kn hd us br ar fi) : sR H y (X.1.2 8 12) = some sn ∧ Γ sn = some 36 := h.1
theorem YN.wl {X : xW} {Γ : Nat → Option Nat} {H : Heap} {y sn wl su lw ic kn hd us br ar fi : Nat} (h : YN X Γ H y sn wl su lw ic kn hd us br ar fi) : sR H y (X.1.2 8 13) = some wl ∧ Γ wl = some 80 := h.2.1
theorem YN.su {X : xW} {Γ : Nat → Option Nat} {H : Heap} {y sn wl su lw ic kn hd us br ar fi : Nat} (h : YN X Γ H y sn wl su lw ic kn hd us br ar fi) : sR H y (X.1.2 8 14) = some su ∧ Γ su = some 81 := h.2.2.1
theorem YN.lw {X : xW} {Γ : Nat → Option Nat} {H : Heap} {y sn wl su lw ic kn hd us br ar fi : Nat} (h : YN X Γ H y sn wl su lw ic kn hd us br ar fi) : sR H y (X.1.2 8 15) = some lw ∧ Γ lw = some 82 := h.2.2.2.1
theorem YN.ic {X : xW} {Γ : Nat → Option Nat} {H : Heap} {y sn wl su lw ic kn hd us br ar fi : Nat} (h : YN X Γ H y sn wl su lw ic kn hd us br ar fi) : sR H y (X.1.2 8 16) = some ic ∧ Γ ic = some 83 := h.2.2.2.2.1
theorem YN.kn {X : xW} {Γ : Nat → Option Nat} {H : Heap} {y sn wl su lw ic kn hd us br ar fi : Nat} (h : YN X Γ H y sn wl su lw ic kn hd us br ar fi) : sR H y (X.1.2 8 17) = some kn ∧ Γ kn = some 84 := h.2.2.2.2.2.1
theorem YN.hd {X : xW} {Γ : Nat → Option Nat} {H : Heap} {y sn wl su lw ic kn hd us br ar fi : Nat} (h : YN X Γ H y sn wl su lw ic kn hd us br ar fi) : sR H y (X.1.2 8 7) = some hd ∧ Γ hd = some 31 := h.2.2.2.2.2.2.1
theorem YN.us {X : xW} {Γ : Nat → Option Nat} {H : Heap} {y sn wl su lw ic kn hd us br ar fi : Nat} (h : YN X Γ H y sn wl su lw ic kn hd us br ar fi) : sR H y (X.1.2 8 8) = some us ∧ Γ us = some 32 := h.2.2.2.2.2.2.2.1
theorem YN.br {X : xW} {Γ : Nat → Option Nat} {H : Heap} {y sn wl su lw ic kn hd us br ar fi : Nat} (h : YN X Γ H y sn wl su lw ic kn hd us br ar fi) : sR H y (X.1.2 8 9) = some br ∧ Γ br = some 33 := h.2.2.2.2.2.2.2.2.1
theorem YN.ar {X : xW} {Γ : Nat → Option Nat} {H : Heap} {y sn wl su lw ic kn hd us br ar fi : Nat} (h : YN X Γ H y sn wl su lw ic kn hd us br ar fi) : sR H y (X.1.2 8 10) = some ar ∧ Γ ar = some 34 := h.2.2.2.2.2.2.2.2.2.1
theorem YN.fi {X : xW} {Γ : Nat → Option Nat} {H : Heap} {y sn wl su lw ic kn hd us br ar fi : Nat} (h : YN X Γ H y sn wl su lw ic kn hd us br ar fi) : sR H y (X.1.2 8 11) = some fi ∧ Γ fi = some 35 := h.2.2.2.2.2.2.2.2.2.2
def WN (X : xW) (Γ : Nat → Option Nat) (H : Heap) (w pa hh wt : Nat) : Prop := (sR H w (X.1.2 7 0) = some pa ∧ Γ pa = some 50) ∧ (sR H w (X.1.2 7 2) = some hh ∧ Γ hh = some 51) ∧ (sR H w (X.1.2 7 3) = some wt ∧ Γ wt = some 52)
theorem WN.pa {X : xW} {Γ : Nat → Option Nat} {H : Heap} {w pa hh wt : Nat} (h : WN X Γ H w pa hh wt) : sR H w (X.1.2 7 0) = some pa ∧ Γ pa = some 50 := h.1
theorem WN.hh {X : xW} {Γ : Nat → Option Nat} {H : Heap} {w pa hh wt : Nat} (h : WN X Γ H w pa hh wt) : sR H w (X.1.2 7 2) = some hh ∧ Γ hh = some 51 := h.2.1
theorem WN.wt {X : xW} {Γ : Nat → Option Nat} {H : Heap} {w pa hh wt : Nat} (h : WN X Γ H w pa hh wt) : sR H w (X.1.2 7 3) = some wt ∧ Γ wt = some 52 := h.2.2
section YNS
variable {X : xW} {Γ : Nat → Option Nat} {H H1 : Heap} {y sn wl su lw ic kn hd us br ar fi w pa hh wt : Nat} {gs : List Nat}
theorem YN.kp (h : YN X Γ H y sn wl su lw ic kn hd us br ar fi) (gy : Γ y = some 5) (hk : Kp X Γ gs H H1) (h37 : gs.contains 37 = true) : YN X Γ H1 y sn wl su lw ic kn hd us br ar fi := ⟨⟨(kp_R hk gy (ci := 8) (k := 12) rfl (by decide) (gs_any h37 rfl)).trans h.sn.1, h.sn.2⟩, ⟨(kp_R hk gy (ci := 8) (k := 13) rfl (by decide) (gs_any h37 rfl)).trans h.wl.1, h.wl.2⟩, ⟨(kp_R hk gy (ci := 8) (k := 14) rfl (by decide) (gs_any h37 rfl)).trans h.su.1, h.su.2⟩, ⟨(kp_R hk gy (ci := 8) (k := 15) rfl (by decide) (gs_any h37 rfl)).trans h.lw.1, h.lw.2⟩, ⟨(kp_R hk gy (ci := 8) (k := 16) rfl (by decide) (gs_any h37 rfl)).trans h.ic.1, h.ic.2⟩, ⟨(kp_R hk gy (ci := 8) (k := 17) rfl (by decide) (gs_any h37 rfl)).trans h.kn.1, h.kn.2⟩, ⟨(kp_R hk gy (ci := 8) (k := 7) rfl (by decide) (gs_any h37 rfl)).trans h.hd.1, h.hd.2⟩, ⟨(kp_R hk gy (ci := 8) (k := 8) rfl (by decide) (gs_any h37 rfl)).trans h.us.1, h.us.2⟩, ⟨(kp_R hk gy (ci := 8) (k := 9) rfl (by decide) (gs_any h37 rfl)).trans h.br.1, h.br.2⟩, ⟨(kp_R hk gy (ci := 8) (k := 10) rfl (by decide) (gs_any h37 rfl)).trans h.ar.1, h.ar.2⟩, ⟨(kp_R hk gy (ci := 8) (k := 11) rfl (by decide) (gs_any h37 rfl)).trans h.fi.1, h.fi.2⟩⟩
theorem YN.of (hC : Conf X Γ H) (gy : Γ y = some 5) : ∃ sn wl su lw ic kn hd us br ar fi, YN X Γ H y sn wl su lw ic kn hd us br ar fi := by
  obtain ⟨sn, asn, bsn⟩ := f_ref hC gy (ci := 8) (kf := 12) rfl rfl
  obtain ⟨wl, awl, bwl⟩ := f_ref hC gy (ci := 8) (kf := 13) rfl rfl
  obtain ⟨su, asu, bsu⟩ := f_ref hC gy (ci := 8) (kf := 14) rfl rfl
  obtain ⟨lw, alw, blw⟩ := f_ref hC gy (ci := 8) (kf := 15) rfl rfl
  obtain ⟨ic, aic, bic⟩ := f_ref hC gy (ci := 8) (kf := 16) rfl rfl
  obtain ⟨kn, akn, bkn⟩ := f_ref hC gy (ci := 8) (kf := 17) rfl rfl
  obtain ⟨hd, ahd, bhd⟩ := f_ref hC gy (ci := 8) (kf := 7) rfl rfl
  obtain ⟨us, aus, bus⟩ := f_ref hC gy (ci := 8) (kf := 8) rfl rfl
  obtain ⟨br, abr, bbr⟩ := f_ref hC gy (ci := 8) (kf := 9) rfl rfl
  obtain ⟨ar, aar, bar⟩ := f_ref hC gy (ci := 8) (kf := 10) rfl rfl
  obtain ⟨fi, afi, bfi⟩ := f_ref hC gy (ci := 8) (kf := 11) rfl rfl
  exact ⟨sn, wl, su, lw, ic, kn, hd, us, br, ar, fi, ⟨asn, bsn⟩, ⟨awl, bwl⟩, ⟨asu, bsu⟩, ⟨alw, blw⟩, ⟨aic, bic⟩, ⟨akn, bkn⟩, ⟨ahd, bhd⟩, ⟨aus, bus⟩, ⟨abr, bbr⟩, ⟨aar, bar⟩, ⟨afi, bfi⟩⟩
theorem WN.kp (h : WN X Γ H w pa hh wt) (gw : Γ w = some 7) (hk : Kp X Γ gs H H1) (h37 : gs.contains 37 = true) : WN X Γ H1 w pa hh wt := ⟨⟨(kp_R hk gw (ci := 7) (k := 0) rfl (by decide) (gs_any h37 rfl)).trans h.pa.1, h.pa.2⟩, ⟨(kp_R hk gw (ci := 7) (k := 2) rfl (by decide) (gs_any h37 rfl)).trans h.hh.1, h.hh.2⟩, ⟨(kp_R hk gw (ci := 7) (k := 3) rfl (by decide) (gs_any h37 rfl)).trans h.wt.1, h.wt.2⟩⟩
theorem WN.of (hC : Conf X Γ H) (gw : Γ w = some 7) : ∃ pa hh wt, WN X Γ H w pa hh wt := by
  obtain ⟨pa, apa, bpa⟩ := f_ref hC gw (ci := 7) (kf := 0) rfl rfl
  obtain ⟨hh, ahh, bhh⟩ := f_ref hC gw (ci := 7) (kf := 2) rfl rfl
  obtain ⟨wt, awt, bwt⟩ := f_ref hC gw (ci := 7) (kf := 3) rfl rfl
  exact ⟨pa, hh, wt, ⟨apa, bpa⟩, ⟨ahh, bhh⟩, ⟨awt, bwt⟩⟩
end YNS
/-- a cell of the yard; of a half; the cell across -/
def HC (w h c : Int) : Prop := 0 ≤ c ∧ c < 36 ∧ c % 6 < w ∧ c / 6 < h
def inB (w h half c : Int) : Bool := decide (c % 6 < w) && decide (c / 6 < h) && (decide (c % 6 < w / 2) == decide (half = 0))
def inS (w h half : Int) (f : Int → Int) (c : Int) : Int := if inB w h half c = true then f c else 0
def acr (w c : Int) : Int := if 0 ≤ c - c % 6 + w - 1 - c % 6 ∧ c - c % 6 + w - 1 - c % 6 < 36 then c - c % 6 + w - 1 - c % 6 else 0
/-- how high a wall may be; with how many hands a school may build; how many are left; what fits -/
def wlm (H : Heap) (ar lw : Nat) (w c : Int) : Int := if aI H ar 0 = -1 then 1000000 else aI H lw (acr w c) + aI H ar 0
def lwh (H : Heap) (ar us : Nat) (half : Int) : Int := if aI H ar 1 = -1 then 1000000 else max 0 (aI H ar 1 - aI H us half)
def hlf (H : Heap) (hd us : Nat) (half : Int) : Int := max 0 (aI H hd half - aI H us half)
def fit (H : Heap) (sn wl lw ar : Nat) (w c : Int) : Int := max 0 (min (aI H sn c) (min 99 (wlm H ar lw w c) - aI H wl c))
def fitS (H : Heap) (sn wl lw ar : Nat) (w h half : Int) : Int := sumF (inS w h half (fit H sn wl lw ar w)) 36
def mst (H : Heap) (sn wl lw ar hd us : Nat) (w h half : Int) : Int := min (fitS H sn wl lw ar w h half) (min (hlf H hd us half) (lwh H ar us half))
/-- snow and wall after some days -/
def lwP (e ic s w : Int) : Nat → Int × Int
  | 0 => (s, w)
  | i + 1 => ((lwP e ic s w i).1 - min e (lwP e ic s w i).1, (lwP e ic s w i).2 - (if i = 0 ∧ ic = 1 then 0 else min (e - min e (lwP e ic s w i).1) (lwP e ic s w i).2))
def lwC (H : Heap) (sn wl su ic : Nat) (days n c : Int) : Int := (lwP (n + aI H su c) (aI H ic c) (aI H sn c) (aI H wl c) days.toNat).2
def lwS (H : Heap) (sn wl su ic : Nat) (w h half days n : Int) : Int := sumF (inS w h half (lwC H sn wl su ic days n)) 36
section YFN
variable {w h half c : Int} {H H0 H1 : Heap} {sn wl su lw ic ar hd us : Nat}
theorem inB_t (h1 : c % 6 < w) (h2 : c / 6 < h) (h3 : (c % 6 < w / 2 ∧ half = 0) ∨ (w / 2 ≤ c % 6 ∧ half ≠ 0)) : inB w h half c = true := by
  unfold inB
  rw [decide_eq_true h1, decide_eq_true h2]
  rcases h3 with ⟨a, b⟩ | ⟨a, b⟩
  · rw [decide_eq_true a, decide_eq_true b]; rfl
  · rw [decide_eq_false (show ¬ c % 6 < w / 2 by omega), decide_eq_false b]; rfl
theorem inB_f (h1 : w ≤ c % 6 ∨ h ≤ c / 6 ∨ (c % 6 < w / 2 ∧ half ≠ 0) ∨ (w / 2 ≤ c % 6 ∧ half = 0)) : inB w h half c = false := by
  unfold inB
  rcases h1 with a | a | ⟨a, b⟩ | ⟨a, b⟩
  · rw [decide_eq_false (show ¬ c % 6 < w by omega)]; rfl
  · rw [decide_eq_false (show ¬ c / 6 < h by omega), Bool.and_false]; rfl
  · rw [decide_eq_true a, decide_eq_false b, Bool.and_eq_false_iff]; exact Or.inr rfl
  · rw [decide_eq_false (show ¬ c % 6 < w / 2 by omega), decide_eq_true b, Bool.and_eq_false_iff]; exact Or.inr rfl
theorem inS_t {f : Int → Int} (h1 : inB w h half c = true) : inS w h half f c = f c := if_pos h1
theorem inS_f {f : Int → Int} (h1 : inB w h half c = false) : inS w h half f c = 0 := if_neg (by rw [h1]; decide)
theorem sumF_in {f : Int → Int} {n : Nat} {v x : Int} (hv : v = sumF (inS w h half f) n) (hc : c = n) (hb : inB w h half c = true) (hx : x = f c) : v + x = sumF (inS w h half f) (n + 1) := by
  show _ = sumF (inS w h half f) n + inS w h half f n
  rw [← hc, inS_t hb, hv, hx]
theorem sumF_out {f : Int → Int} {n : Nat} {v : Int} (hv : v = sumF (inS w h half f) n) (hc : c = n) (hb : inB w h half c = false) : v = sumF (inS w h half f) (n + 1) := by
  show _ = sumF (inS w h half f) n + inS w h half f n
  rw [← hc, inS_f hb, hv, Int.add_zero]
theorem inS_le {f g : Int → Int} (hf : f c ≤ g c) : inS w h half f c ≤ inS w h half g c := by
  unfold inS
  split
  · exact hf
  · exact Int.le_refl _
/-- building so many units, no more than fit -/
theorem fit_b {u : Int} (hs : aI H1 sn c = aI H sn c - u) (hw : aI H1 wl c = aI H wl c + u) (hl : wlm H1 ar lw w c = wlm H ar lw w c) (u0 : 0 ≤ u) (hu : u ≤ fit H sn wl lw ar w c) : fit H1 sn wl lw ar w c = fit H sn wl lw ar w c - u := by
  unfold fit at hu ⊢
  rw [hs, hw, hl]
  omega
theorem fitS_b {u : Int} (hs : OT H H1 sn c) (hw : OT H H1 wl c) (es : aI H1 sn c = aI H sn c - u) (ew : aI H1 wl c = aI H wl c + u) (hl : ∀ z, wlm H1 ar lw w z = wlm H ar lw w z) (u0 : 0 ≤ u) (hu : u ≤ fit H sn wl lw ar w c) (h0 : 0 ≤ c) (h1 : c < 36) (hb : inB w h half c = true) : fitS H1 sn wl lw ar w h half = fitS H sn wl lw ar w h half - u := by
  have e := sumF_pc (f := inS w h half (fit H1 sn wl lw ar w)) (g := inS w h half (fit H sn wl lw ar w)) (c := c) (n := 36) (fun k hk => by
    have e1 : fit H1 sn wl lw ar w k = fit H sn wl lw ar w k := by
      unfold fit
      rw [hs.el (by omega) hk, hw.el (by omega) hk, hl]
    unfold inS
    rw [e1]) h0 (by omega)
  rw [inS_t hb, inS_t hb, fit_b es ew (hl c) u0 hu] at e
  unfold fitS
  omega
theorem fit_le {u : Int} (hu : u ≤ fit H sn wl lw ar w c) (h1 : 1 ≤ u) : u ≤ aI H sn c ∧ u ≤ 99 - aI H wl c ∧ u ≤ wlm H ar lw w c - aI H wl c := by
  unfold fit at hu
  omega
theorem lwh_i {i u : Int} (h : u ≤ lwh H0 ar us half) (h0 : 0 ≤ i) (h1 : i < u) (ea : aI H ar 1 = aI H0 ar 1) (eu : aI H us half = aI H0 us half + i) : 1 ≤ lwh H ar us half := by
  unfold lwh at h ⊢
  rw [ea, eu]
  split
  · omega
  · rename_i hh
    rw [if_neg hh] at h
    omega
theorem lwP_nn {e ic s v : Int} (he : 0 ≤ e) (hs : 0 ≤ s) (hv : 0 ≤ v) : ∀ i, 0 ≤ (lwP e ic s v i).1 ∧ 0 ≤ (lwP e ic s v i).2 := by
  intro i
  induction i with
  | zero => exact ⟨hs, hv⟩
  | succ i ih =>
    show 0 ≤ (lwP e ic s v i).1 - min e (lwP e ic s v i).1 ∧ 0 ≤ (lwP e ic s v i).2 - (if i = 0 ∧ ic = 1 then 0 else min (e - min e (lwP e ic s v i).1) (lwP e ic s v i).2)
    generalize (lwP e ic s v i).1 = p at ih ⊢
    generalize (lwP e ic s v i).2 = q at ih ⊢
    split <;> omega
theorem lwP_day {e ic s v : Int} (he : 0 ≤ e) (hs : 0 ≤ s) (hv : 0 ≤ v) (i : Nat) : (lwP e ic s v (i + 1)).2 ≤ (lwP e ic s v i).2 := by
  have ih := lwP_nn (ic := ic) he hs hv i
  show (lwP e ic s v i).2 - (if i = 0 ∧ ic = 1 then 0 else min (e - min e (lwP e ic s v i).1) (lwP e ic s v i).2) ≤ (lwP e ic s v i).2
  generalize (lwP e ic s v i).1 = p at ih ⊢
  generalize (lwP e ic s v i).2 = q at ih ⊢
  split <;> omega
theorem lwP_mono {e e' ic s v : Int} (he : 0 ≤ e) (hee : e ≤ e') (hs : 0 ≤ s) (hv : 0 ≤ v) : ∀ i, (lwP e' ic s v i).1 ≤ (lwP e ic s v i).1 ∧ (lwP e' ic s v i).2 ≤ (lwP e ic s v i).2 := by
  intro i
  induction i with
  | zero => exact ⟨Int.le_refl _, Int.le_refl _⟩
  | succ i ih =>
    have n1 := lwP_nn (ic := ic) he hs hv i
    have n2 := lwP_nn (e := e') (ic := ic) (by omega) hs hv i
    show (lwP e' ic s v i).1 - min e' (lwP e' ic s v i).1 ≤ (lwP e ic s v i).1 - min e (lwP e ic s v i).1 ∧ (lwP e' ic s v i).2 - (if i = 0 ∧ ic = 1 then 0 else min (e' - min e' (lwP e' ic s v i).1) (lwP e' ic s v i).2) ≤ (lwP e ic s v i).2 - (if i = 0 ∧ ic = 1 then 0 else min (e - min e (lwP e ic s v i).1) (lwP e ic s v i).2)
    generalize (lwP e ic s v i).1 = p at ih n1 ⊢
    generalize (lwP e ic s v i).2 = q at ih n1 ⊢
    generalize (lwP e' ic s v i).1 = p' at ih n2 ⊢
    generalize (lwP e' ic s v i).2 = q' at ih n2 ⊢
    split <;> omega
theorem lwP_ice {e ic s v : Int} (he : 0 ≤ e) (hs : 0 ≤ s) (hv : 0 ≤ v) : ∀ i, (lwP e ic s v i).1 = (lwP e 1 s v i).1 ∧ (lwP e ic s v i).2 ≤ (lwP e 1 s v i).2 := by
  intro i
  induction i with
  | zero => exact ⟨rfl, Int.le_refl _⟩
  | succ i ih =>
    have n1 := lwP_nn (ic := ic) he hs hv i
    have n2 := lwP_nn (ic := 1) he hs hv i
    show (lwP e ic s v i).1 - min e (lwP e ic s v i).1 = (lwP e 1 s v i).1 - min e (lwP e 1 s v i).1 ∧ (lwP e ic s v i).2 - (if i = 0 ∧ ic = 1 then 0 else min (e - min e (lwP e ic s v i).1) (lwP e ic s v i).2) ≤ (lwP e 1 s v i).2 - (if i = 0 ∧ (1 : Int) = 1 then 0 else min (e - min e (lwP e 1 s v i).1) (lwP e 1 s v i).2)
    generalize (lwP e ic s v i).1 = p at ih n1 ⊢
    generalize (lwP e ic s v i).2 = q at ih n1 ⊢
    generalize (lwP e 1 s v i).1 = p' at ih n2 ⊢
    generalize (lwP e 1 s v i).2 = q' at ih n2 ⊢
    split <;> split <;> omega
end YFN
