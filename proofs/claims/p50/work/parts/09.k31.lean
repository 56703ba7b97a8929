-- p50: costOver's rounds
def CR (w h : Int) (ht wt : Int → Int) (r : Nat) (lg : Int) : Prop := WS w h ht wt ∧ (∀ z, BD w h ht wt r z) ∧ (lg = 0 → ∀ z, 0 ≤ z → z < 36 → FPW w h ht wt z) ∧ (r = 37 → lg = 0)
/-- within round r, the cells above this one done -/
def CO (w h : Int) (ht wt : Int → Int) (r : Nat) (lg c : Int) : Prop := WS w h ht wt ∧ (∀ z, BD w h ht wt r z) ∧ (∀ z, c < z → BD w h ht wt (r + 1) z) ∧ (lg = 0 → ∀ z, c < z → z < 36 → FPW w h ht wt z) ∧ (r = 36 → lg = 0)
section ROU
variable {w h c v lg : Int} {ht wt wt' : Int → Int} {r : Nat}
theorem BD.step {u : Int} (hb : ∀ z, BD w h ht wt r z) (q : WFR w h ht wt c v) (h1 : u ≤ v) (L : List Int) (hk : okL w h (c :: L)) (hl : (c :: L).length ≤ r + 1) : u ≤ wtL ht (c :: L) := by
  cases L with
  | nil =>
    have := q.1 hk.2
    show u ≤ stp (ht c) 0 * 64 + 1
    omega
  | cons d L =>
    have h2 := hb d L hk.2.2 (by have : (c :: d :: L).length = (d :: L).length + 1 := rfl; omega)
    have h3 := q.2.1 d (okL_hd hk.2.2) hk.2.1
    show u ≤ stp (ht c) (ht d) * 64 + 1 + wtL ht (d :: L)
    omega
theorem CR.start (hw : ∀ z, 0 ≤ z → z < 36 → wt z = 268435456) : CR w h ht wt 0 1 :=
  ⟨fun z h0 h1 => Or.inl (hw z h0 h1), fun z L _ hl => absurd hl (Nat.not_succ_le_zero _), fun q => absurd q (by decide), fun q => absurd q (by decide)⟩
theorem CO.start (q : CR w h ht wt r lg) : CO w h ht wt r 0 35 :=
  ⟨q.1, q.2.1, fun z hz L hk _ => absurd (okL_hd hk).2.1 (by omega), fun _ z h0 h1 => by omega, fun _ => rfl⟩
theorem CO.skip (q : CO w h ht wt r lg c) (hW : HC w h c → WFR w h ht wt c v) (hv : wt c ≤ v) : CO w h ht wt r lg (c - 1) := by
  obtain ⟨q1, q2, q3, q4, q5⟩ := q
  refine ⟨q1, q2, fun z hz => ?_, fun hl z hz h1 => ?_, q5⟩
  · by_cases e : z = c
    · rw [e]
      exact fun L hk hl => BD.step q2 (hW (okL_hd hk)) hv L hk hl
    · exact q3 z (by omega)
  · by_cases e : z = c
    · rw [e]
      exact ⟨fun hc he => ((hW hc).fp hv).1 hc he, fun d hc hd ha => ((hW hc).fp hv).2 d hc hd ha⟩
    · exact q4 hl z (by omega) h1
theorem CO.low (q : CO w h ht wt r lg c) (hN : ¬ HC w h c → v = 268435456) (hW : HC w h c → WFR w h ht wt c v) (hv : v < wt c) (hF : wt c ≤ 268435456) (e1 : wt' c = v) (e2 : ∀ z, 0 ≤ z → z ≠ c → wt' z = wt z) : CO w h ht wt' r 1 (c - 1) := by
  obtain ⟨q1, q2, q3, q4, q5⟩ := q
  have hc : HC w h c := by
    by_cases e : HC w h c
    · exact e
    · have := hN e
      omega
  have ha := (hW hc).at (by omega)
  have hle : ∀ z, 0 ≤ z → wt' z ≤ wt z := fun z hz => by
    by_cases e : z = c
    · rw [e, e1]; omega
    · rw [e2 z hz e]; exact Int.le_refl _
  refine ⟨q1.low hc hv hF ha e1 e2, fun z L hk hl => Int.le_trans (hle z (okL_hd hk).1) (q2 z L hk hl), fun z hz => ?_, fun e => absurd e (by decide), fun e => ?_⟩
  · by_cases e : z = c
    · rw [e]
      exact fun L hk hl => BD.step q2 (hW hc) (by omega) L hk hl
    · exact fun L hk hl => Int.le_trans (hle z (okL_hd hk).1) (q3 z (by omega) L hk hl)
  · have hb := q2 c
    rw [e] at hb
    have := BD.full q1 hb hc hF ha
    omega
theorem CO.fin (q : CO w h ht wt r lg (-1)) : CR w h ht wt (r + 1) lg :=
  ⟨q.1, fun z L hk hl => q.2.2.1 z (by have := (okL_hd hk).1; omega) L hk hl, fun e z h0 h1 => q.2.2.2.1 e z (by omega) h1, fun e => q.2.2.2.2 (by omega)⟩
/-- after the rounds no cell can become lighter -/
theorem CR.done (q : CR w h ht wt r lg) (he : lg = 0 ∨ r = 37) : WS w h ht wt ∧ ∀ z, FPW w h ht wt z := by
  have hl : lg = 0 := he.elim id q.2.2.2
  refine ⟨q.1, fun z => ?_⟩
  by_cases e : 0 ≤ z ∧ z < 36
  · exact q.2.2.1 hl z e.1 e.2
  · exact ⟨fun hc _ => absurd ⟨hc.1, hc.2.1⟩ e, fun d hc _ _ => absurd ⟨hc.1, hc.2.1⟩ e⟩
/-- each cell of the yard has a way -/
theorem CR.way (q1 : WS w h ht wt) (q2 : ∀ z, FPW w h ht wt z) (hb : ∀ z, 0 ≤ z → z < 36 → 0 ≤ ht z ∧ ht z ≤ 198) (hw : w ≤ 6) : ∀ (n : Nat) (c : Int), HC w h c → w - 1 - c % 6 = n → wt c ≤ 12673 * (n + 1) := by
  intro n
  induction n with
  | zero =>
    intro c hc e
    have h1 := (q2 c).1 hc (by omega)
    have h2 := stp_bd (hb c hc.1 hc.2.1) (show (0 : Int) ≤ 0 ∧ (0 : Int) ≤ 198 by omega)
    omega
  | succ n ih =>
    intro c hc e
    have hd : HC w h (c + 1) := by
      unfold HC at hc ⊢
      omega
    have h1 := ih (c + 1) hd (by unfold HC at hc; omega)
    have h2 := (q2 c).2 (c + 1) hc hd (by unfold HC at hc; unfold adj; omega)
    have h3 := stp_bd (hb c hc.1 hc.2.1) (hb (c + 1) hd.1 hd.2.1)
    omega
theorem WS.hc (q : WS w h ht wt) (h0 : 0 ≤ c) (h1 : c < 36) (hv : wt c < 268435456) : HC w h c := by
  rcases q c h0 h1 with e | ⟨L, hk, -⟩
  · omega
  · exact okL_hd hk
theorem CR.zero (q1 : WS w h ht wt) (q2 : ∀ z, FPW w h ht wt z) (hb : ∀ z, 0 ≤ z → z < 36 → 0 ≤ ht z ∧ ht z ≤ 198) (h1 : 1 ≤ w) (h2 : w ≤ 6) (h3 : 1 ≤ h) : stp 0 (ht 0) * 64 + wt 0 < 268435456 := by
  have e1 := CR.way q1 q2 hb h2 (w - 1).toNat 0 ⟨by omega, by omega, by omega, by omega⟩ (by omega)
  have e2 := stp_bd (show (0 : Int) ≤ 0 ∧ (0 : Int) ≤ 198 by omega) (hb 0 (by omega) (by omega))
  omega
/-- begin's loop: the best cell of the left edge so far -/
def BGN (w h : Int) (ht wt : Int → Int) (l f b : Int) : Prop := (f = 0 ∧ l = 268435456) ∨ (6 ≤ f ∧ HC w h b ∧ b % 6 = 0 ∧ l = stp 0 (ht b) * 64 + wt b ∧ l < 268435456)
theorem BGN.new {l f b x : Int} (_ : BGN w h ht wt l f b) (ws : WS w h ht wt) (h0 : 0 ≤ f) (h1 : f < 36) (h6 : f % 6 = 0) (hx : x = stp 0 (ht f) * 64 + wt f) (hl : x < l) (hF : l ≤ 268435456) {b2 : Int} (hb : b2 = f) : BGN w h ht wt x (f + 6) b2 := by
  have h2 := stp_nn (a := 0) (b := ht f)
  have hc := ws.hc h0 h1 (by omega)
  rw [hb]
  exact Or.inr ⟨by omega, hc, h6, hx, by omega⟩
theorem BGN.keep {l f b x : Int} (q : BGN w h ht wt l f b) (hz : stp 0 (ht 0) * 64 + wt 0 < 268435456) (hx : x = stp 0 (ht f) * 64 + wt f) (hl : l ≤ x) {b2 : Int} (hb : b2 = b) : BGN w h ht wt l (f + 6) b2 := by
  rw [hb]
  rcases q with ⟨e1, e2⟩ | ⟨e1, e2⟩
  · rw [e1] at hx
    omega
  · exact Or.inr ⟨by omega, e2⟩
theorem BGN.fin {l f b : Int} (q : BGN w h ht wt l f b) (hf : 36 ≤ f) : HC w h b ∧ b % 6 = 0 ∧ l = stp 0 (ht b) * 64 + wt b := by
  rcases q with ⟨e1, -⟩ | ⟨-, e1, e2, e3, -⟩
  · omega
  · exact ⟨e1, e2, e3⟩
end ROU
/-- what Walk knows between calls -/
def WKS (X : xW) (H : Heap) (k hh wt : Nat) : Prop := WS (sI H k (X.1.2 7 4)).toInt (sI H k (X.1.2 7 5)).toInt (aI H hh) (aI H wt) ∧ (∀ z, FPW (sI H k (X.1.2 7 4)).toInt (sI H k (X.1.2 7 5)).toInt (aI H hh) (aI H wt) z) ∧
  HC (sI H k (X.1.2 7 4)).toInt (sI H k (X.1.2 7 5)).toInt (sI H k (X.1.2 7 6)).toInt ∧ (sI H k (X.1.2 7 6)).toInt % 6 = 0 ∧ (sI H k (X.1.2 7 7)).toInt = (stp 0 (aI H hh (sI H k (X.1.2 7 6)).toInt) * 64 + aI H wt (sI H k (X.1.2 7 6)).toInt) / 64
theorem WKS.kp {X : xW} {Γ : Nat → Option Nat} {H H1 : Heap} {gs : List Nat} {k hh wt : Nat} (h : WKS X H k hh wt) (gk : Γ k = some 7) (ghh : Γ hh = some 51) (gwt : Γ wt = some 52) (hk : Kp X Γ gs H H1) (h67 : gs.contains 67 = true) (h69 : gs.contains 69 = true) : WKS X H1 k hh wt := by
  unfold WKS at h ⊢
  rw [kp_I hk gk (ci := 7) (k := 4) rfl (by decide) (gs_any h69 rfl), kp_I hk gk (ci := 7) (k := 5) rfl (by decide) (gs_any h69 rfl), kp_I hk gk (ci := 7) (k := 6) rfl (by decide) (gs_any h67 rfl), kp_I hk gk (ci := 7) (k := 7) rfl (by decide) (gs_any h67 rfl), show aI H1 hh = aI H hh from funext fun _ => aI_kp hk ghh rfl (gs_any h69 rfl), show aI H1 wt = aI H wt from funext fun _ => aI_kp hk gwt rfl (gs_any h67 rfl)]
  exact h
