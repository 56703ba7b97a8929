-- p50: Walk's weights
def dirI (c d : Int) : Int := if d = c + 1 then 0 else if d = c + 6 then 1 else if d = c - 6 then 2 else 3
/-- the least weight by the edge and by the neighbours told so far -/
def WFI (w h : Int) (ht wt : Int → Int) (c l i : Int) : Prop := (0 ≤ l ∧ l ≤ 268435456) ∧ (c % 6 = w - 1 → l ≤ stp (ht c) 0 * 64) ∧ (∀ d, HC w h d → adj c d → dirI c d < i → l ≤ stp (ht c) (ht d) * 64 + wt d) ∧
  (l = 268435456 ∨ (c % 6 = w - 1 ∧ l = stp (ht c) 0 * 64) ∨ ∃ d, HC w h d ∧ adj c d ∧ l = stp (ht c) (ht d) * 64 + wt d)
/-- what weightFrom answers of a cell of the yard -/
def WFR (w h : Int) (ht wt : Int → Int) (c v : Int) : Prop := (c % 6 = w - 1 → v ≤ stp (ht c) 0 * 64 + 1) ∧ (∀ d, HC w h d → adj c d → v ≤ stp (ht c) (ht d) * 64 + wt d + 1) ∧ (v = 268435457 ∨ (c % 6 = w - 1 ∧ v = stp (ht c) 0 * 64 + 1) ∨ ∃ d, HC w h d ∧ adj c d ∧ v = stp (ht c) (ht d) * 64 + wt d + 1)
section WFS
variable {w h c l l2 v i d : Int} {ht wt : Int → Int}
theorem dirI_nn : 0 ≤ dirI c d ∧ dirI c d ≤ 3 := by
  unfold dirI
  omega
theorem dirI_at (hc : HC w h c) (hd : HC w h d) (ha : adj c d) : d % 6 = c % 6 + rR (dirI c d) ∧ d / 6 = c / 6 + rD (dirI c d) ∧ d = c + rR (dirI c d) + rD (dirI c d) * 6 := by
  unfold HC at hc hd
  unfold adj at ha
  unfold rR rD dirI
  omega
theorem WFI.edge (he : c % 6 = w - 1) (hv : v = stp (ht c) 0 * 64) (h1 : v ≤ 268435456) : WFI w h ht wt c v 0 :=
  ⟨⟨by have := stp_nn (a := ht c) (b := 0); omega, h1⟩, fun _ => by omega, fun d _ _ q => by have := (dirI_nn (c := c) (d := d)).1; omega, Or.inr (Or.inl ⟨he, hv⟩)⟩
theorem WFI.far (he : c % 6 ≠ w - 1) : WFI w h ht wt c 268435456 0 :=
  ⟨⟨by decide, by decide⟩, fun q => absurd q he, fun d _ _ q => by have := (dirI_nn (c := c) (d := d)).1; omega, Or.inl rfl⟩
theorem WFI.no (q : WFI w h ht wt c l i) (hc : HC w h c) (hn : ¬ (0 ≤ c % 6 + rR i ∧ c % 6 + rR i < w ∧ 0 ≤ c / 6 + rD i ∧ c / 6 + rD i < h)) : WFI w h ht wt c l (i + 1) := by
  obtain ⟨q1, q2, q3, q4⟩ := q
  refine ⟨q1, q2, fun d hd ha hi => ?_, q4⟩
  by_cases e : dirI c d = i
  · have h1 := dirI_at hc hd ha
    rw [e] at h1
    unfold HC at hd
    exfalso
    apply hn
    omega
  · exact q3 d hd ha (by omega)
theorem WFI.in_ (q : WFI w h ht wt c l i) (hc : HC w h c) (h0 : 0 ≤ i) (h1 : i < 4) (hy : 0 ≤ c % 6 + rR i ∧ c % 6 + rR i < w ∧ 0 ≤ c / 6 + rD i ∧ c / 6 + rD i < h) (hw6 : w ≤ 6 ∧ h ≤ 6) (hd : d = c + rR i + rD i * 6) (hv : v = stp (ht c) (ht d) * 64 + wt d) (hv0 : 0 ≤ v) (ha : l2 ≤ l) (hb : l2 ≤ v) (hc2 : l2 = l ∨ l2 = v) : WFI w h ht wt c l2 (i + 1) := by
  obtain ⟨q1, q2, q3, q4⟩ := q
  have e1 : d % 6 = c % 6 + rR i ∧ d / 6 = c / 6 + rD i ∧ 0 ≤ d ∧ d < 36 := by
    unfold HC at hc
    unfold rR rD at hy hd ⊢
    rcases (show i = 0 ∨ i = 1 ∨ i = 2 ∨ i = 3 by omega) with rfl | rfl | rfl | rfl <;> omega
  have hD : HC w h d := by
    unfold HC
    omega
  have hA : adj c d := by
    unfold adj
    unfold rR rD at e1
    rcases (show i = 0 ∨ i = 1 ∨ i = 2 ∨ i = 3 by omega) with rfl | rfl | rfl | rfl <;> omega
  refine ⟨⟨by omega, by omega⟩, fun z => Int.le_trans ha (q2 z), fun d2 h2 a2 hi => ?_, ?_⟩
  · by_cases e : dirI c d2 = i
    · have h3 := (dirI_at hc h2 a2).2.2
      rw [e] at h3
      have h4 : d2 = d := h3.trans hd.symm
      rw [h4]
      omega
    · exact Int.le_trans ha (q3 d2 h2 a2 (by omega))
  · rcases hc2 with e | e
    · rw [e]; exact q4
    · exact Or.inr (Or.inr ⟨d, hD, hA, by omega⟩)
theorem WFI.fin (q : WFI w h ht wt c l 4) (hv : v = l + 1) : WFR w h ht wt c v := by
  obtain ⟨q1, q2, q3, q4⟩ := q
  refine ⟨fun z => by have := q2 z; omega, fun d hd ha => by have := q3 d hd ha (by have := (dirI_nn (c := c) (d := d)).2; omega); omega, ?_⟩
  rcases q4 with e | ⟨e1, e2⟩ | ⟨d, e1, e2, e3⟩
  · exact Or.inl (by omega)
  · exact Or.inr (Or.inl ⟨e1, by omega⟩)
  · exact Or.inr (Or.inr ⟨d, e1, e2, by omega⟩)
theorem WFR.at (q : WFR w h ht wt c v) (h1 : v ≤ 268435456) : (c % 6 = w - 1 ∧ v = stp (ht c) 0 * 64 + 1) ∨ ∃ d, HC w h d ∧ adj c d ∧ v = stp (ht c) (ht d) * 64 + wt d + 1 := by
  rcases q.2.2 with e | e | e
  · omega
  · exact Or.inl e
  · exact Or.inr e
theorem WFR.fp (q : WFR w h ht wt c v) (h1 : wt c ≤ v) : FPW w h ht wt c := ⟨fun _ z => Int.le_trans h1 (q.1 z), fun d _ hd ha => Int.le_trans h1 (q.2.1 d hd ha)⟩
theorem nb_ok (hc : HC w h c) (h0 : 0 ≤ i) (h1 : i < 4) (hy : 0 ≤ c % 6 + rR i ∧ c % 6 + rR i < w ∧ 0 ≤ c / 6 + rD i ∧ c / 6 + rD i < h) (hw6 : w ≤ 6 ∧ h ≤ 6) (hd : d = c + rR i + rD i * 6) : HC w h d ∧ adj c d := by
  have e1 : d % 6 = c % 6 + rR i ∧ d / 6 = c / 6 + rD i ∧ 0 ≤ d ∧ d < 36 := by
    unfold HC at hc
    unfold rR rD at hy hd ⊢
    rcases (show i = 0 ∨ i = 1 ∨ i = 2 ∨ i = 3 by omega) with rfl | rfl | rfl | rfl <;> omega
  refine ⟨by unfold HC; omega, ?_⟩
  unfold adj
  unfold rR rD at e1
  rcases (show i = 0 ∨ i = 1 ∨ i = 2 ∨ i = 3 by omega) with rfl | rfl | rfl | rfl <;> omega
/-- cellBehind's loop: none of the neighbours told so far fits -/
def CBI (w h : Int) (ht wt : Int → Int) (c i : Int) : Prop := ∀ d, HC w h d → adj c d → dirI c d < i → wt c ≠ stp (ht c) (ht d) * 64 + wt d + 1
theorem CBI.nil : CBI w h ht wt c 0 := fun d _ _ q => by
  have := (dirI_nn (c := c) (d := d)).1
  omega
theorem CBI.no (q : CBI w h ht wt c i) (hc : HC w h c) (hn : ¬ (0 ≤ c % 6 + rR i ∧ c % 6 + rR i < w ∧ 0 ≤ c / 6 + rD i ∧ c / 6 + rD i < h)) : CBI w h ht wt c (i + 1) := fun d hd ha hi => by
  by_cases e : dirI c d = i
  · have h1 := dirI_at hc hd ha
    rw [e] at h1
    unfold HC at hd
    exfalso
    apply hn
    omega
  · exact q d hd ha (by omega)
theorem CBI.ne (q : CBI w h ht wt c i) (hc : HC w h c) (hd : d = c + rR i + rD i * 6) (hne : wt c ≠ stp (ht c) (ht d) * 64 + wt d + 1) : CBI w h ht wt c (i + 1) := fun d2 h2 a2 hi => by
  by_cases e : dirI c d2 = i
  · have h3 := (dirI_at hc h2 a2).2.2
    rw [e] at h3
    rw [h3.trans hd.symm]
    exact hne
  · exact q d2 h2 a2 (by omega)
/-- what cellBehind answers -/
def CBR (w h : Int) (ht wt : Int → Int) (c v : Int) : Prop := (v = -1 ∧ (wt c % 64 = 1 ∨ ∀ d, HC w h d → adj c d → wt c ≠ stp (ht c) (ht d) * 64 + wt d + 1)) ∨ (HC w h v ∧ adj c v ∧ wt c % 64 ≠ 1 ∧ wt c = stp (ht c) (ht v) * 64 + wt v + 1)
theorem CBI.fin (q : CBI w h ht wt c i) (hi : 4 ≤ i) {u : Int} (hu : u = -1) : CBR w h ht wt c u := Or.inl ⟨hu, Or.inr fun d hd ha => q d hd ha (by have := (dirI_nn (c := c) (d := d)).2; omega)⟩
end WFS
