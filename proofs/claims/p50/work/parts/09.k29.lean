-- p50: the way over
def stp (a b : Int) : Int := if a < b then b - a else if 3 < a - b then 2 else 0
def adj (c d : Int) : Prop := (d % 6 = c % 6 ∧ (d / 6 = c / 6 + 1 ∨ d / 6 = c / 6 - 1)) ∨ (d / 6 = c / 6 ∧ (d % 6 = c % 6 + 1 ∨ d % 6 = c % 6 - 1))
/-- ways from a cell to the right edge; what they weigh -/
def okL (w h : Int) : List Int → Prop
  | [] => False
  | [c] => HC w h c ∧ c % 6 = w - 1
  | c :: d :: L => HC w h c ∧ adj c d ∧ okL w h (d :: L)
def wtL (ht : Int → Int) : List Int → Int
  | [] => 0
  | [c] => stp (ht c) 0 * 64 + 1
  | c :: d :: L => stp (ht c) (ht d) * 64 + 1 + wtL ht (d :: L)
def sfx (ht wt : Int → Int) : List Int → Prop
  | [] => True
  | c :: L => wt c ≤ wtL ht (c :: L) ∧ sfx ht wt L
def WIT (w h : Int) (ht wt : Int → Int) (c : Int) : Prop := ∃ L, okL w h (c :: L) ∧ (c :: L).Nodup ∧ wtL ht (c :: L) = wt c ∧ sfx ht wt (c :: L)
def WS (w h : Int) (ht wt : Int → Int) : Prop := ∀ c, 0 ≤ c → c < 36 → wt c = 268435456 ∨ WIT w h ht wt c
def BD (w h : Int) (ht wt : Int → Int) (r : Nat) (c : Int) : Prop := ∀ L, okL w h (c :: L) → (c :: L).length ≤ r → wt c ≤ wtL ht (c :: L)
/-- no lighter by one step more -/
def FPW (w h : Int) (ht wt : Int → Int) (c : Int) : Prop := (HC w h c → c % 6 = w - 1 → wt c ≤ stp (ht c) 0 * 64 + 1) ∧ ∀ d, HC w h c → HC w h d → adj c d → wt c ≤ stp (ht c) (ht d) * 64 + wt d + 1
section WAY
variable {w h c d v : Int} {ht wt wt' : Int → Int} {L M : List Int} {r : Nat}
theorem stp_nn {a b : Int} : 0 ≤ stp a b := by
  unfold stp
  split
  · omega
  · split <;> omega
theorem stp_up {a b : Int} : b ≤ a + stp a b := by
  unfold stp
  split
  · omega
  · split <;> omega
theorem stp_bd {a b : Int} (ha : 0 ≤ a ∧ a ≤ 198) (hb : 0 ≤ b ∧ b ≤ 198) : stp a b ≤ 198 := by
  unfold stp
  split
  · omega
  · split <;> omega
theorem okL_hd (hk : okL w h (c :: L)) : HC w h c := by
  cases L with
  | nil => exact hk.1
  | cons d L => exact hk.1
theorem okL_mem : ∀ (L : List Int), okL w h L → ∀ x ∈ L, HC w h x
  | [], hk, _, _ => False.elim hk
  | [c], hk, x, hx => by
    rw [List.mem_singleton.mp hx]
    exact hk.1
  | c :: d :: L, hk, x, hx => by
    rcases List.mem_cons.mp hx with e | e
    · rw [e]; exact hk.1
    · exact okL_mem (d :: L) hk.2.2 x e
theorem wtL_len : ∀ L : List Int, okL w h L → ∃ K : Int, 0 ≤ K ∧ wtL ht L = 64 * K + L.length
  | [], hk => False.elim hk
  | [c], _ => ⟨stp (ht c) 0, stp_nn, by show stp (ht c) 0 * 64 + 1 = 64 * stp (ht c) 0 + 1; omega⟩
  | c :: d :: L, hk => by
    obtain ⟨K, h0, e⟩ := wtL_len (d :: L) hk.2.2
    refine ⟨K + stp (ht c) (ht d), by have := stp_nn (a := ht c) (b := ht d); omega, ?_⟩
    show stp (ht c) (ht d) * 64 + 1 + wtL ht (d :: L) = 64 * (K + stp (ht c) (ht d)) + ((d :: L).length + 1 : Nat)
    rw [e]
    omega
theorem sfx_mem : ∀ L : List Int, okL w h L → sfx ht wt L → ∀ x ∈ L, wt x ≤ wtL ht L
  | [], hk, _, _, _ => False.elim hk
  | [c], _, hs, x, hx => by
    rw [List.mem_singleton.mp hx]
    exact hs.1
  | c :: d :: L, hk, hs, x, hx => by
    rcases List.mem_cons.mp hx with e | e
    · rw [e]; exact hs.1
    · have h1 := sfx_mem (d :: L) hk.2.2 hs.2 x e
      have h2 := stp_nn (a := ht c) (b := ht d)
      show wt x ≤ stp (ht c) (ht d) * 64 + 1 + wtL ht (d :: L)
      omega
theorem sfx_le : ∀ L : List Int, (∀ x ∈ L, wt' x ≤ wt x) → sfx ht wt L → sfx ht wt' L
  | [], _, _ => True.intro
  | c :: L, hl, hs => ⟨Int.le_trans (hl c List.mem_cons_self) hs.1, sfx_le L (fun x hx => hl x (List.mem_cons_of_mem _ hx)) hs.2⟩
theorem len_flt (n : Int) : ∀ L : List Int, L.Nodup → L.length ≤ (L.filter fun x => decide (x ≠ n)).length + 1
  | [], _ => Nat.zero_le _
  | c :: L, hn => by
    have hn2 := List.nodup_cons.mp hn
    by_cases e : c = n
    · have hf : L.filter (fun x => decide (x ≠ n)) = L := List.filter_eq_self.mpr fun x hx => decide_eq_true (fun q => hn2.1 (by rw [e, ← q]; exact hx))
      rw [List.filter_cons_of_neg (by simp [e]), hf]
      exact Nat.le_refl _
    · rw [List.filter_cons_of_pos (by simp [e])]
      have := len_flt n L hn2.2
      show L.length + 1 ≤ _ + 1 + 1
      omega
theorem nodup_len : ∀ (n : Nat) (L : List Int), L.Nodup → (∀ x ∈ L, 0 ≤ x ∧ x < n) → L.length ≤ n
  | 0, L, _, hb => by
    cases L with
    | nil => exact Nat.le_refl _
    | cons c L =>
      have := hb c List.mem_cons_self
      omega
  | n + 1, L, hn, hb => by
    have h1 := len_flt (n : Int) L hn
    have h2 := nodup_len n (L.filter fun x => decide (x ≠ (n : Int))) (List.Pairwise.sublist List.filter_sublist hn) fun x hx => by
      obtain ⟨a, b⟩ := List.mem_filter.mp hx
      have c1 := hb x a
      have c2 : x ≠ (n : Int) := of_decide_eq_true b
      omega
    omega
theorem okL_len (hk : okL w h L) (hn : L.Nodup) : L.length ≤ 36 := nodup_len 36 L hn fun x hx => by
  have := okL_mem L hk x hx
  exact ⟨this.1, this.2.1⟩
theorem WIT.bd (q : WIT w h ht wt c) : 1 ≤ wt c := by
  obtain ⟨L, hk, -, e, -⟩ := q
  obtain ⟨K, h0, e2⟩ := wtL_len (ht := ht) _ hk
  have e3 : (c :: L).length = L.length + 1 := rfl
  omega
/-- a cell made lighter has a way of its own -/
theorem WS.cons (ws : WS w h ht wt) (hc : HC w h c) (hv : v < wt c) (hF : wt c ≤ 268435456) (ha : (c % 6 = w - 1 ∧ v = stp (ht c) 0 * 64 + 1) ∨ ∃ d, HC w h d ∧ adj c d ∧ v = stp (ht c) (ht d) * 64 + wt d + 1) : ∃ L, okL w h (c :: L) ∧ (c :: L).Nodup ∧ wtL ht (c :: L) = v ∧ sfx ht wt L := by
  rcases ha with ⟨h1, h2⟩ | ⟨d, h1, h2, h3⟩
  · exact ⟨[], ⟨hc, h1⟩, List.nodup_cons.mpr ⟨List.not_mem_nil, List.nodup_nil⟩, h2.symm, True.intro⟩
  · have h4 := stp_nn (a := ht c) (b := ht d)
    rcases ws d h1.1 h1.2.1 with e | ⟨L, g1, g2, g3, g4⟩
    · omega
    · refine ⟨d :: L, ⟨hc, h2, g1⟩, List.nodup_cons.mpr ⟨fun q => ?_, g2⟩, ?_, g4⟩
      · have := sfx_mem (d :: L) g1 g4 c q
        omega
      · show stp (ht c) (ht d) * 64 + 1 + wtL ht (d :: L) = v
        omega
theorem WS.low (ws : WS w h ht wt) (hc : HC w h c) (hv : v < wt c) (hF : wt c ≤ 268435456) (ha : (c % 6 = w - 1 ∧ v = stp (ht c) 0 * 64 + 1) ∨ ∃ d, HC w h d ∧ adj c d ∧ v = stp (ht c) (ht d) * 64 + wt d + 1) (e1 : wt' c = v) (e2 : ∀ z, 0 ≤ z → z ≠ c → wt' z = wt z) : WS w h ht wt' := by
  have hle : ∀ z, 0 ≤ z → wt' z ≤ wt z := fun z hz => by
    by_cases e : z = c
    · rw [e, e1]; omega
    · rw [e2 z hz e]; exact Int.le_refl _
  obtain ⟨L, g1, g2, g3, g4⟩ := ws.cons hc hv hF ha
  have hm := okL_mem _ g1
  intro z hz hz2
  by_cases e : z = c
  · subst e
    exact Or.inr ⟨L, g1, g2, g3.trans e1.symm, by rw [e1, g3]; exact Int.le_refl _, sfx_le L (fun x hx => hle x (hm x (List.mem_cons_of_mem _ hx)).1) g4⟩
  · rcases ws z hz hz2 with q | ⟨M, m1, m2, m3, m4⟩
    · exact Or.inl ((e2 z hz e).trans q)
    · exact Or.inr ⟨M, m1, m2, m3.trans (e2 z hz e).symm, sfx_le _ (fun x hx => hle x (okL_mem _ m1 x hx).1) m4⟩
/-- a round more -/
theorem BD.next (hb : ∀ z, BD w h ht wt r z) (hf : FPW w h ht wt c) : BD w h ht wt (r + 1) c := fun L hk hl => by
  cases L with
  | nil => exact hf.1 hk.1 hk.2
  | cons d L =>
    have h1 := hb d L hk.2.2 (by have : (c :: d :: L).length = (d :: L).length + 1 := rfl; omega)
    have h2 := hf.2 d hk.1 (okL_hd hk.2.2) hk.2.1
    show wt c ≤ stp (ht c) (ht d) * 64 + 1 + wtL ht (d :: L)
    omega
/-- in the last round none becomes lighter -/
theorem BD.full (ws : WS w h ht wt) (hb : BD w h ht wt 36 c) (hc : HC w h c) (hF : wt c ≤ 268435456) (ha : (c % 6 = w - 1 ∧ v = stp (ht c) 0 * 64 + 1) ∨ ∃ d, HC w h d ∧ adj c d ∧ v = stp (ht c) (ht d) * 64 + wt d + 1) : wt c ≤ v := by
  rcases Int.lt_or_le v (wt c) with hv | hv
  · obtain ⟨L, g1, g2, g3, -⟩ := ws.cons hc hv hF ha
    have := hb L g1 (okL_len g1 g2)
    omega
  · exact hv
/-- the next cell on a way -/
theorem WIT.next (q : WIT w h ht wt c) (hf : ∀ z, FPW w h ht wt z) : (wt c % 64 = 1 ∧ c % 6 = w - 1 ∧ wt c = stp (ht c) 0 * 64 + 1) ∨ (wt c % 64 ≠ 1 ∧ ∃ d, HC w h d ∧ adj c d ∧ wt c = stp (ht c) (ht d) * 64 + wt d + 1) := by
  obtain ⟨L, hk, hn, e, hs⟩ := q
  have hl := okL_len hk hn
  obtain ⟨K, h0, e2⟩ := wtL_len (ht := ht) _ hk
  cases L with
  | nil =>
    have e3 : wtL ht [c] = stp (ht c) 0 * 64 + 1 := rfl
    exact Or.inl ⟨by omega, hk.2, by omega⟩
  | cons d L =>
    have e3 : wtL ht (c :: d :: L) = stp (ht c) (ht d) * 64 + 1 + wtL ht (d :: L) := rfl
    have e4 : (c :: d :: L).length = L.length + 2 := rfl
    have h1 := hs.2.1
    have h2 := (hf c).2 d hk.1 (okL_hd hk.2.2) hk.2.1
    exact Or.inr ⟨by omega, d, okL_hd hk.2.2, hk.2.1, by omega⟩
end WAY
