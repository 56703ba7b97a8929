-- texts: tokens, the yard's grammar
section TXT
variable {P : Int → Prop} {b b2 : Nat → Int} {n p q q' s s' : Nat} {k v k' v' : Int}
def isBl (x : Int) : Prop := x = 10 ∨ x = 32
def isLt (x : Int) : Prop := 97 ≤ x ∧ x ≤ 122
def isDg (x : Int) : Prop := 48 ≤ x ∧ x ≤ 57
/-- from p on as long as P goes: to q -/
def Sp (P : Int → Prop) (b : Nat → Int) (n p q : Nat) : Prop := p ≤ q ∧ (∀ i, p ≤ i → i < q → i < n ∧ P (b i)) ∧ ¬ (q < n ∧ P (b q))
theorem Sp.uniq (h : Sp P b n p q) (h' : Sp P b n p q') : q = q' := by
  obtain ⟨a1, a2, a3⟩ := h
  obtain ⟨c1, c2, c3⟩ := h'
  rcases Nat.lt_trichotomy q q' with h | h | h
  · exact absurd (c2 q a1 h) a3
  · exact h
  · exact absurd (a2 q' c1 h) c3
theorem Sp.le (h : Sp P b n p q) (hp : p ≤ n) : q ≤ n := by
  by_cases e : q ≤ n
  · exact e
  · have := (h.2.1 (q - 1) (by omega) (by omega)).1
    omega
/-- a word's letters as a number by β; a number's digits -/
def cdN (β : Int) (b : Nat → Int) (s : Nat) : Nat → Int
  | 0 => 0
  | j + 1 => cdN β b s j * β + (b (s + j) - 96)
def nmN (b : Nat → Int) (s : Nat) : Nat → Int
  | 0 => 0
  | j + 1 => nmN b s j * 10 + (b (s + j) - 48)
/-- letters 1 to 26 -/
def LtR (b : Nat → Int) (s m : Nat) : Prop := ∀ j, j < m → 1 ≤ b (s + j) - 96 ∧ b (s + j) - 96 ≤ 26
theorem cdN_nn {β : Int} (hβ : 27 ≤ β) : ∀ m, LtR b s m → 0 ≤ cdN β b s m ∧ (0 < m → 1 ≤ cdN β b s m) := by
  intro m
  induction m with
  | zero => intro _; exact ⟨Int.le_refl _, fun h => absurd h (Nat.lt_irrefl _)⟩
  | succ m ih =>
    intro h
    have h1 := ih (fun j hj => h j (by omega))
    have h2 := h m (by omega)
    have e : cdN β b s (m + 1) = cdN β b s m * β + (b (s + m) - 96) := rfl
    have h3 : 0 ≤ cdN β b s m * β := Int.mul_nonneg h1.1 (by omega)
    exact ⟨by omega, fun _ => by omega⟩
/-- words of letters are known by their numbers -/
theorem cdN_inj {β : Int} (hβ : 27 ≤ β) : ∀ m m' : Nat, LtR b s m → LtR b2 s' m' → cdN β b s m = cdN β b2 s' m' → m = m' ∧ ∀ j, j < m → b (s + j) = b2 (s' + j) := by
  intro m
  induction m with
  | zero =>
    intro m' _ h' e
    cases m' with
    | zero => exact ⟨rfl, fun j hj => absurd hj (Nat.not_lt_zero _)⟩
    | succ m' =>
      have := (cdN_nn hβ (m' + 1) h').2 (Nat.succ_pos _)
      have e0 : cdN β b s 0 = 0 := rfl
      omega
  | succ m ih =>
    intro m' h h' e
    cases m' with
    | zero =>
      have := (cdN_nn hβ (m + 1) h).2 (Nat.succ_pos _)
      have e0 : cdN β b2 s' 0 = 0 := rfl
      omega
    | succ m' =>
      have e1 : cdN β b s (m + 1) = cdN β b s m * β + (b (s + m) - 96) := rfl
      have e2 : cdN β b2 s' (m' + 1) = cdN β b2 s' m' * β + (b2 (s' + m') - 96) := rfl
      have r1 := h m (by omega)
      have r2 := h' m' (by omega)
      have e3 : β * (cdN β b s m - cdN β b2 s' m') = (b2 (s' + m') - 96) - (b (s + m) - 96) := by
        rw [Int.mul_sub, Int.mul_comm β, Int.mul_comm β]
        omega
      have e4 : cdN β b s m - cdN β b2 s' m' = 0 := by
        rcases (show cdN β b s m - cdN β b2 s' m' = 0 ∨ 1 ≤ cdN β b s m - cdN β b2 s' m' ∨ cdN β b s m - cdN β b2 s' m' ≤ -1 by omega) with h | h | h
        · exact h
        · have := Int.mul_le_mul_of_nonneg_left h (show (0 : Int) ≤ β by omega)
          omega
        · have := Int.mul_le_mul_of_nonneg_left h (show (0 : Int) ≤ β by omega)
          omega
      rw [e4, Int.mul_zero] at e3
      obtain ⟨f1, f2⟩ := ih m' (fun j hj => h j (by omega)) (fun j hj => h' j (by omega)) (by omega)
      subst f1
      refine ⟨rfl, fun j hj => ?_⟩
      by_cases hjm : j = m
      · subst hjm; omega
      · exact f2 j (by omega)
theorem cdN_congr {β : Int} : ∀ m : Nat, (∀ j, j < m → b (s + j) = b2 (s' + j)) → cdN β b s m = cdN β b2 s' m := by
  intro m
  induction m with
  | zero => intro _; rfl
  | succ m ih =>
    intro h
    show cdN β b s m * β + _ = cdN β b2 s' m * β + _
    rw [ih (fun j hj => h j (by omega)), h m (by omega)]
/-- two words' numbers by one base are the same just if they are by another -/
theorem cdN_iff {β γ : Int} (hβ : 27 ≤ β) (hγ : 27 ≤ γ) {m m' : Nat} (h : LtR b s m) (h' : LtR b2 s' m') : cdN β b s m = cdN β b2 s' m' ↔ cdN γ b s m = cdN γ b2 s' m' := by
  constructor
  · intro e
    obtain ⟨rfl, f⟩ := cdN_inj hβ m m' h h' e
    exact cdN_congr m f
  · intro e
    obtain ⟨rfl, f⟩ := cdN_inj hγ m m' h h' e
    exact cdN_congr m f
theorem cdN_bd : ∀ m, LtR b s m → cdN 27 b s m < 27 ^ m := by
  intro m
  induction m with
  | zero =>
    intro _
    show (0 : Int) < 27 ^ 0
    decide
  | succ m ih =>
    intro h
    have h1 := ih (fun j hj => h j (by omega))
    have h2 := h m (by omega)
    have e : cdN 27 b s (m + 1) = cdN 27 b s m * 27 + (b (s + m) - 96) := rfl
    rw [e, Int.pow_succ]
    omega
/-- a token from byte p on: its kind, its number (by 27), by 32, where it begins, where it ends -/
def TK (b : Nat → Int) (n p : Nat) (k v w : Int) (s q : Nat) : Prop := Sp isBl b n p s ∧ ((n ≤ s ∧ k = 0) ∨ (s < n ∧ isLt (b s) ∧ k = 2 ∧ Sp isLt b n s q ∧ v = (if q - s ≤ 8 then cdN 27 b s (q - s) else 0) ∧ w = (if q - s ≤ 8 then cdN 32 b s (q - s) else -1)) ∨ (s < n ∧ isDg (b s) ∧ Sp isDg b n s q ∧ ((q - s ≤ 4 ∧ k = 3 ∧ v = nmN b s (q - s)) ∨ (4 < q - s ∧ k = 1))) ∨ (s < n ∧ ¬ isLt (b s) ∧ ¬ isDg (b s) ∧ q = s + 1 ∧ ((59 ≤ b s ∧ b s ≤ 62 ∧ k = b s) ∨ (¬ (59 ≤ b s ∧ b s ≤ 62) ∧ k = 1))))
theorem Sp.ltR (h : Sp isLt b n s q) : LtR b s (q - s) := fun j hj => by
  have := (h.2.1 (s + j) (by omega) (by omega)).2
  unfold isLt at this
  omega
/-- the Words' letters -/
def kwL : List (List Int) := [[119, 105, 100, 101], [104, 105, 103, 104], [115, 99, 104, 111, 111, 108], [104, 97, 110, 100, 115], [115, 110, 111, 119], [100, 101, 101, 112], [119, 97, 108, 108], [116, 97, 108, 108], [115, 117, 110], [98, 121], [110, 111], [97, 98, 111, 118, 101], [98, 117, 105, 108, 100], [98, 101, 104, 105, 110, 100], [115, 116, 101, 97, 108], [105, 99, 101], [102, 97, 108, 108], [116, 104, 97, 119], [115, 116, 111, 114, 109], [116, 111], [110, 105, 103, 104, 116], [102, 114, 111, 109], [119, 104, 101, 110], [100, 97, 121], [98, 114, 101, 97, 99, 104], [119, 97, 121], [108, 111, 111, 112], [101, 110, 100], [115, 116, 111, 112]]
def kl (j : Nat) : Nat → Int := fun i => (kwL.getD j []).getD i 0
def km (j : Nat) : Nat := (kwL.getD j []).length
def kw (j : Nat) : Int := (kwN j).toInt
def k3 (j : Nat) : Int := cdN 32 (kl j) 0 (km j)
theorem kl_ok : ∀ j, j < 29 → (∀ i, i < km j → 1 ≤ kl j (0 + i) - 96 ∧ kl j (0 + i) - 96 ≤ 26) ∧ km j ≤ 8 ∧ 1 ≤ km j ∧ cdN 27 (kl j) 0 (km j) = kw j := by decide +kernel
theorem kw_dist : ∀ i, i < 29 → ∀ j, j < 29 → kw i = kw j → i = j := by decide +kernel
/-- a word is one of the Words by 27 just if it is by 32 -/
theorem TK.kw {w : Int} {j : Nat} (h : TK b n p 2 v w s q) (hj : j < 29) : v = kw j ↔ w = k3 j := by
  obtain ⟨k1, k2, k0, k4⟩ := kl_ok j hj
  have kk := cdN_nn (b := kl j) (s := 0) (β := 27) (by decide) (km j) k1
  have kk3 := cdN_nn (b := kl j) (s := 0) (β := 32) (by decide) (km j) k1
  rcases h.2 with ⟨-, h⟩ | ⟨h1, h2, -, h3, h4, h5⟩ | ⟨-, -, -, h⟩ | ⟨-, -, -, -, h⟩
  · exact absurd h (by decide)
  · by_cases e : q - s ≤ 8
    · rw [if_pos e] at h4 h5
      rw [h4, h5, ← k4]
      exact cdN_iff (by decide) (by decide) h3.ltR k1
    · rw [if_neg e] at h4 h5
      rw [h4, h5]
      unfold k3
      omega
  · omega
  · omega
/-- two words that are not too long are the same by 27 just if they are by 32 -/
theorem TK.nm {w w' : Int} {p' : Nat} (h : TK b n p 2 v w s q) (h' : TK b n p' 2 v' w' s' q') (hv : v ≠ 0) (hv' : v' ≠ 0) : v = v' ↔ w = w' := by
  have f : ∀ {p s q : Nat} {v w : Int}, TK b n p 2 v w s q → v ≠ 0 → LtR b s (q - s) ∧ v = cdN 27 b s (q - s) ∧ w = cdN 32 b s (q - s) := fun h hv => by
    rcases h.2 with ⟨-, h⟩ | ⟨h1, h2, -, h3, h4, h5⟩ | ⟨-, -, -, h⟩ | ⟨-, -, -, -, h⟩
    · exact absurd h (by decide)
    · rename_i p s q v w
      by_cases e : q - s ≤ 8
      · rw [if_pos e] at h4 h5
        exact ⟨h3.ltR, h4, h5⟩
      · rw [if_neg e] at h4
        exact absurd h4 hv
    · omega
    · omega
  obtain ⟨a1, a2, a3⟩ := f h hv
  obtain ⟨c1, c2, c3⟩ := f h' hv'
  rw [a2, a3, c2, c3]
  exact cdN_iff (by decide) (by decide) a1 c1
theorem TK.uniq {w w' : Int} (h : TK b n p k v w s q) (h' : TK b n p k' v' w' s' q') : k = k' ∧ s = s' ∧ (k ≠ 0 → q = q') ∧ (k = 2 ∨ k = 3 → v = v') ∧ (k = 2 → w = w') := by
  obtain ⟨hb, h⟩ := h
  obtain ⟨hb', h'⟩ := h'
  have es := hb.uniq hb'
  subst es
  rcases h with ⟨a1, a2⟩ | ⟨a1, a2, a3, a4, a5, a6⟩ | ⟨a1, a2, a3, a4⟩ | ⟨a1, a2, a3, a4, a5⟩ <;> rcases h' with ⟨c1, c2⟩ | ⟨c1, c2, c3, c4, c5, c6⟩ | ⟨c1, c2, c3, c4⟩ | ⟨c1, c2, c3, c4, c5⟩
  all_goals first | (exfalso; omega) | skip
  · exact ⟨by omega, rfl, fun h => absurd a2 h, fun h => by omega, fun h => by omega⟩
  · have e := a4.uniq c4
    subst e
    exact ⟨by omega, rfl, fun _ => rfl, fun _ => by rw [a5, c5], fun _ => by rw [a6, c6]⟩
  · unfold isLt at a2; unfold isDg at c2; exfalso; omega
  · exact absurd a2 c2
  · unfold isDg at a2; unfold isLt at c2; exfalso; omega
  · have e := a3.uniq c3
    subst e
    rcases a4 with ⟨a4, a5, a6⟩ | ⟨a4, a5⟩ <;> rcases c4 with ⟨c4, c5, c6⟩ | ⟨c4, c5⟩
    · exact ⟨by omega, rfl, fun _ => rfl, fun _ => by rw [a6, c6], fun h => by omega⟩
    · exfalso; omega
    · exfalso; omega
    · exact ⟨by omega, rfl, fun _ => rfl, fun h => by omega, fun h => by omega⟩
  · exact absurd a2 c3
  · exact absurd c2 a2
  · exact absurd c2 a3
  · exact ⟨by omega, rfl, fun _ => by omega, fun h => by omega, fun h => by omega⟩
/-- the stream of a text's tokens -/
def TKS (b : Nat → Int) (n N : Nat) (pos : Nat → Nat) (kd vl w3 : Nat → Int) : Prop := pos 0 = 0 ∧ (∀ i, i ≤ N → ∃ s, TK b n (pos i) (kd i) (vl i) (w3 i) s (pos (i + 1))) ∧ kd N = 0 ∧ ∀ i, i < N → kd i ≠ 0
end TXT
-- the yard's grammar, a function of the stream
def YSt : Type := Int × Int × Int × Nat × (Int → Int → Int) × (Int → Int)
section GRM
variable (kd vl : Nat → Int)
def okW (j i : Nat) : Prop := kd i = 2 ∧ vl i = kw j
def okN (lo hi : Int) (i : Nat) : Prop := kd i = 3 ∧ lo ≤ vl i ∧ vl i ≤ hi
/-- a word that may be a name -/
def okM (i : Nat) : Prop := kd i = 2 ∧ vl i ≠ 0 ∧ ∀ j, j < 29 → vl i ≠ kw j
/-- a school, its word at i -/
def gSchool (S : YSt) (i : Nat) (S1 : YSt) (i1 : Nat) : Prop := S.2.2.1 < 2 ∧ okM kd vl (i + 1) ∧ (S.2.2.1 = 1 → vl (i + 1) ≠ vl S.2.2.2.1) ∧ okW kd vl 3 (i + 2) ∧ okN kd vl 0 40 (i + 3) ∧ i1 = i + 4 ∧ S1 = (S.1, S.2.1, S.2.2.1 + 1, (if S.2.2.1 = 0 then i + 1 else S.2.2.2.1), S.2.2.2.2.1, S.2.2.2.2.2)
def gHeap (bf : Nat) (what lim : Int) (S : YSt) (i : Nat) (S1 : YSt) (i1 : Nat) : Prop := okN kd vl 0 (S.1 - 1) (i + 1) ∧ okN kd vl 0 (S.2.1 - 1) (i + 2) ∧ S.2.2.2.2.1 what (6 * vl (i + 2) + vl (i + 1)) = 0 ∧ okW kd vl bf (i + 3) ∧ okN kd vl 0 lim (i + 4) ∧ i1 = i + 5 ∧
  S1 = (S.1, S.2.1, S.2.2.1, S.2.2.2.1, (fun a c => if a = what ∧ c = 6 * vl (i + 2) + vl (i + 1) then 1 else S.2.2.2.2.1 a c), S.2.2.2.2.2)
def gLim (bf : Nat) (art lim : Int) (S : YSt) (i : Nat) (S1 : YSt) (i1 : Nat) : Prop := okW kd vl bf (i + 1) ∧ okN kd vl 0 lim (i + 2) ∧ i1 = i + 3 ∧ S1 = (S.1, S.2.1, S.2.2.1, S.2.2.2.1, S.2.2.2.2.1, fun a => if a = art then vl (i + 2) else S.2.2.2.2.2 a)
def gArt (S : YSt) (i : Nat) (S1 : YSt) (i1 : Nat) : Prop := (okW kd vl 6 i ∧ S.2.2.2.2.2 0 = -1 ∧ gLim kd vl 11 0 20 S i S1 i1) ∨ (okW kd vl 12 i ∧ S.2.2.2.2.2 1 = -1 ∧ gLim kd vl 13 1 40 S i S1 i1) ∨ (okW kd vl 15 i ∧ S.2.2.2.2.2 3 = -1 ∧ gLim kd vl 11 3 18 S i S1 i1) ∨ (okW kd vl 14 i ∧ S.2.2.2.2.2 2 = -1 ∧ i1 = i + 1 ∧ S1 = (S.1, S.2.1, S.2.2.1, S.2.2.2.1, S.2.2.2.2.1, fun a => if a = 2 then 0 else S.2.2.2.2.2 a))
def gPart (S : YSt) (i : Nat) (S1 : YSt) (i1 : Nat) : Prop := (okW kd vl 2 i ∧ gSchool kd vl S i S1 i1) ∨ (okW kd vl 4 i ∧ gHeap kd vl 5 0 99 S i S1 i1) ∨ (okW kd vl 6 i ∧ gHeap kd vl 7 1 99 S i S1 i1) ∨ (okW kd vl 8 i ∧ gHeap kd vl 9 2 9 S i S1 i1) ∨ (okW kd vl 10 i ∧ gArt kd vl S (i + 1) S1 i1)
def gAcc : Nat → YSt → Nat → Prop
  | 0, _, _ => False
  | f + 1, S, i => kd i = 0 ∨ ∃ S1 i1, gPart kd vl S i S1 i1 ∧ kd i1 = 59 ∧ gAcc f S1 (i1 + 1)
/-- with the state at the end -/
def gFin : Nat → YSt → Nat → YSt → Prop
  | 0, _, _, _ => False
  | f + 1, S, i, T => (kd i = 0 ∧ T = S) ∨ (kd i ≠ 0 ∧ ∃ S1 i1, gPart kd vl S i S1 i1 ∧ kd i1 = 59 ∧ gFin f S1 (i1 + 1) T)
def gHead (w h : Int) : Prop := okW kd vl 0 0 ∧ okN kd vl 2 6 1 ∧ vl 1 % 2 = 0 ∧ okW kd vl 1 2 ∧ okN kd vl 1 6 3 ∧ kd 4 = 59 ∧ w = vl 1 ∧ h = vl 3
def gYard (w h : Int) : Prop := gHead kd vl w h ∧ gAcc kd vl 1000 (w, h, 0, 0, (fun _ _ => 0), fun _ => -1) 5
end GRM
section GRD
variable {kd vl : Nat → Int} {S S1 S2 : YSt} {i i1 i2 f bf : Nat} {what lim art : Int} {j j' : Nat}
theorem okW_j (h : okW kd vl j i) (h' : okW kd vl j' i) (hj : j < 29) (hj' : j' < 29) : j = j' := kw_dist j hj j' hj' (h.2.symm.trans h'.2)
theorem gSchool_det (h : gSchool kd vl S i S1 i1) (h' : gSchool kd vl S i S2 i2) : S1 = S2 ∧ i1 = i2 := by
  obtain ⟨-, -, -, -, -, a, b⟩ := h
  obtain ⟨-, -, -, -, -, c, d⟩ := h'
  exact ⟨b.trans d.symm, a.trans c.symm⟩
theorem gHeap_det (h : gHeap kd vl bf what lim S i S1 i1) (h' : gHeap kd vl bf what lim S i S2 i2) : S1 = S2 ∧ i1 = i2 := by
  obtain ⟨-, -, -, -, -, a, b⟩ := h
  obtain ⟨-, -, -, -, -, c, d⟩ := h'
  exact ⟨b.trans d.symm, a.trans c.symm⟩
theorem gLim_det (h : gLim kd vl bf art lim S i S1 i1) (h' : gLim kd vl bf art lim S i S2 i2) : S1 = S2 ∧ i1 = i2 := by
  obtain ⟨-, -, a, b⟩ := h
  obtain ⟨-, -, c, d⟩ := h'
  exact ⟨b.trans d.symm, a.trans c.symm⟩
theorem gArt_det (h : gArt kd vl S i S1 i1) (h' : gArt kd vl S i S2 i2) : S1 = S2 ∧ i1 = i2 := by
  rcases h with ⟨w, -, h⟩ | ⟨w, -, h⟩ | ⟨w, -, h⟩ | ⟨w, -, a, b⟩ <;> rcases h' with ⟨w', -, h'⟩ | ⟨w', -, h'⟩ | ⟨w', -, h'⟩ | ⟨w', -, c, d⟩
  all_goals first | (exfalso; exact absurd (okW_j w w' (by decide) (by decide)) (by decide)) | exact gLim_det h h' | exact ⟨b.trans d.symm, a.trans c.symm⟩
theorem gPart_det (h : gPart kd vl S i S1 i1) (h' : gPart kd vl S i S2 i2) : S1 = S2 ∧ i1 = i2 := by
  rcases h with ⟨w, h⟩ | ⟨w, h⟩ | ⟨w, h⟩ | ⟨w, h⟩ | ⟨w, h⟩ <;> rcases h' with ⟨w', h'⟩ | ⟨w', h'⟩ | ⟨w', h'⟩ | ⟨w', h'⟩ | ⟨w', h'⟩
  all_goals first | (exfalso; exact absurd (okW_j w w' (by decide) (by decide)) (by decide)) | exact gSchool_det h h' | exact gHeap_det h h' | exact gArt_det h h'
theorem gAcc_step (h : gPart kd vl S i S1 i1) (h0 : kd i ≠ 0) : gAcc kd vl (f + 1) S i ↔ kd i1 = 59 ∧ gAcc kd vl f S1 (i1 + 1) := by
  constructor
  · rintro (h | ⟨S2, i2, g, g1, g2⟩)
    · exact absurd h h0
    · obtain ⟨rfl, rfl⟩ := gPart_det h g
      exact ⟨g1, g2⟩
  · rintro ⟨g1, g2⟩
    exact Or.inr ⟨S1, i1, h, g1, g2⟩
theorem gAcc_none (h : ∀ S1 i1, ¬ gPart kd vl S i S1 i1) (h0 : kd i ≠ 0) : ¬ gAcc kd vl f S i := by
  cases f with
  | zero => exact id
  | succ f =>
    rintro (h1 | ⟨S2, i2, g, -⟩)
    · exact h0 h1
    · exact h _ _ g
theorem gAcc_end (h0 : kd i = 0) : gAcc kd vl (f + 1) S i := Or.inl h0
theorem gFin_end (h0 : kd i = 0) : gFin kd vl (f + 1) S i S := Or.inl ⟨h0, rfl⟩
theorem gFin_step {T : YSt} (hg : gPart kd vl S i S1 i1) (h0 : kd i ≠ 0) (h59 : kd i1 = 59) (h : gFin kd vl f S1 (i1 + 1) T) : gFin kd vl (f + 1) S i T := Or.inr ⟨h0, S1, i1, hg, h59, h⟩
theorem gFin_det : ∀ (f : Nat) (S : YSt) (i : Nat) (T T' : YSt), gFin kd vl f S i T → gFin kd vl f S i T' → T = T'
  | 0, _, _, _, _, h, _ => False.elim h
  | f + 1, S, i, T, T', h, h' => by
    rcases h with ⟨a, e⟩ | ⟨a, S1, i1, g, -, h⟩
    · rcases h' with ⟨-, e'⟩ | ⟨a', -⟩
      · exact e.trans e'.symm
      · exact absurd a a'
    · rcases h' with ⟨a', -⟩ | ⟨-, S2, i2, g', -, h'⟩
      · exact absurd a' a
      · obtain ⟨e1, e2⟩ := gPart_det g g'
        subst e1 e2
        exact gFin_det f _ _ _ _ h h'
end GRD

-- the class's reader
def bf (H : Heap) (tp : Nat) : Nat → Int := fun j => (sI H tp j).toInt
/-- from p on as far as P goes, so far to q -/
def SpP (P : Int → Prop) (b : Nat → Int) (n p q : Int) : Prop := p ≤ q ∧ ∀ i : Nat, p ≤ (i : Int) → (i : Int) < q → (i : Int) < n ∧ P (b i)
def SpZ (P : Int → Prop) (b : Nat → Int) (n p q : Int) : Prop := SpP P b n p q ∧ ¬ (q < n ∧ P (b q.toNat))
section RDR
variable {P : Int → Prop} {b : Nat → Int} {n p q a : Int}
theorem SpP.nil : SpP P b n p p := ⟨Int.le_refl _, fun i h1 h2 => by omega⟩
theorem SpP.step (h : SpP P b n p q) (h0 : 0 ≤ q) (hn : q < n) (hP : P (b q.toNat)) : SpP P b n p (q + 1) := ⟨by have := h.1; omega, fun i h1 h2 => by
  by_cases e : (i : Int) = q
  · exact ⟨by omega, by rw [show i = q.toNat by omega]; exact hP⟩
  · exact h.2 i h1 (by omega)⟩
theorem SpZ.sp (h : SpZ P b n p q) (h0 : 0 ≤ p) (hn : 0 ≤ n) : Sp P b n.toNat p.toNat q.toNat := ⟨by have := h.1.1; omega, fun i h1 h2 => by
  have := h.1.1
  have h3 := h.1.2 i (by omega) (by omega)
  exact ⟨by omega, h3.2⟩, fun h3 => by
  have := h.1.1
  exact h.2 ⟨by omega, h3.2⟩⟩
theorem SpZ.le (h : SpZ P b n p q) (hp : p ≤ n) (h0 : 0 ≤ p) : q ≤ n := by
  by_cases e : q ≤ n
  · exact e
  · have h1 := h.1.1
    have := (h.1.2 (q - 1).toNat (by omega) (by omega)).1
    omega
end RDR
section RDW
variable {p : Program} {s : State} {m : MethodId} {args : Array Value} {meth : Method} {c : Code} {H H0 H1 H2 : Heap} {cc : ByteArray} {mL : Nat} {own : String} {ret : Option FieldType} {X : xW} {Γ : Nat → Option Nat} {r : Nat} {kd vl : Nat → Int} {N i j : Nat} {gs : List Nat} {v : Value} {a : Nat}
theorem up_Q {o : Option Nat} (h : Up H H1 a j (va_rf o)) : sR H1 a j = o := by
  cases o <;> simp [sR, h.1, va_rf]
theorem kp_J (h : Kp X Γ gs H H1) {a r ci k : Nat} {fts : List xT} (g : Γ a = some r) (hr : kO r = some (ci, fts)) (hk : k < fts.length) (hp : (gs.any fun g => gF g r k) = true) : sJ H1 a (X.1.2 ci k) = sJ H a (X.1.2 ci k) := by
  unfold sJ
  rw [h a r g _ (Or.inr (Or.inr (Or.inr (by rw [hr]; exact ⟨k, hk, hp, rfl⟩))))]
/-- the reader's three rows tell the stream -/
def RDX (X : xW) (Γ : Nat → Option Nat) (H : Heap) (r : Nat) (kd vl : Nat → Int) (N : Nat) : Prop := N ≤ 900 ∧ kd N = 0 ∧ (∀ j, j < N → kd j ≠ 0) ∧ ∃ ks vs ws : Nat, sR H r (X.1.2 4 2) = some ks ∧ sR H r (X.1.2 4 4) = some vs ∧ sR H r (X.1.2 4 5) = some ws ∧ Γ ks = some 26 ∧ Γ vs = some 28 ∧ Γ ws = some 29 ∧
  ∀ j, j ≤ N → (sI H ks j).toInt = kd j ∧ (kd j = 2 ∨ kd j = 3 → (sJ H vs j).toInt = vl j) ∧ ∀ a, (sR H ws j = some a ↔ kd j = 2 ∧ ∃ t, t < 29 ∧ vl j = kw t ∧ a = wad X t)
/-- the token at hand is the row's i-th -/
def RDA (X : xW) (H : Heap) (r i : Nat) : Prop := (sI H r (X.1.2 4 8)).toInt = i ∧ ∀ ks vs ws, sR H r (X.1.2 4 2) = some ks → sR H r (X.1.2 4 4) = some vs → sR H r (X.1.2 4 5) = some ws → sI H r (X.1.2 4 9) = sI H ks i ∧ sJ H r (X.1.2 4 11) = sJ H vs i ∧ sR H r (X.1.2 4 12) = sR H ws i
def CU (X : xW) (Γ : Nat → Option Nat) (H : Heap) (r : Nat) (kd vl : Nat → Int) (N i : Nat) : Prop := Γ r = some 2 ∧ RDX X Γ H r kd vl N ∧ RDA X H r i ∧ i ≤ N
theorem CU.g (h : CU X Γ H r kd vl N i) : Γ r = some 2 := h.1
theorem CU.lt (h : CU X Γ H r kd vl N i) (h0 : kd i ≠ 0) : i < N := by
  have := h.2.2.2
  rcases Nat.lt_or_ge i N with q | q
  · exact q
  · exact absurd (by rw [show i = N by omega]; exact h.2.1.2.1) h0
theorem CU.kk (h : CU X Γ H r kd vl N i) : (sI H r (X.1.2 4 9)).toInt = kd i := by
  obtain ⟨-, ⟨-, -, -, ks, vs, ws, h1, h2, h3, -, -, -, h4⟩, ⟨-, h5⟩, h6⟩ := h
  rw [(h5 ks vs ws h1 h2 h3).1]
  exact (h4 i h6).1
theorem CU.vv (h : CU X Γ H r kd vl N i) (h0 : kd i = 2 ∨ kd i = 3) : (sJ H r (X.1.2 4 11)).toInt = vl i := by
  obtain ⟨-, ⟨-, -, -, ks, vs, ws, h1, h2, h3, -, -, -, h4⟩, ⟨-, h5⟩, h6⟩ := h
  rw [(h5 ks vs ws h1 h2 h3).2.1]
  exact (h4 i h6).2.1 h0
theorem CU.wd (h : CU X Γ H r kd vl N i) (a : Nat) : sR H r (X.1.2 4 12) = some a ↔ kd i = 2 ∧ ∃ t, t < 29 ∧ vl i = kw t ∧ a = wad X t := by
  obtain ⟨-, ⟨-, -, -, ks, vs, ws, h1, h2, h3, -, -, -, h4⟩, ⟨-, h5⟩, h6⟩ := h
  rw [(h5 ks vs ws h1 h2 h3).2.2]
  exact (h4 i h6).2.2 a
theorem CU.isw (h : CU X Γ H r kd vl N i) (E : Ev p s m args meth c cc mL own ret X Γ H0) {o : Option Nat} {t : Nat} (e : sR H r (X.1.2 4 12) = o) (he : o = some (wad X t)) (ht : t < 29) : okW kd vl t i := by
  obtain ⟨h1, t2, h2, h3, h4⟩ := (h.wd _).mp (e.trans he)
  refine ⟨h1, h3.trans ?_⟩
  unfold kw
  rw [wad_inj E ht h2 h4]
theorem CU.nsw (h : CU X Γ H r kd vl N i) {o : Option Nat} {t : Nat} (e : sR H r (X.1.2 4 12) = o) (he : o ≠ some (wad X t)) (ht : t < 29) : ¬ okW kd vl t i := fun q => he (e.symm.trans ((h.wd _).mpr ⟨q.1, t, ht, q.2, rfl⟩))
theorem CU.nam (h : CU X Γ H r kd vl N i) (e : sR H r (X.1.2 4 12) = none) (j : Nat) (hj : j < 29) (h2 : kd i = 2) : vl i ≠ kw j := fun q => by
  have := (h.wd (wad X j)).mpr ⟨h2, j, hj, q, rfl⟩
  rw [e] at this
  cases this
theorem CU.nnm (h : CU X Γ H r kd vl N i) {o : Option Nat} (e : sR H r (X.1.2 4 12) = o) (he : o ≠ none) : ¬ okM kd vl i := fun q => by
  cases o with
  | none => exact he rfl
  | some w =>
    obtain ⟨h1, t, h2, h3, h4⟩ := (h.wd w).mp e
    exact q.2.2 t h2 h3
theorem RDX.kp (h : RDX X Γ H r kd vl N) (gr : Γ r = some 2) (hk : Kp X Γ gs H H1) (h31 : gs.contains 31 = true) : RDX X Γ H1 r kd vl N := by
  obtain ⟨h1, h2, h3, ks, vs, ws, a1, a2, a3, g1, g2, g3, h4⟩ := h
  refine ⟨h1, h2, h3, ks, vs, ws, (kp_R hk gr (ci := 4) (k := 2) rfl (by decide) (gs_any h31 rfl)).trans a1, (kp_R hk gr (ci := 4) (k := 4) rfl (by decide) (gs_any h31 rfl)).trans a2, (kp_R hk gr (ci := 4) (k := 5) rfl (by decide) (gs_any h31 rfl)).trans a3, g1, g2, g3, fun j hj => ?_⟩
  rw [kp_aI hk j g1 rfl (gs_any h31 rfl), kp_aJ hk j g2 rfl (gs_any h31 rfl), kp_aR hk j g3 rfl (gs_any h31 rfl)]
  exact h4 j hj
/-- to the next token -/
theorem CU.next (h : CU X Γ H r kd vl N i) (h0 : kd i ≠ 0) (hk : Kp X Γ gs H H1) (h31 : gs.contains 31 = true) (hA : ∀ j : Nat, (sI H r (X.1.2 4 8)).toInt + 1 = j → j ≤ 900 → RDA X H1 r j) : CU X Γ H1 r kd vl N (i + 1) := by
  have hl := h.lt h0
  obtain ⟨g, hR, hA0, -⟩ := h
  have hN := hR.1
  exact ⟨g, hR.kp g hk h31, hA (i + 1) (by rw [hA0.1]; omega) (by omega), hl⟩
theorem CU.kp (h : CU X Γ H r kd vl N i) (hk : Kp X Γ gs H H1) (h31 : gs.contains 31 = true) (h32 : gs.contains 32 = true) : CU X Γ H1 r kd vl N i := by
  obtain ⟨g, hR, ⟨hA1, hA2⟩, h3⟩ := h
  refine ⟨g, hR.kp g hk h31, ⟨by rw [kp_I hk g (ci := 4) (k := 8) rfl (by decide) (gs_any h32 rfl)]; exact hA1, fun ks vs ws b1 b2 b3 => ?_⟩, h3⟩
  obtain ⟨-, -, -, ks', vs', ws', a1, a2, a3, g1, g2, g3, -⟩ := hR
  have c1 := (kp_R hk g (ci := 4) (k := 2) rfl (by decide) (gs_any h31 rfl)).symm.trans b1
  have c2 := (kp_R hk g (ci := 4) (k := 4) rfl (by decide) (gs_any h31 rfl)).symm.trans b2
  have c3 := (kp_R hk g (ci := 4) (k := 5) rfl (by decide) (gs_any h31 rfl)).symm.trans b3
  have e1 := Option.some.inj (a1.symm.trans c1)
  have e2 := Option.some.inj (a2.symm.trans c2)
  have e3 := Option.some.inj (a3.symm.trans c3)
  subst e1 e2 e3
  rw [kp_I hk g (ci := 4) (k := 9) rfl (by decide) (gs_any h32 rfl), kp_J hk g (ci := 4) (k := 11) rfl (by decide) (gs_any h32 rfl), kp_R hk g (ci := 4) (k := 12) rfl (by decide) (gs_any h32 rfl), kp_aI hk i g1 rfl (gs_any h31 rfl), kp_aJ hk i g2 rfl (gs_any h31 rfl), kp_aR hk i g3 rfl (gs_any h31 rfl)]
  exact hA2 _ _ _ c1 c2 c3
/-- what is written elsewhere -/
theorem CU.ne (h : CU X Γ H r kd vl N i) {k : Nat} (U : Up H H1 a j v) (ga : Γ a = some k) (hk : k ≠ 2 ∧ k ≠ 26 ∧ k ≠ 28 ∧ k ≠ 29) : CU X Γ H1 r kd vl N i := by
  obtain ⟨g, ⟨h1, h2, h3, ks', vs', ws', a1, a2, a3, g1, g2, g3, h4⟩, ⟨hA1, hA2⟩, h5⟩ := h
  have nr : ∀ x y : Nat, ¬ (r = a ∧ x = y) := fun x y q => hk.1 (Option.some.inj (ga.symm.trans (q.1 ▸ g)))
  have n1 : ∀ x y : Nat, ¬ (ks' = a ∧ x = y) := fun x y q => hk.2.1 (Option.some.inj (ga.symm.trans (q.1 ▸ g1)))
  have n2 : ∀ x y : Nat, ¬ (vs' = a ∧ x = y) := fun x y q => hk.2.2.1 (Option.some.inj (ga.symm.trans (q.1 ▸ g2)))
  have n3 : ∀ x y : Nat, ¬ (ws' = a ∧ x = y) := fun x y q => hk.2.2.2 (Option.some.inj (ga.symm.trans (q.1 ▸ g3)))
  refine ⟨g, ⟨h1, h2, h3, ks', vs', ws', (up_nR U (nr _ _)).trans a1, (up_nR U (nr _ _)).trans a2, (up_nR U (nr _ _)).trans a3, g1, g2, g3, fun j' hj => ?_⟩, ⟨by rw [up_nI U (nr _ _)]; exact hA1, fun ks vs ws b1 b2 b3 => ?_⟩, h5⟩
  · rw [up_nI U (n1 _ _), up_nJ U (n2 _ _), up_nR U (n3 _ _)]
    exact h4 j' hj
  · rw [up_nR U (nr _ _)] at b1 b2 b3
    have e1 := Option.some.inj (a1.symm.trans b1)
    have e2 := Option.some.inj (a2.symm.trans b2)
    have e3 := Option.some.inj (a3.symm.trans b3)
    subst e1 e2 e3
    rw [up_nI U (nr _ _), up_nJ U (nr _ _), up_nR U (nr _ _), up_nI U (n1 _ _), up_nJ U (n2 _ _), up_nR U (n3 _ _)]
    exact hA2 _ _ _ b1 b2 b3
theorem RDA.cast (h : RDA X H r i) (e : i = j) : RDA X H r j := e ▸ h
/-- advance's writes -/
theorem RDA.mk {Ha Hb Hc Hd He : Heap} {ks vs ws : Nat} {x y : Int32} {z : Int64} {o : Option Nat} (E : Ev p s m args meth c cc mL own ret X Γ H0) (g : Γ r = some 2) (g1 : Γ ks = some 26) (g2 : Γ vs = some 28) (g3 : Γ ws = some 29) (a1 : sR Ha r (X.1.2 4 2) = some ks) (a2 : sR Ha r (X.1.2 4 4) = some vs) (a3 : sR Ha r (X.1.2 4 5) = some ws) (ht : (sI Ha r (X.1.2 4 8)).toInt = i)
    (e1 : sI Ha ks i = x) (U1 : Up Ha Hb r (X.1.2 4 9) (.int x)) (U2 : Up Hb Hc r (X.1.2 4 10) (.int y)) (e3 : sJ Hc vs i = z) (U3 : Up Hc Hd r (X.1.2 4 11) (.long z)) (e4 : sR Hd ws i = o) (U4 : Up Hd He r (X.1.2 4 12) (va_rf o)) : RDA X He r i := by
  have nf : ∀ (k k' : Nat), k < 17 → k' < 17 → k ≠ k' → ∀ a : Nat, ¬ (r = r ∧ X.1.2 4 k = X.1.2 4 k') := fun k k' h1 h2 h3 _ => ne_f E 4 k k' rfl h1 h2 h3
  have n1 : ∀ x y : Nat, ¬ (ks = r ∧ x = y) := fun x y q => absurd (Option.some.inj (g1.symm.trans (q.1 ▸ g))) (by decide)
  have n2 : ∀ x y : Nat, ¬ (vs = r ∧ x = y) := fun x y q => absurd (Option.some.inj (g2.symm.trans (q.1 ▸ g))) (by decide)
  have n3 : ∀ x y : Nat, ¬ (ws = r ∧ x = y) := fun x y q => absurd (Option.some.inj (g3.symm.trans (q.1 ▸ g))) (by decide)
  have fI : ∀ k, k < 17 → k ≠ 9 → k ≠ 10 → k ≠ 11 → k ≠ 12 → sI He r (X.1.2 4 k) = sI Ha r (X.1.2 4 k) := fun k h1 h2 h3 h4 h5 => by
    rw [up_nI U4 (nf _ _ h1 (by decide) h5 0), up_nI U3 (nf _ _ h1 (by decide) h4 0), up_nI U2 (nf _ _ h1 (by decide) h3 0), up_nI U1 (nf _ _ h1 (by decide) h2 0)]
  have fR : ∀ k, k < 17 → k ≠ 9 → k ≠ 10 → k ≠ 11 → k ≠ 12 → sR He r (X.1.2 4 k) = sR Ha r (X.1.2 4 k) := fun k h1 h2 h3 h4 h5 => by
    rw [up_nR U4 (nf _ _ h1 (by decide) h5 0), up_nR U3 (nf _ _ h1 (by decide) h4 0), up_nR U2 (nf _ _ h1 (by decide) h3 0), up_nR U1 (nf _ _ h1 (by decide) h2 0)]
  refine ⟨by rw [fI 8 (by decide) (by decide) (by decide) (by decide) (by decide)]; exact ht, fun ks' vs' ws' b1 b2 b3 => ?_⟩
  rw [fR _ (by decide) (by decide) (by decide) (by decide) (by decide)] at b1 b2 b3
  have q1 := Option.some.inj (a1.symm.trans b1)
  have q2 := Option.some.inj (a2.symm.trans b2)
  have q3 := Option.some.inj (a3.symm.trans b3)
  subst q1 q2 q3
  refine ⟨?_, ?_, ?_⟩
  · rw [up_nI U4 (nf 9 12 (by decide) (by decide) (by decide) 0), up_nI U3 (nf 9 11 (by decide) (by decide) (by decide) 0), up_nI U2 (nf 9 10 (by decide) (by decide) (by decide) 0), up_I U1, up_nI U4 (n1 _ _), up_nI U3 (n1 _ _), up_nI U2 (n1 _ _), up_nI U1 (n1 _ _), e1]
  · rw [up_nJ U4 (nf 11 12 (by decide) (by decide) (by decide) 0), up_J U3, up_nJ U4 (n2 _ _), up_nJ U3 (n2 _ _), e3]
  · rw [up_Q U4, up_nR U4 (n3 _ _), e4]
end RDW

-- the yard's state as the class parses it
/-- the reader's text has the yard's state: wide, high, schools, the first's name, what is told, the articles -/
def YSC (X : xW) (Γ : Nat → Option Nat) (H : Heap) (yt y : Nat) (vl : Nat → Int) (S : YSt) : Prop := (sI H y (X.1.2 8 0)).toInt = S.1 ∧ (sI H y (X.1.2 8 1)).toInt = S.2.1 ∧ (sI H y (X.1.2 8 2)).toInt = S.2.2.1 ∧ (0 ≤ S.2.2.1 ∧ 0 ≤ S.1 ∧ S.1 ≤ 6 ∧ 0 ≤ S.2.1 ∧ S.2.1 ≤ 6) ∧ (S.2.2.1 ≠ 0 → (sJ H yt (X.1.2 9 4)).toInt = vl S.2.2.2.1) ∧
  (∃ t, sR H yt (X.1.2 9 1) = some t ∧ Γ t = some 42 ∧ ∀ c : Nat, c < 36 → (sI H t c).toInt = S.2.2.2.2.1 0 c) ∧ (∃ t, sR H yt (X.1.2 9 2) = some t ∧ Γ t = some 76 ∧ ∀ c : Nat, c < 36 → (sI H t c).toInt = S.2.2.2.2.1 1 c) ∧ (∃ t, sR H yt (X.1.2 9 3) = some t ∧ Γ t = some 77 ∧ ∀ c : Nat, c < 36 → (sI H t c).toInt = S.2.2.2.2.1 2 c) ∧
  ∃ t, sR H y (X.1.2 8 10) = some t ∧ Γ t = some 34 ∧ ∀ k : Nat, k < 4 → (sI H t k).toInt = S.2.2.2.2.2 k
section YSR
variable {p : Program} {s : State} {m : MethodId} {args : Array Value} {meth : Method} {c : Code} {H H0 H1 H2 : Heap} {cc : ByteArray} {mL : Nat} {own : String} {ret : Option FieldType} {X : xW} {Γ : Nat → Option Nat} {yt y : Nat} {vl : Nat → Int} {S : YSt} {gs : List Nat} {v : Value} {a j : Nat}
theorem YSC.of (h : YSC X Γ H yt y vl S) (e0 : sI H1 y (X.1.2 8 0) = sI H y (X.1.2 8 0)) (e1 : sI H1 y (X.1.2 8 1) = sI H y (X.1.2 8 1)) (e2 : sI H1 y (X.1.2 8 2) = sI H y (X.1.2 8 2)) (e3 : S.2.2.1 ≠ 0 → sJ H1 yt (X.1.2 9 4) = sJ H yt (X.1.2 9 4)) (e4 : ∀ k, k = 1 ∨ k = 2 ∨ k = 3 → sR H1 yt (X.1.2 9 k) = sR H yt (X.1.2 9 k)) (e5 : sR H1 y (X.1.2 8 10) = sR H y (X.1.2 8 10)) (e6 : ∀ t k, Γ t = some k → k = 42 ∨ k = 76 ∨ k = 77 ∨ k = 34 → ∀ j, sI H1 t j = sI H t j) : YSC X Γ H1 yt y vl S := by
  obtain ⟨h0, h1, h2, h3, h4, ⟨t0, a0, b0, c0⟩, ⟨t1, a1, b1, c1⟩, ⟨t2, a2, b2, c2⟩, ⟨t3, a3, b3, c3⟩⟩ := h
  exact ⟨by rw [e0]; exact h0, by rw [e1]; exact h1, by rw [e2]; exact h2, h3, fun q => by rw [e3 q]; exact h4 q, ⟨t0, (e4 1 (Or.inl rfl)).trans a0, b0, fun c hc => by rw [e6 t0 42 b0 (Or.inl rfl)]; exact c0 c hc⟩, ⟨t1, (e4 2 (Or.inr (Or.inl rfl))).trans a1, b1, fun c hc => by rw [e6 t1 76 b1 (Or.inr (Or.inl rfl))]; exact c1 c hc⟩, ⟨t2, (e4 3 (Or.inr (Or.inr rfl))).trans a2, b2, fun c hc => by rw [e6 t2 77 b2 (Or.inr (Or.inr (Or.inl rfl)))]; exact c2 c hc⟩, ⟨t3, e5.trans a3, b3, fun k hk => by rw [e6 t3 34 b3 (Or.inr (Or.inr (Or.inr rfl)))]; exact c3 k hk⟩⟩
theorem YSC.kp (h : YSC X Γ H yt y vl S) (hk : Kp X Γ gs H H1) (g0 : Γ yt = some 3) (g1 : Γ y = some 5) (h33 : gs.contains 33 = true) : YSC X Γ H1 yt y vl S :=
  h.of (kp_I hk g1 (ci := 8) (k := 0) rfl (by decide) (gs_any h33 rfl)) (kp_I hk g1 (ci := 8) (k := 1) rfl (by decide) (gs_any h33 rfl)) (kp_I hk g1 (ci := 8) (k := 2) rfl (by decide) (gs_any h33 rfl)) (fun _ => kp_J hk g0 (ci := 9) (k := 4) rfl (by decide) (gs_any h33 rfl))
    (fun k q => by rcases q with rfl | rfl | rfl <;> exact kp_R hk g0 (ci := 9) rfl (by decide) (gs_any h33 rfl)) (kp_R hk g1 (ci := 8) (k := 10) rfl (by decide) (gs_any h33 rfl)) (fun t k g q j => by rcases q with rfl | rfl | rfl | rfl <;> exact kp_aI hk j g rfl (gs_any h33 rfl))
theorem YSC.ne (h : YSC X Γ H yt y vl S) {k : Nat} (U : Up H H1 a j v) (g0 : Γ yt = some 3) (g1 : Γ y = some 5) (ga : Γ a = some k) (hk : k ≠ 3 ∧ k ≠ 5 ∧ k ≠ 42 ∧ k ≠ 76 ∧ k ≠ 77 ∧ k ≠ 34) : YSC X Γ H1 yt y vl S := by
  have ny : ∀ x z : Nat, ¬ (y = a ∧ x = z) := fun x z q => hk.2.1 (Option.some.inj (ga.symm.trans (q.1 ▸ g1)))
  have nt : ∀ x z : Nat, ¬ (yt = a ∧ x = z) := fun x z q => hk.1 (Option.some.inj (ga.symm.trans (q.1 ▸ g0)))
  refine h.of (up_nI U (ny _ _)) (up_nI U (ny _ _)) (up_nI U (ny _ _)) (fun _ => up_nJ U (nt _ _)) (fun k q => up_nR U (nt _ _)) (up_nR U (ny _ _)) (fun t k' g q j => up_nI U (fun e => ?_))
  have : k' = k := Option.some.inj (g.symm.trans (e.1 ▸ ga))
  omega
/-- a school more -/
theorem YSC.school (h : YSC X Γ H yt y vl S) (E : Ev p s m args meth c cc mL own ret X Γ H0) {x : Int32} {nm : Nat} (U : Up H H1 y (X.1.2 8 2) (.int x)) (g0 : Γ yt = some 3) (g1 : Γ y = some 5) (hx : x.toInt = S.2.2.1 + 1) (hn : (sJ H yt (X.1.2 9 4)).toInt = vl nm) : YSC X Γ H1 yt y vl (S.1, S.2.1, S.2.2.1 + 1, nm, S.2.2.2.2.1, S.2.2.2.2.2) := by
  obtain ⟨h0, h1, h2, h3, h4, ⟨t0, a0, b0, c0⟩, ⟨t1, a1, b1, c1⟩, ⟨t2, a2, b2, c2⟩, ⟨t3, a3, b3, c3⟩⟩ := h
  have nt : ∀ t k x z : Nat, Γ t = some k → k ≠ 5 → ¬ (t = y ∧ x = z) := fun t k x z g q e => q (Option.some.inj (g.symm.trans (e.1 ▸ g1)))
  refine ⟨by rw [up_nI U (ne_f E 8 0 2 rfl (by decide) (by decide) (by decide))]; exact h0, by rw [up_nI U (ne_f E 8 1 2 rfl (by decide) (by decide) (by decide))]; exact h1, by rw [up_I U]; exact hx, ⟨by show 0 ≤ S.2.2.1 + 1; omega, h3.2⟩, fun _ => by rw [up_nJ U (nt _ _ _ _ g0 (by decide))]; exact hn, ⟨t0, (up_nR U (nt _ _ _ _ g0 (by decide))).trans a0, b0, fun c hc => by rw [up_nI U (nt _ _ _ _ b0 (by decide))]; exact c0 c hc⟩, ⟨t1, (up_nR U (nt _ _ _ _ g0 (by decide))).trans a1, b1, fun c hc => by rw [up_nI U (nt _ _ _ _ b1 (by decide))]; exact c1 c hc⟩, ⟨t2, (up_nR U (nt _ _ _ _ g0 (by decide))).trans a2, b2, fun c hc => by rw [up_nI U (nt _ _ _ _ b2 (by decide))]; exact c2 c hc⟩,
    ⟨t3, (up_nR U (ne_f E 8 10 2 rfl (by decide) (by decide) (by decide))).trans a3, b3, fun k hk => by rw [up_nI U (nt _ _ _ _ b3 (by decide))]; exact c3 k hk⟩⟩
/-- the first name, where no school is told yet -/
theorem YSC.name (h : YSC X Γ H yt y vl S) (E : Ev p s m args meth c cc mL own ret X Γ H0) (U : Up H H1 yt (X.1.2 9 4) v) (g0 : Γ yt = some 3) (g1 : Γ y = some 5) (h0 : S.2.2.1 = 0) : YSC X Γ H1 yt y vl S := by
  have ny : ∀ t k x z : Nat, Γ t = some k → k ≠ 3 → ¬ (t = yt ∧ x = z) := fun t k x z g q e => q (Option.some.inj (g.symm.trans (e.1 ▸ g0)))
  refine h.of (up_nI U (ny _ _ _ _ g1 (by decide))) (up_nI U (ny _ _ _ _ g1 (by decide))) (up_nI U (ny _ _ _ _ g1 (by decide))) (fun q => absurd h0 q) (fun k q => ?_) (up_nR U (ny _ _ _ _ g1 (by decide))) (fun t k' g q j => up_nI U (ny _ _ _ _ g (by omega)))
  rcases q with rfl | rfl | rfl <;> exact up_nR U (ne_f E 9 _ 4 rfl (by decide) (by decide) (by decide))
/-- an article told -/
theorem YSC.art (h : YSC X Γ H yt y vl S) {q k : Nat} {x : Int32} {z : Int} (U : Up H H1 q k (.int x)) (g0 : Γ yt = some 3) (g1 : Γ y = some 5) (hq : sR H y (X.1.2 8 10) = some q) (gq : Γ q = some 34) {w : Int} (hk : (k : Int) = w) (hx : x.toInt = z) : YSC X Γ H1 yt y vl (S.1, S.2.1, S.2.2.1, S.2.2.2.1, S.2.2.2.2.1, fun a => if a = w then z else S.2.2.2.2.2 a) := by
  obtain ⟨h0, h1, h2, h3, h4, ⟨t0, a0, b0, c0⟩, ⟨t1, a1, b1, c1⟩, ⟨t2, a2, b2, c2⟩, ⟨t3, a3, b3, c3⟩⟩ := h
  have hh := Option.some.inj (a3.symm.trans hq)
  subst hh
  have nt : ∀ t k x z : Nat, Γ t = some k → k ≠ 34 → ¬ (t = t3 ∧ x = z) := fun t k x z g q e => q (Option.some.inj (g.symm.trans (e.1 ▸ gq)))
  refine ⟨by rw [up_nI U (nt _ _ _ _ g1 (by decide))]; exact h0, by rw [up_nI U (nt _ _ _ _ g1 (by decide))]; exact h1, by rw [up_nI U (nt _ _ _ _ g1 (by decide))]; exact h2, h3, fun q => by rw [up_nJ U (nt _ _ _ _ g0 (by decide))]; exact h4 q, ⟨t0, (up_nR U (nt _ _ _ _ g0 (by decide))).trans a0, b0, fun c hc => by rw [up_nI U (nt _ _ _ _ b0 (by decide))]; exact c0 c hc⟩, ⟨t1, (up_nR U (nt _ _ _ _ g0 (by decide))).trans a1, b1, fun c hc => by rw [up_nI U (nt _ _ _ _ b1 (by decide))]; exact c1 c hc⟩, ⟨t2, (up_nR U (nt _ _ _ _ g0 (by decide))).trans a2, b2, fun c hc => by rw [up_nI U (nt _ _ _ _ b2 (by decide))]; exact c2 c hc⟩,
    ⟨t3, (up_nR U (nt _ _ _ _ g1 (by decide))).trans a3, b3, fun k' hk' => ?_⟩⟩
  by_cases e : k' = k
  · subst e
    rw [up_I U, hx]
    exact (if_pos hk).symm
  · rw [up_nI U (fun q => e q.2)]
    exact (c3 k' hk').trans (if_neg (fun q => e (by omega))).symm
/-- told once -/
theorem YSC.told {f kk : Nat} (h : YSC X Γ H yt y vl S) {q k : Nat} {x : Int32} (U : Up H H1 q k (.int x)) (g0 : Γ yt = some 3) (g1 : Γ y = some 5) {w z : Int} (hf : (f = 1 ∧ kk = 42 ∧ w = 0) ∨ (f = 2 ∧ kk = 76 ∧ w = 1) ∨ (f = 3 ∧ kk = 77 ∧ w = 2)) (hq : sR H yt (X.1.2 9 f) = some q) (gq : Γ q = some kk) (hk : (k : Int) = z) (hx : x.toInt = 1) : YSC X Γ H1 yt y vl (S.1, S.2.1, S.2.2.1, S.2.2.2.1, (fun a c => if a = w ∧ c = z then 1 else S.2.2.2.2.1 a c), S.2.2.2.2.2) := by
  obtain ⟨h0, h1, h2, h3, h4, ⟨t0, a0, b0, c0⟩, ⟨t1, a1, b1, c1⟩, ⟨t2, a2, b2, c2⟩, ⟨t3, a3, b3, c3⟩⟩ := h
  have nt : ∀ t k x z : Nat, Γ t = some k → k ≠ kk → ¬ (t = q ∧ x = z) := fun t k x z g q e => q (Option.some.inj (g.symm.trans (e.1 ▸ gq)))
  have nk : kk ≠ 5 ∧ kk ≠ 3 ∧ kk ≠ 34 := by omega
  have hh : ∀ (t ff : Nat) (ww : Int) (k' : Nat), sR H yt (X.1.2 9 ff) = some t → Γ t = some k' → ((ff = 1 ∧ k' = 42 ∧ ww = 0) ∨ (ff = 2 ∧ k' = 76 ∧ ww = 1) ∨ (ff = 3 ∧ k' = 77 ∧ ww = 2)) → (∀ c : Nat, c < 36 → (sI H t c).toInt = S.2.2.2.2.1 ww c) → ∀ c : Nat, c < 36 → (sI H1 t c).toInt = if ww = w ∧ (c : Int) = z then 1 else S.2.2.2.2.1 ww c := by
    intro t ff ww k' s1 s2 s3 s4 c hc
    by_cases ew : ww = w
    · have ef : ff = f := by omega
      subst ef
      have et := Option.some.inj (s1.symm.trans hq)
      subst et
      by_cases e : c = k
      · subst e
        rw [up_I U, hx]
        exact (if_pos ⟨ew, hk⟩).symm
      · rw [up_nI U (fun q => e q.2)]
        exact (s4 c hc).trans (if_neg (fun q => e (by omega))).symm
    · rw [up_nI U (nt _ _ _ _ s2 (by omega))]
      exact (s4 c hc).trans (if_neg (fun q => ew q.1)).symm
  refine ⟨by rw [up_nI U (nt _ _ _ _ g1 (by omega))]; exact h0, by rw [up_nI U (nt _ _ _ _ g1 (by omega))]; exact h1, by rw [up_nI U (nt _ _ _ _ g1 (by omega))]; exact h2, h3, fun q => by rw [up_nJ U (nt _ _ _ _ g0 (by omega))]; exact h4 q, ⟨t0, (up_nR U (nt _ _ _ _ g0 (by omega))).trans a0, b0, hh t0 1 0 42 a0 b0 (by omega) c0⟩, ⟨t1, (up_nR U (nt _ _ _ _ g0 (by omega))).trans a1, b1, hh t1 2 1 76 a1 b1 (by omega) c1⟩, ⟨t2, (up_nR U (nt _ _ _ _ g0 (by omega))).trans a2, b2, hh t2 3 2 77 a2 b2 (by omega) c2⟩,
    ⟨t3, (up_nR U (nt _ _ _ _ g1 (by omega))).trans a3, b3, fun k' hk' => by rw [up_nI U (nt _ _ _ _ b3 (by omega))]; exact c3 k' hk'⟩⟩
theorem YSC.cell (h : YSC X Γ H yt y vl S) {f kk q : Nat} {w : Int} (hf : (f = 1 ∧ kk = 42 ∧ w = 0) ∨ (f = 2 ∧ kk = 76 ∧ w = 1) ∨ (f = 3 ∧ kk = 77 ∧ w = 2)) (hq : sR H yt (X.1.2 9 f) = some q) {z : Int} (h0 : 0 ≤ z) (h1 : z < 36) : (sI H q z.toNat).toInt = S.2.2.2.2.1 w z := by
  obtain ⟨-, -, -, -, -, ⟨t0, a0, b0, c0⟩, ⟨t1, a1, b1, c1⟩, ⟨t2, a2, b2, c2⟩, -⟩ := h
  have e : ((z.toNat : Nat) : Int) = z := by omega
  rcases hf with ⟨rfl, rfl, rfl⟩ | ⟨rfl, rfl, rfl⟩ | ⟨rfl, rfl, rfl⟩
  · have := Option.some.inj (a0.symm.trans hq); subst this; rw [c0 _ (by omega), e]
  · have := Option.some.inj (a1.symm.trans hq); subst this; rw [c1 _ (by omega), e]
  · have := Option.some.inj (a2.symm.trans hq); subst this; rw [c2 _ (by omega), e]
theorem YSC.article (h : YSC X Γ H yt y vl S) {q : Nat} (hq : sR H y (X.1.2 8 10) = some q) {z : Int} (h0 : 0 ≤ z) (h1 : z < 4) : (sI H q z.toNat).toInt = S.2.2.2.2.2 z := by
  obtain ⟨-, -, -, -, -, -, -, -, ⟨t3, a3, b3, c3⟩⟩ := h
  have := Option.some.inj (a3.symm.trans hq); subst this
  rw [c3 _ (by omega), show ((z.toNat : Nat) : Int) = z by omega]
end YSR
section YSZ
variable {p : Program} {s : State} {m : MethodId} {args : Array Value} {meth : Method} {c : Code} {H H0 H1 H2 : Heap} {cc : ByteArray} {mL : Nat} {own : String} {ret : Option FieldType} {X : xW} {Γ : Nat → Option Nat} {yt y : Nat} {vl : Nat → Int} {S : YSt}
theorem YSC.wide (h : YSC X Γ H yt y vl S) (E : Ev p s m args meth c cc mL own ret X Γ H0) {x : Int32} {z : Int} (U : Up H H1 y (X.1.2 8 0) (.int x)) (g0 : Γ yt = some 3) (g1 : Γ y = some 5) (hx : x.toInt = z) (hz : 0 ≤ z ∧ z ≤ 6) : YSC X Γ H1 yt y vl (z, S.2) := by
  obtain ⟨h0, h1, h2, h3, h4, ⟨t0, a0, b0, c0⟩, ⟨t1, a1, b1, c1⟩, ⟨t2, a2, b2, c2⟩, ⟨t3, a3, b3, c3⟩⟩ := h
  have nt : ∀ t k x z : Nat, Γ t = some k → k ≠ 5 → ¬ (t = y ∧ x = z) := fun t k x z g q e => q (Option.some.inj (g.symm.trans (e.1 ▸ g1)))
  exact ⟨by rw [up_I U]; exact hx, by rw [up_nI U (ne_f E 8 1 0 rfl (by decide) (by decide) (by decide))]; exact h1, by rw [up_nI U (ne_f E 8 2 0 rfl (by decide) (by decide) (by decide))]; exact h2, ⟨h3.1, hz.1, hz.2, h3.2.2.2⟩, fun q => by rw [up_nJ U (nt _ _ _ _ g0 (by decide))]; exact h4 q, ⟨t0, (up_nR U (nt _ _ _ _ g0 (by decide))).trans a0, b0, fun c hc => by rw [up_nI U (nt _ _ _ _ b0 (by decide))]; exact c0 c hc⟩, ⟨t1, (up_nR U (nt _ _ _ _ g0 (by decide))).trans a1, b1, fun c hc => by rw [up_nI U (nt _ _ _ _ b1 (by decide))]; exact c1 c hc⟩, ⟨t2, (up_nR U (nt _ _ _ _ g0 (by decide))).trans a2, b2, fun c hc => by rw [up_nI U (nt _ _ _ _ b2 (by decide))]; exact c2 c hc⟩,
    ⟨t3, (up_nR U (ne_f E 8 10 0 rfl (by decide) (by decide) (by decide))).trans a3, b3, fun k hk => by rw [up_nI U (nt _ _ _ _ b3 (by decide))]; exact c3 k hk⟩⟩
theorem YSC.high (h : YSC X Γ H yt y vl S) (E : Ev p s m args meth c cc mL own ret X Γ H0) {x : Int32} {z : Int} (U : Up H H1 y (X.1.2 8 1) (.int x)) (g0 : Γ yt = some 3) (g1 : Γ y = some 5) (hx : x.toInt = z) (hz : 0 ≤ z ∧ z ≤ 6) : YSC X Γ H1 yt y vl (S.1, z, S.2.2) := by
  obtain ⟨h0, h1, h2, h3, h4, ⟨t0, a0, b0, c0⟩, ⟨t1, a1, b1, c1⟩, ⟨t2, a2, b2, c2⟩, ⟨t3, a3, b3, c3⟩⟩ := h
  have nt : ∀ t k x z : Nat, Γ t = some k → k ≠ 5 → ¬ (t = y ∧ x = z) := fun t k x z g q e => q (Option.some.inj (g.symm.trans (e.1 ▸ g1)))
  exact ⟨by rw [up_nI U (ne_f E 8 0 1 rfl (by decide) (by decide) (by decide))]; exact h0, by rw [up_I U]; exact hx, by rw [up_nI U (ne_f E 8 2 1 rfl (by decide) (by decide) (by decide))]; exact h2, ⟨h3.1, h3.2.1, h3.2.2.1, hz.1, hz.2⟩, fun q => by rw [up_nJ U (nt _ _ _ _ g0 (by decide))]; exact h4 q, ⟨t0, (up_nR U (nt _ _ _ _ g0 (by decide))).trans a0, b0, fun c hc => by rw [up_nI U (nt _ _ _ _ b0 (by decide))]; exact c0 c hc⟩, ⟨t1, (up_nR U (nt _ _ _ _ g0 (by decide))).trans a1, b1, fun c hc => by rw [up_nI U (nt _ _ _ _ b1 (by decide))]; exact c1 c hc⟩, ⟨t2, (up_nR U (nt _ _ _ _ g0 (by decide))).trans a2, b2, fun c hc => by rw [up_nI U (nt _ _ _ _ b2 (by decide))]; exact c2 c hc⟩,
    ⟨t3, (up_nR U (ne_f E 8 10 1 rfl (by decide) (by decide) (by decide))).trans a3, b3, fun k hk => by rw [up_nI U (nt _ _ _ _ b3 (by decide))]; exact c3 k hk⟩⟩
end YSZ

-- the class's tokens, one by one
def KHR (b v : Int) : Prop := (isLt b ∧ v = 2) ∨ (¬ isLt b ∧ isDg b ∧ v = 3) ∨ (¬ isLt b ∧ ¬ isDg b ∧ 59 ≤ b ∧ b ≤ 62 ∧ v = b) ∨ (¬ isLt b ∧ ¬ isDg b ∧ ¬ (59 ≤ b ∧ b ≤ 62) ∧ v = 1)
def PWI (b : Nat → Int) (p q x : Int) : Prop := q - p ≤ 8 → x = cdN 27 b p.toNat (q - p).toNat
def PNI (b : Nat → Int) (p q x : Int) : Prop := q - p ≤ 4 → x = nmN b p.toNat (q - p).toNat
def WOF (X : xW) (o : Option Nat) (z : Int) : Prop := ∀ a, o = some a ↔ ∃ t, t < 29 ∧ z = kw t ∧ a = wad X t
def WDT (X : xW) (k v : Int) (o : Option Nat) : Prop := ∀ a, o = some a ↔ k = 2 ∧ ∃ t, t < 29 ∧ v = kw t ∧ a = wad X t
def TK1 (b : Nat → Int) (n p : Nat) (k v : Int) (q : Nat) : Prop := ∃ s w, TK b n p k v w s q
def RWE (ks vs ws i : Nat) (H H1 : Heap) : Prop := ∀ k, k < i → sI H1 ks k = sI H ks k ∧ sJ H1 vs k = sJ H vs k ∧ sR H1 ws k = sR H ws k
def TSP (X : xW) (H : Heap) (ks vs ws : Nat) (b : Nat → Int) (n i : Nat) (q : Int) : Prop := ∃ pos : Nat → Nat, pos 0 = 0 ∧ (pos i : Int) = q ∧ i ≤ pos i ∧ ∀ k, k < i → (sI H ks k).toInt ≠ 0 ∧ TK1 b n (pos k) (sI H ks k).toInt (sJ H vs k).toInt (pos (k + 1)) ∧ WDT X (sI H ks k).toInt (sJ H vs k).toInt (sR H ws k)
def TSF (X : xW) (H : Heap) (ks vs ws : Nat) (b : Nat → Int) (n : Nat) : Prop := ∃ (N : Nat) (pos : Nat → Nat), N ≤ 900 ∧ pos 0 = 0 ∧ (∀ k, k < N → (sI H ks k).toInt ≠ 0) ∧ (sI H ks N).toInt = 0 ∧ ∀ k, k ≤ N → TK1 b n (pos k) (sI H ks k).toInt (sJ H vs k).toInt (pos (k + 1)) ∧ WDT X (sI H ks k).toInt (sJ H vs k).toInt (sR H ws k)
section TKX
variable {H H0 H1 H2 : Heap} {tp r j : Nat} {a l w x y z p q n s v k : Int} {b : Nat → Int} {X : xW} {Γ : Nat → Option Nat} {ks vs ws i : Nat} {gs : List Nat} {P : Int → Prop}
theorem bf_eq (h : ∀ j, sI H tp j = sI H0 tp j) : bf H tp = bf H0 tp := funext fun j => congrArg Int32.toInt (h j)
theorem BA.get (h : (a < 0 ∨ l ≤ a ∨ 900 ≤ a) ∧ w = -1 ∨ 0 ≤ a ∧ a < l ∧ a < 900 ∧ w = bf H tp a.toNat) (ht : ∀ j, sI H tp j = sI H0 tp j) (h0 : 0 ≤ a) (h1 : a < l) (h2 : a < 900) : w = bf H0 tp a.toNat := by
  rcases h with ⟨h, -⟩ | ⟨-, -, -, h⟩
  · omega
  · rw [h, bf_eq ht]
theorem SpZ.cast {n' p' q' : Int} (h : SpZ P b n p q) (e1 : n = n') (e2 : p = p') (e3 : q = q') : SpZ P b n' p' q' := by
  subst e1 e2 e3
  exact h
theorem SpZ.pos (h : SpZ P b n p q) (hp : p < n) (hP : P (b p.toNat)) : p < q := by
  have := h.1.1
  rcases Int.lt_or_le p q with e | e
  · exact e
  · exact absurd ⟨by omega, by rw [show q = p by omega]; exact hP⟩ h.2
theorem KHR.two (h : KHR w v) (hv : v = 2) : isLt w := by
  rcases h with ⟨h, -⟩ | ⟨-, -, h⟩ | ⟨-, -, h⟩ | ⟨-, -, -, h⟩
  · exact h
  all_goals omega
theorem KHR.three (h : KHR w v) (hv : v = 3) : isDg w := by
  rcases h with ⟨-, h⟩ | ⟨-, h, -⟩ | ⟨-, -, h⟩ | ⟨-, -, -, h⟩
  · omega
  · exact h
  all_goals omega
theorem KHR.other (h : KHR w v) (h2 : v ≠ 2) (h3 : v ≠ 3) : ¬ isLt w ∧ ¬ isDg w ∧ ((59 ≤ w ∧ w ≤ 62 ∧ v = w) ∨ (¬ (59 ≤ w ∧ w ≤ 62) ∧ v = 1)) := by
  rcases h with ⟨-, h⟩ | ⟨-, -, h⟩ | ⟨a, b, h⟩ | ⟨a, b, h⟩
  · exact absurd h h2
  · exact absurd h h3
  · exact ⟨a, b, Or.inl h⟩
  · exact ⟨a, b, Or.inr h⟩
theorem KHR.nz (h : KHR w v) : v ≠ 0 := by
  rcases h with ⟨-, h⟩ | ⟨-, -, h⟩ | ⟨-, -, h⟩ | ⟨-, -, -, h⟩ <;> omega
theorem TK1.oth (h1 : SpZ isBl b n p s) (h2 : s < n) (hK : KHR (b s.toNat) k) (k2 : k ≠ 2) (k3 : k ≠ 3) (hq : q = s + 1) (h0 : 0 ≤ p) : TK1 b n.toNat p.toNat k v q.toNat := by
  have a1 := h1.1.1
  obtain ⟨c1, c2, h⟩ := hK.other k2 k3
  exact ⟨s.toNat, 0, h1.sp h0 (by omega), Or.inr (Or.inr (Or.inr ⟨by omega, c1, c2, by omega, h.imp (fun q => q) (fun q => q)⟩))⟩
theorem SpP.cast (h : SpP P b n p q) (e : q = z) : SpP P b n p z := e ▸ h
theorem KHR.lt (e : x = w) (h : isLt x) (hv : v = 2) : KHR w v := Or.inl ⟨e ▸ h, hv⟩
theorem KHR.dg (e : x = w) (h : ¬ isLt x) (h2 : isDg x) (hv : v = 3) : KHR w v := Or.inr (Or.inl ⟨e ▸ h, e ▸ h2, hv⟩)
theorem KHR.sg (e : x = w) (h : ¬ isLt x) (h2 : ¬ isDg x) (h3 : 59 ≤ x) (h4 : x ≤ 62) (hv : v = x) : KHR w v := Or.inr (Or.inr (Or.inl ⟨e ▸ h, e ▸ h2, e ▸ h3, e ▸ h4, hv.trans e⟩))
theorem KHR.no (e : x = w) (h : ¬ isLt x) (h2 : ¬ isDg x) (h3 : x < 59 ∨ 62 < x) (hv : v = 1) : KHR w v := Or.inr (Or.inr (Or.inr ⟨e ▸ h, e ▸ h2, fun q => by omega, hv⟩))
theorem SpP.ltR (h : SpP isLt b n p q) (h0 : 0 ≤ p) (k : Nat) (hk : (k : Int) ≤ q - p) : LtR b p.toNat k := fun j hj => by
  have := (h.2 (p.toNat + j) (by omega) (by omega)).2
  unfold isLt at this
  omega
theorem pw_step {x x1 bl x2 x3 x4 : Int64} (e1 : x1 = x * 27) (e2 : x2 = x1 + bl) (e3 : x3 = x2 - 97) (e4 : x4 = x3 + 1) (hb : bl.toInt = w) (hw : isLt w) (hxy : x.toInt = y) (h : PWI b p q y) (hwb : w = b q.toNat) (hsp : SpP isLt b n p q) (h0 : 0 ≤ p) : PWI b p (q + 1) x4.toInt := by
  intro h8
  have hpq := hsp.1
  obtain ⟨k, hk⟩ : ∃ k : Nat, (k : Int) = q - p := ⟨(q - p).toNat, by omega⟩
  have hx := hxy.trans (h (by omega))
  rw [show (q - p).toNat = k by omega] at hx
  have hL := hsp.ltR h0 k (by omega)
  have n0 := (cdN_nn (β := 27) (by decide) k hL).1
  have n1 := cdN_bd k hL
  have n2 : (27 : Int) ^ k ≤ 27 ^ 7 := by
    rcases (show k = 0 ∨ k = 1 ∨ k = 2 ∨ k = 3 ∨ k = 4 ∨ k = 5 ∨ k = 6 ∨ k = 7 by omega) with rfl | rfl | rfl | rfl | rfl | rfl | rfl | rfl <;> decide
  have n3 : (27 : Int) ^ 7 = 10460353203 := by decide
  unfold isLt at hw
  have f1 := l_mul e1 rfl (show (27 : Int64).toInt = 27 from by decide) (by omega) (by omega)
  have f2 := l_add e2 f1 hb (by omega) (by omega)
  have f3 := l_sub e3 f2 (show (97 : Int64).toInt = 97 from by decide) (by omega) (by omega)
  have f4 := l_add e4 f3 (show (1 : Int64).toInt = 1 from by decide) (by omega) (by omega)
  rw [show (q + 1 - p).toNat = k + 1 by omega, f4, hx]
  show _ = cdN 27 b p.toNat k * 27 + (b (p.toNat + k) - 96)
  rw [show p.toNat + k = q.toNat by omega, ← hwb]
  omega
theorem nmN_bd (h : SpP isDg b n p q) (h0 : 0 ≤ p) : ∀ k : Nat, (k : Int) ≤ q - p → 0 ≤ nmN b p.toNat k ∧ nmN b p.toNat k + 1 ≤ 10 ^ k := by
  intro k
  induction k with
  | zero => intro _; exact ⟨Int.le_refl _, by show (0 : Int) + 1 ≤ 10 ^ 0; decide⟩
  | succ k ih =>
    intro hk
    have h1 := ih (by omega)
    have h2 := (h.2 (p.toNat + k) (by omega) (by omega)).2
    unfold isDg at h2
    have e : nmN b p.toNat (k + 1) = nmN b p.toNat k * 10 + (b (p.toNat + k) - 48) := rfl
    rw [e, Int.pow_succ]
    omega
theorem PNI.bd (h : PNI b p q x) (hs : SpP isDg b n p q) (h0 : 0 ≤ p) (hq : q - p < 4) : 0 ≤ x ∧ x ≤ 999 := by
  have hpq := hs.1
  have h1 := h (by omega)
  have h2 := nmN_bd hs h0 (q - p).toNat (by omega)
  rw [← h1] at h2
  have : (10 : Int) ^ (q - p).toNat ≤ 1000 := by
    rcases (show (q - p).toNat = 0 ∨ (q - p).toNat = 1 ∨ (q - p).toNat = 2 ∨ (q - p).toNat = 3 by omega) with e | e | e | e <;> rw [e] <;> decide
  omega
theorem PNI.step (h : PNI b p q x) (hs : SpP isDg b n p q) (h0 : 0 ≤ p) (hw : w = b q.toNat) (hq : q - p < 4) (hy : y = x * 10 + w - 48) : PNI b p (q + 1) y := fun _ => by
  have hpq := hs.1
  rw [show (q + 1 - p).toNat = (q - p).toNat + 1 by omega, hy, h (by omega)]
  show _ = nmN b p.toNat (q - p).toNat * 10 + (b (p.toNat + (q - p).toNat) - 48)
  rw [show p.toNat + (q - p).toNat = q.toNat by omega, ← hw]
  omega
theorem PNI.out (h : 4 ≤ q - p) : PNI b p (q + 1) y := fun h4 => by omega
theorem PNI.cast2 (h : PNI b p q x) (e : q = z) (e2 : x = y) : PNI b p z y := by subst e e2; exact h
theorem PNI.cast (h : PNI b p q x) (e : q = z) : PNI b p z x := e ▸ h
theorem PWI.cast (h : PWI b p q x) (e : q = z) : PWI b p z x := e ▸ h
theorem RWE.rf : RWE ks vs ws i H H := fun _ _ => ⟨rfl, rfl, rfl⟩
theorem RWE.up {v : Value} {a j : Nat} (h : RWE ks vs ws i H H1) (U : Up H1 H2 a j v) (hn : i ≤ j ∨ (a ≠ ks ∧ a ≠ vs ∧ a ≠ ws)) : RWE ks vs ws i H H2 := fun k hk => by
  have h1 := h k hk
  rw [up_nI U (fun q => by omega), up_nJ U (fun q => by omega), up_nR U (fun q => by omega)]
  exact h1
theorem RWE.kp (h : RWE ks vs ws i H H1) (hk : Kp X Γ gs H1 H2) (g1 : Γ ks = some 26) (g2 : Γ vs = some 28) (g3 : Γ ws = some 29) (h31 : gs.contains 31 = true) : RWE ks vs ws i H H2 := fun k hi => by
  rw [kp_aI hk k g1 rfl (gs_any h31 rfl), kp_aJ hk k g2 rfl (gs_any h31 rfl), kp_aR hk k g3 rfl (gs_any h31 rfl)]
  exact h k hi
theorem TSP.nil : TSP X H ks vs ws b j 0 0 := ⟨fun _ => 0, rfl, rfl, Nat.le_refl _, fun k hk => absurd hk (Nat.not_lt_zero _)⟩
theorem TSP.ext {He : Heap} {n : Nat} (h : TSP X H ks vs ws b n i p) (hR : RWE ks vs ws i H He) (q : Nat) : ∃ pos : Nat → Nat, pos 0 = 0 ∧ (pos i : Int) = p ∧ pos (i + 1) = q ∧ i ≤ pos i ∧ ∀ k, k < i → (sI He ks k).toInt ≠ 0 ∧ TK1 b n (pos k) (sI He ks k).toInt (sJ He vs k).toInt (pos (k + 1)) ∧ WDT X (sI He ks k).toInt (sJ He vs k).toInt (sR He ws k) := by
  obtain ⟨pos, h1, h2, h3, h4⟩ := h
  refine ⟨fun k => if k ≤ i then pos k else q, by show (if 0 ≤ i then pos 0 else q) = 0; rw [if_pos (Nat.zero_le _)]; exact h1, by show ((if i ≤ i then pos i else q : Nat) : Int) = p; rw [if_pos (Nat.le_refl _)]; exact h2, if_neg (by omega), by show i ≤ (if i ≤ i then pos i else q); rw [if_pos (Nat.le_refl _)]; exact h3, fun k hk => ?_⟩
  obtain ⟨e1, e2, e3⟩ := hR k hk
  rw [e1, e2, e3]
  show _ ∧ TK1 b n (if k ≤ i then pos k else q) _ _ (if k + 1 ≤ i then pos (k + 1) else q) ∧ _
  rw [if_pos (by omega), if_pos (by omega)]
  exact h4 k hk
theorem TSP.step {He : Heap} {n : Nat} (h : TSP X H ks vs ws b n i p) (hR : RWE ks vs ws i H He) (hk : (sI He ks i).toInt ≠ 0) (hT : TK1 b n p.toNat (sI He ks i).toInt (sJ He vs i).toInt q.toNat) (hw : WDT X (sI He ks i).toInt (sJ He vs i).toInt (sR He ws i)) (hq : p < q) : TSP X He ks vs ws b n (i + 1) q := by
  obtain ⟨pos, h1, h2, h3, h4, h5⟩ := h.ext hR q.toNat
  refine ⟨pos, h1, by omega, by omega, fun k hk2 => ?_⟩
  by_cases e : k = i
  · subst e
    rw [h3, show pos k = p.toNat by omega]
    exact ⟨hk, hT, hw⟩
  · exact h5 k (by omega)
theorem TSP.fin {He : Heap} {n : Nat} {q : Nat} (h : TSP X H ks vs ws b n i p) (hR : RWE ks vs ws i H He) (hk : (sI He ks i).toInt = 0) (hT : TK1 b n p.toNat (sI He ks i).toInt (sJ He vs i).toInt q) (hw : WDT X (sI He ks i).toInt (sJ He vs i).toInt (sR He ws i)) (hi : i ≤ 900) : TSF X He ks vs ws b n := by
  obtain ⟨pos, h1, h2, h3, h4, h5⟩ := h.ext hR q
  refine ⟨i, pos, hi, h1, fun k hk => (h5 k hk).1, hk, fun k hk2 => ?_⟩
  by_cases e : k = i
  · subst e
    rw [h3, show pos k = p.toNat by omega]
    exact ⟨hT, hw⟩
  · exact (h5 k (by omega)).2
theorem TSP.lt {n : Nat} (h : TSP X H ks vs ws b n i p) : (i : Int) ≤ p := by
  obtain ⟨pos, h1, h2, h3, -⟩ := h
  omega
theorem TSF.kp {n : Nat} (h : TSF X H ks vs ws b n) (hR : ∀ i, RWE ks vs ws i H H1) : TSF X H1 ks vs ws b n := by
  obtain ⟨N, pos, h1, h2, h3, h4, h5⟩ := h
  refine ⟨N, pos, h1, h2, fun k hk => ?_, ?_, fun k hk => ?_⟩
  · rw [(hR (k + 1) k (by omega)).1]; exact h3 k hk
  · rw [(hR (N + 1) N (by omega)).1]; exact h4
  · obtain ⟨e1, e2, e3⟩ := hR (k + 1) k (by omega)
    rw [e1, e2, e3]
    exact h5 k hk
theorem TK1.word (h1 : SpZ isBl b n p s) (h2 : s < n) (h3 : isLt (b s.toNat)) (h4 : SpZ isLt b n s q) (hv : v = if q - s ≤ 8 then cdN 27 b s.toNat (q - s).toNat else 0) (h0 : 0 ≤ p) : TK1 b n.toNat p.toNat 2 v q.toNat := by
  have a1 := h1.1.1
  have a4 := h4.1.1
  refine ⟨s.toNat, _, h1.sp h0 (by omega), Or.inr (Or.inl ⟨by omega, h3, rfl, h4.sp (by omega) (by omega), ?_, rfl⟩)⟩
  rw [hv, show q.toNat - s.toNat = (q - s).toNat by omega]
  by_cases e : q - s ≤ 8
  · rw [if_pos e, if_pos (by omega)]
  · rw [if_neg e, if_neg (by omega)]
theorem TK1.num (h1 : SpZ isBl b n p s) (h2 : s < n) (h3 : isDg (b s.toNat)) (h4 : SpZ isDg b n s q) (hq : q - s ≤ 4) (hv : v = nmN b s.toNat (q - s).toNat) (h0 : 0 ≤ p) : TK1 b n.toNat p.toNat 3 v q.toNat := by
  have a1 := h1.1.1
  have a4 := h4.1.1
  refine ⟨s.toNat, 0, h1.sp h0 (by omega), Or.inr (Or.inr (Or.inl ⟨by omega, h3, h4.sp (by omega) (by omega), Or.inl ⟨by omega, rfl, ?_⟩⟩))⟩
  rw [hv, show q.toNat - s.toNat = (q - s).toNat by omega]
theorem TK1.long (h1 : SpZ isBl b n p s) (h2 : s < n) (h3 : isDg (b s.toNat)) (h4 : SpZ isDg b n s q) (hq : 4 < q - s) (h0 : 0 ≤ p) : TK1 b n.toNat p.toNat 1 v q.toNat := by
  have a1 := h1.1.1
  have a4 := h4.1.1
  exact ⟨s.toNat, 0, h1.sp h0 (by omega), Or.inr (Or.inr (Or.inl ⟨by omega, h3, h4.sp (by omega) (by omega), Or.inr ⟨by omega, rfl⟩⟩))⟩
theorem TK1.sign (h1 : SpZ isBl b n p s) (h2 : s < n) (h3 : ¬ isLt (b s.toNat)) (h4 : ¬ isDg (b s.toNat)) (h5 : 59 ≤ b s.toNat) (h6 : b s.toNat ≤ 62) (hk : k = b s.toNat) (hq : q = s + 1) (h0 : 0 ≤ p) : TK1 b n.toNat p.toNat k v q.toNat := by
  have a1 := h1.1.1
  exact ⟨s.toNat, 0, h1.sp h0 (by omega), Or.inr (Or.inr (Or.inr ⟨by omega, h3, h4, by omega, Or.inl ⟨h5, h6, hk⟩⟩))⟩
theorem TK1.bad (h1 : SpZ isBl b n p s) (h2 : s < n) (h3 : ¬ isLt (b s.toNat)) (h4 : ¬ isDg (b s.toNat)) (h5 : ¬ (59 ≤ b s.toNat ∧ b s.toNat ≤ 62)) (hk : k = 1) (hq : q = s + 1) (h0 : 0 ≤ p) : TK1 b n.toNat p.toNat k v q.toNat := by
  have a1 := h1.1.1
  exact ⟨s.toNat, 0, h1.sp h0 (by omega), Or.inr (Or.inr (Or.inr ⟨by omega, h3, h4, by omega, Or.inr ⟨h5, hk⟩⟩))⟩
theorem TK1.fin {q : Nat} (h1 : SpZ isBl b n p s) (h2 : n ≤ s) (hk : k = 0) (h0 : 0 ≤ p) (hn : 0 ≤ n) : TK1 b n.toNat p.toNat k v q := by
  have a1 := h1.1.1
  exact ⟨s.toNat, 0, h1.sp h0 hn, Or.inl ⟨by omega, hk⟩⟩
/-- all that start leaves -/
theorem TSF.cu {n : Nat} (h : TSF X H ks vs ws b n) (g : Γ r = some 2) (a1 : sR H r (X.1.2 4 2) = some ks) (a2 : sR H r (X.1.2 4 4) = some vs) (a3 : sR H r (X.1.2 4 5) = some ws) (g1 : Γ ks = some 26) (g2 : Γ vs = some 28) (g3 : Γ ws = some 29) (hA : RDA X H r 0) : ∃ (kd vl w3 : Nat → Int) (pos : Nat → Nat) (N : Nat), TKS b n N pos kd vl w3 ∧ CU X Γ H r kd vl N 0 := by
  obtain ⟨N, pos, h1, h2, h3, h4, h5⟩ := h
  have hw : ∀ k : Nat, ∃ w : Int, k ≤ N → ∃ s, TK b n (pos k) (sI H ks k).toInt (sJ H vs k).toInt w s (pos (k + 1)) := fun k => by
    by_cases e : k ≤ N
    · obtain ⟨s, w, q⟩ := (h5 k e).1
      exact ⟨w, fun _ => ⟨s, q⟩⟩
    · exact ⟨0, fun q => absurd q e⟩
  refine ⟨fun k => (sI H ks k).toInt, fun k => (sJ H vs k).toInt, fun k => Classical.choose (hw k), pos, N, ⟨h2, fun k hk => Classical.choose_spec (hw k) hk, h4, h3⟩, g, ⟨h1, h4, h3, ks, vs, ws, a1, a2, a3, g1, g2, g3, fun j hj => ⟨rfl, fun _ => rfl, (h5 j hj).2⟩⟩, hA, Nat.zero_le _⟩
theorem WOF.some {t : Nat} (ht : t < 29) (hz : z = kw t) : WOF X (some (wad X t)) z := fun a => ⟨fun h => ⟨t, ht, hz, (Option.some.inj h).symm⟩, fun ⟨u, h1, h2, h3⟩ => by
  have := kw_dist t ht u h1 (hz.symm.trans h2)
  subst this
  rw [h3]⟩
theorem WOF.none (h : ∀ t, t < 29 → kw t ≠ z) : WOF X none z := fun a => ⟨fun h => (by cases h), fun ⟨u, h1, h2, h3⟩ => absurd h2.symm (h u h1)⟩
theorem WDT.word {o : Option Nat} (h : WOF X o v) (hk : k = 2) : WDT X k v o := fun a => (h a).trans ⟨fun q => ⟨hk, q⟩, fun q => q.2⟩
theorem WDT.no (hk : k ≠ 2) : WDT X k v none := fun a => ⟨fun h => (by cases h), fun q => absurd q.1 hk⟩
end TKX

-- the class: what parse begins with
def YCL (X : xW) (Γ : Nat → Option Nat) (H : Heap) (y : Nat) : Prop := (sI H y (X.1.2 8 0)).toInt = 2 ∧ (sI H y (X.1.2 8 1)).toInt = 1 ∧ (sI H y (X.1.2 8 2)).toInt = 0 ∧ ∃ t, sR H y (X.1.2 8 10) = some t ∧ Γ t = some 34 ∧ ∀ k : Nat, k < 4 → (sI H t k).toInt = -1
def TZO (X : xW) (Γ : Nat → Option Nat) (H : Heap) (yt f k : Nat) : Prop := ∃ t, sR H yt (X.1.2 9 f) = some t ∧ Γ t = some k ∧ ∀ c : Nat, c < 36 → (sI H t c).toInt = 0
section PAR
variable {H H0 H1 : Heap} {X : xW} {Γ : Nat → Option Nat} {y yt a f k kk : Nat} {gs : List Nat} {kd vl : Nat → Int} {S S1 : YSt} {i i1 : Nat} {v : Value}
theorem YCL.cp (h : YCL X Γ H y) (gy : Γ y = some 5) (U : Cp H H1 a) (ga : Γ a = some k) (hk : k ≠ 5 ∧ k ≠ 34) : YCL X Γ H1 y := by
  obtain ⟨h0, h1, h2, t, a3, b3, c3⟩ := h
  have ny : y ≠ a := fun q => hk.1 (Option.some.inj (ga.symm.trans (q ▸ gy)))
  have nt : t ≠ a := fun q => hk.2 (Option.some.inj (ga.symm.trans (q ▸ b3)))
  exact ⟨by rw [cp_I U ny]; exact h0, by rw [cp_I U ny]; exact h1, by rw [cp_I U ny]; exact h2, t, (cp_R U ny).trans a3, b3, fun q hq => by rw [cp_I U nt]; exact c3 q hq⟩
theorem YCL.kp (h : YCL X Γ H y) (gy : Γ y = some 5) (hk : Kp X Γ gs H H1) (h33 : gs.contains 33 = true) : YCL X Γ H1 y := by
  obtain ⟨h0, h1, h2, t, a3, b3, c3⟩ := h
  exact ⟨by rw [kp_I hk gy (ci := 8) (k := 0) rfl (by decide) (gs_any h33 rfl)]; exact h0, by rw [kp_I hk gy (ci := 8) (k := 1) rfl (by decide) (gs_any h33 rfl)]; exact h1, by rw [kp_I hk gy (ci := 8) (k := 2) rfl (by decide) (gs_any h33 rfl)]; exact h2, t, (kp_R hk gy (ci := 8) (k := 10) rfl (by decide) (gs_any h33 rfl)).trans a3, b3, fun q hq => by rw [kp_aI hk q b3 rfl (gs_any h33 rfl)]; exact c3 q hq⟩
theorem TZO.cp (h : TZO X Γ H yt f k) (gy : Γ yt = some 3) (U : Cp H H1 a) (ga : Γ a = some kk) (hk : kk ≠ 3 ∧ kk ≠ k) : TZO X Γ H1 yt f k := by
  obtain ⟨t, a3, b3, c3⟩ := h
  have ny : yt ≠ a := fun q => hk.1 (Option.some.inj (ga.symm.trans (q ▸ gy)))
  have nt : t ≠ a := fun q => hk.2 (Option.some.inj (ga.symm.trans (q ▸ b3)))
  exact ⟨t, (cp_R U ny).trans a3, b3, fun q hq => by rw [cp_I U nt]; exact c3 q hq⟩
theorem TZO.kp (h : TZO X Γ H yt f k) (gy : Γ yt = some 3) (hk : Kp X Γ gs H H1) (h33 : gs.contains 33 = true) (hf : (f = 1 ∧ k = 42) ∨ (f = 2 ∧ k = 76) ∨ (f = 3 ∧ k = 77)) : TZO X Γ H1 yt f k := by
  obtain ⟨t, a3, b3, c3⟩ := h
  rcases hf with ⟨rfl, rfl⟩ | ⟨rfl, rfl⟩ | ⟨rfl, rfl⟩ <;> exact ⟨t, (kp_R hk gy (ci := 9) rfl (by decide) (gs_any h33 rfl)).trans a3, b3, fun q hq => by rw [kp_aI hk q b3 rfl (gs_any h33 rfl)]; exact c3 q hq⟩
theorem TZO.mk {t : Nat} (gy : Γ yt = some 3) (hq : sR H yt (X.1.2 9 f) = some t) (gt : Γ t = some k) (hk : k ≠ 3) (U : Cp H H1 t) (F : ∀ j, j < 36 → sI H1 t j = 0) : TZO X Γ H1 yt f k := by
  have ny : yt ≠ t := fun q => hk (Option.some.inj (gt.symm.trans (q ▸ gy)))
  exact ⟨t, (cp_R U ny).trans hq, gt, fun c hc => by rw [F c hc]; rfl⟩
theorem YSC.start (h : YCL X Γ H y) (a : TZO X Γ H yt 1 42) (b : TZO X Γ H yt 2 76) (c : TZO X Γ H yt 3 77) : YSC X Γ H yt y vl (2, 1, 0, 0, (fun _ _ => 0), fun _ => -1) := by
  obtain ⟨h0, h1, h2, h3⟩ := h
  exact ⟨h0, h1, h2, ⟨Int.le_refl _, by show (0 : Int) ≤ 2; decide, by show (2 : Int) ≤ 6; decide, by show (0 : Int) ≤ 1; decide, by show (1 : Int) ≤ 6; decide⟩, fun q => absurd rfl q, a, b, c, h3⟩
theorem gPart_lt (h : gPart kd vl S i S1 i1) : i + 2 ≤ i1 := by
  rcases h with ⟨-, -, -, -, -, -, h, -⟩ | ⟨-, -, -, -, -, -, h, -⟩ | ⟨-, -, -, -, -, -, h, -⟩ | ⟨-, -, -, -, -, -, h, -⟩ | ⟨-, h⟩
  · omega
  · omega
  · omega
  · omega
  · rcases h with ⟨-, -, -, -, h, -⟩ | ⟨-, -, -, -, h, -⟩ | ⟨-, -, -, -, h, -⟩ | ⟨-, -, h, -⟩ <;> omega
theorem gPart_wh (h : gPart kd vl S i S1 i1) : S1.1 = S.1 ∧ S1.2.1 = S.2.1 := by
  rcases h with ⟨-, -, -, -, -, -, -, h⟩ | ⟨-, -, -, -, -, -, -, h⟩ | ⟨-, -, -, -, -, -, -, h⟩ | ⟨-, -, -, -, -, -, -, h⟩ | ⟨-, h⟩
  · subst h; exact ⟨rfl, rfl⟩
  · subst h; exact ⟨rfl, rfl⟩
  · subst h; exact ⟨rfl, rfl⟩
  · subst h; exact ⟨rfl, rfl⟩
  · rcases h with ⟨-, -, -, -, -, h⟩ | ⟨-, -, -, -, -, h⟩ | ⟨-, -, -, -, -, h⟩ | ⟨-, -, -, h⟩ <;> subst h <;> exact ⟨rfl, rfl⟩
theorem yard_iff {w h : Int} (hg : gHead kd vl S1.1 S1.2.1) (hS : S1.2.2 = (0, 0, (fun _ _ => 0), fun _ => -1)) : gYard kd vl w h ↔ w = S1.1 ∧ h = S1.2.1 ∧ gAcc kd vl 1000 S1 5 := by
  obtain ⟨a, b, c⟩ := S1
  have hS : c = (0, 0, (fun _ _ => 0), fun _ => -1) := hS
  subst hS
  have ha := hg.2.2.2.2.2.2.1
  have hb := hg.2.2.2.2.2.2.2
  constructor
  · rintro ⟨q1, q2⟩
    have e1 : w = a := q1.2.2.2.2.2.2.1.trans ha.symm
    have e2 : h = b := q1.2.2.2.2.2.2.2.trans hb.symm
    subst e1 e2
    exact ⟨rfl, rfl, q2⟩
  · rintro ⟨e1, e2, q⟩
    have e1 : w = a := e1
    have e2 : h = b := e2
    subst e1 e2
    exact ⟨hg, q⟩
theorem gYard_bd {w h : Int} (q : gYard kd vl w h) : 0 ≤ w ∧ w ≤ 6 ∧ 0 ≤ h ∧ h ≤ 6 := by
  obtain ⟨⟨-, ⟨-, q1, q2⟩, -, -, ⟨-, q3, q4⟩, -, e1, e2⟩, -⟩ := q
  omega
theorem mul_small {x y z : Int32} {a b : Int} (e : z = x * y) (ha : x.toInt = a) (hb : y.toInt = b) (h1 : 0 ≤ a ∧ a ≤ 6 ∧ 0 ≤ b ∧ b ≤ 6) : z.toInt = a * b := by
  have c1 : 0 ≤ a * b := Int.mul_nonneg h1.1 h1.2.2.1
  have c2 : a * b ≤ 6 * 6 := Int.mul_le_mul h1.2.1 h1.2.2.2 h1.2.2.1 (by decide)
  exact i_mul e ha hb (by omega) (by omega)
/-- what parse's round keeps -/
def PIV (X : xW) (Γ : Nat → Option Nat) (H : Heap) (ra yt y : Nat) (kd vl : Nat → Int) (N : Nat) (Si : YSt) (it : Int) : Prop := ∃ (S : YSt) (i f : Nat), CU X Γ H ra kd vl N i ∧ YSC X Γ H yt y vl S ∧ S.1 = Si.1 ∧ S.2.1 = Si.2.1 ∧ (gAcc kd vl f S i ↔ gAcc kd vl 1000 Si 5) ∧ 5 + 2 * it ≤ i ∧ N + 1 ≤ i + f ∧ ∀ T, gFin kd vl f S i T → gFin kd vl 1000 Si 5 T
theorem PIV.start {Si : YSt} {N ra : Nat} (cu : CU X Γ H ra kd vl N 5) (ys : YSC X Γ H yt y vl Si) : PIV X Γ H ra yt y kd vl N Si 0 := ⟨Si, 5, 1000, cu, ys, rfl, rfl, Iff.rfl, by decide, by have := cu.2.1.1; omega, fun _ q => q⟩
theorem PIV.step {Si : YSt} {N ra f : Nat} {it : Int} (hg : gPart kd vl S i S1 i1) (h0 : kd i ≠ 0) (h59 : kd i1 = 59) (cu : CU X Γ H ra kd vl N (i1 + 1)) (ys : YSC X Γ H yt y vl S1) (e1 : S.1 = Si.1) (e2 : S.2.1 = Si.2.1) (ha : gAcc kd vl f S i ↔ gAcc kd vl 1000 Si 5) (h1 : 5 + 2 * it ≤ i) (h2 : N + 1 ≤ i + f) (ht : ∀ T, gFin kd vl f S i T → gFin kd vl 1000 Si 5 T) (hi : i ≤ N) : PIV X Γ H ra yt y kd vl N Si (it + 1) := by
  obtain ⟨f', rfl⟩ : ∃ f', f = f' + 1 := ⟨f - 1, by omega⟩
  have hl := gPart_lt hg
  have hw := gPart_wh hg
  exact ⟨S1, i1 + 1, f', cu, ys, hw.1.trans e1, hw.2.trans e2, (iff_of_eq (by rw [gAcc_step hg h0]; simp [h59])).symm.trans ha, by omega, by omega, fun T q => ht T (gFin_step hg h0 h59 q)⟩
theorem PIV.part {Si : YSt} {N f : Nat} (hg : ∀ S1 i1, ¬ gPart kd vl S i S1 i1) (h0 : kd i ≠ 0) (ha : gAcc kd vl f S i ↔ gAcc kd vl 1000 Si 5) : ¬ gAcc kd vl 1000 Si 5 := fun q => gAcc_none hg h0 (ha.mpr q)
theorem PIV.sign {Si : YSt} {N f : Nat} (hg : gPart kd vl S i S1 i1) (h0 : kd i ≠ 0) (h59 : kd i1 ≠ 59) (ha : gAcc kd vl f S i ↔ gAcc kd vl 1000 Si 5) : ¬ gAcc kd vl 1000 Si 5 := fun q => by
  have q2 := ha.mpr q
  cases f with
  | zero => exact q2
  | succ f => exact h59 ((gAcc_step hg h0).mp q2).1
end PAR
/-- what yard answers -/
def YDR (R n : Int) (b : Nat → Int) (v : Int) (PN : Prop) (PY : (Nat → Int) → (Nat → Int) → Prop) : Prop := ((n < 0 ∨ R < n) ∧ v = -1 ∧ PN) ∨ (0 ≤ n ∧ n ≤ R ∧ ∃ (kd vl w3 : Nat → Int) (pos : Nat → Nat) (N : Nat), TKS b n.toNat N pos kd vl w3 ∧ ((∃ w h, gYard kd vl w h ∧ v = w * h ∧ PY kd vl) ∨ ((∀ w h, ¬ gYard kd vl w h) ∧ v = -1 ∧ PN)))

-- the tape, byte by byte
def bt (p s : Int32) : Int32 := (p >>> (s &&& 31)).toInt8.toInt32.toInt8.toInt32
def APP (H0 H : Heap) (tp : Nat) (F G : Int) (p : Int32) : Prop := ∀ j : Nat, sI H tp j = if F ≤ (j : Int) ∧ (j : Int) < G then bt p (Int32.ofInt (24 - 8 * ((j : Int) - F))) else sI H0 tp j
def FDR (H0 H : Heap) (tp : Nat) (F : Int) (a b c d e : Int32) : Prop := (880 < F ∧ ∀ j, sI H tp j = sI H0 tp j) ∨ (F ≤ 880 ∧ ∃ A B C D : Heap, APP H0 A tp F (F + 4) a ∧ APP A B tp (F + 4) (F + 8) b ∧ APP B C tp (F + 8) (F + 12) c ∧ APP C D tp (F + 12) (F + 16) d ∧ APP D H tp (F + 16) (F + 20) e)
/-- both tapes hold the same bytes -/
def TPQ (H : Heap) (tp tq : Nat) (F : Int) : Prop := ∀ j : Nat, (j : Int) < F → sI H tp j = sI H tq j ∧ -128 ≤ (sI H tp j).toInt ∧ (sI H tp j).toInt ≤ 127
section TAP
variable {H H0 H1 H2 H3 : Heap} {tp tq a j : Nat} {F G : Int} {p x s : Int32} {v : Value}
theorem APP.nil : APP H0 H0 tp F F p := fun j => (if_neg (by omega)).symm
theorem APP.cast (h : APP H0 H tp F G p) {F' G' : Int} (e : F = F') (e2 : G = G') : APP H0 H tp F' G' p := by subst e e2; exact h
theorem APP.ne (h : APP H0 H tp F G p) (U : Up H H1 a j v) (hne : a ≠ tp) : APP H0 H1 tp F G p := fun k => (up_nI U (fun q => hne q.1.symm)).trans (h k)
theorem APP.step (h : APP H0 H tp F G p) (U : Up H H1 tp j (.int x)) (hj : (j : Int) = G) (hF : F ≤ G) (hx : x = bt p s) (hs : s.toInt = 24 - 8 * (G - F)) : APP H0 H1 tp F (G + 1) p := fun k => by
  by_cases e : k = j
  · subst e
    rw [up_I U, if_pos (by omega), hx, hj, ← hs, Int32.ofInt_toInt]
  · rw [up_nI U (fun q => e q.2), h k]
    by_cases c : F ≤ (k : Int) ∧ (k : Int) < G
    · rw [if_pos c, if_pos (by omega)]
    · rw [if_neg c, if_neg (by omega)]
theorem APP.fr (h : APP H1 H tp F G p) (e : ∀ j, sI H1 tp j = sI H0 tp j) : APP H0 H tp F G p := fun k => by rw [h k, e k]
theorem bt_rng : -128 ≤ (bt p s).toInt ∧ (bt p s).toInt ≤ 127 := by
  unfold bt
  generalize (p >>> (s &&& 31)).toInt8.toInt32 = y
  rw [Int8.toInt_toInt32]
  exact ⟨Int8.le_toInt _, Int.le_of_lt_add_one (Int8.toInt_lt _)⟩
theorem APP.rel {A B : Heap} {n : Int} (h : APP H0 A tp F G p) (h' : APP H1 B tq F G p) (hr : ∀ j : Nat, (j : Int) < F → sI H0 tp j = sI H1 tq j ∧ -128 ≤ (sI H0 tp j).toInt ∧ (sI H0 tp j).toInt ≤ 127) : ∀ j : Nat, (j : Int) < G → sI A tp j = sI B tq j ∧ -128 ≤ (sI A tp j).toInt ∧ (sI A tp j).toInt ≤ 127 := fun k hk => by
  rw [h k, h' k]
  by_cases c : F ≤ (k : Int) ∧ (k : Int) < G
  · rw [if_pos c, if_pos c]
    exact ⟨rfl, bt_rng⟩
  · rw [if_neg c, if_neg c]
    exact hr k (by omega)
theorem FDR.rel {a b c d e : Int32} {Ha Hb Hc Hd : Heap} (h : FDR Ha Hb tp F a b c d e) (h' : FDR Hc Hd tq F a b c d e) (hr : ∀ j : Nat, (j : Int) < F → sI Ha tp j = sI Hc tq j ∧ -128 ≤ (sI Ha tp j).toInt ∧ (sI Ha tp j).toInt ≤ 127) {G : Int} (hG : (880 < F ∧ G = F) ∨ (F ≤ 880 ∧ G = F + 20)) : ∀ j : Nat, (j : Int) < G → sI Hb tp j = sI Hd tq j ∧ -128 ≤ (sI Hb tp j).toInt ∧ (sI Hb tp j).toInt ≤ 127 := by
  rcases h with ⟨h0, h⟩ | ⟨h0, A, B, C, D, h1, h2, h3, h4, h5⟩ <;> rcases h' with ⟨g0, g⟩ | ⟨g0, A', B', C', D', g1, g2, g3, g4, g5⟩
  · intro j hj
    rw [h j, g j]
    exact hr j (by omega)
  · omega
  · omega
  · have r1 := APP.rel (n := 0) h1 g1 hr
    have r2 := APP.rel (n := 0) h2 g2 r1
    have r3 := APP.rel (n := 0) h3 g3 r2
    have r4 := APP.rel (n := 0) h4 g4 r3
    have r5 := APP.rel (n := 0) h5 g5 r4
    intro j hj
    exact r5 j (by omega)
end TAP

