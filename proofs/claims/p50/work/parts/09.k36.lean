-- p50: the text by its tokens
abbrev TKN : Type := Int × Bool × List Int
def tkB1 (t : TKN) : List Int := (bif t.2.1 then [32] else []) ++ t.2.2
def tkB : List TKN → List Int
  | [] => []
  | t :: r => tkB1 t ++ tkB r
def lg9 (l : List Int) : Nat → Int := fun j => l.getD j 0
def tkV (t : TKN) : Int := if t.1 = 2 then cdN 27 (lg9 t.2.2) 0 t.2.2.length else nmN (lg9 t.2.2) 0 t.2.2.length
theorem tkV_3 {b : Bool} {l : List Int} : tkV (3, b, l) = nmN (lg9 l) 0 l.length := rfl
theorem tkV_2 {b : Bool} {l : List Int} : tkV (2, b, l) = cdN 27 (lg9 l) 0 l.length := rfl
def okT (t : TKN) : Prop := (t.1 = 2 ∧ 1 ≤ t.2.2.length ∧ t.2.2.length ≤ 8 ∧ ∀ j, j < t.2.2.length → isLt (lg9 t.2.2 j)) ∨ (t.1 = 3 ∧ 1 ≤ t.2.2.length ∧ t.2.2.length ≤ 4 ∧ ∀ j, j < t.2.2.length → isDg (lg9 t.2.2 j)) ∨ (t.1 = 59 ∧ t.2.2 = [59])
def nx9 : List Int → Prop
  | [] => True
  | c :: _ => c = 32 ∨ c = 59
def WT : List TKN → Prop
  | [] => True
  | t :: r => okT t ∧ (t.1 = 59 ∨ nx9 (tkB r)) ∧ WT r
/-- the stream from token i on -/
def ST (kd vl : Nat → Int) : Nat → List TKN → Prop
  | i, [] => kd i = 0
  | i, t :: r => kd i = t.1 ∧ (t.1 = 2 ∨ t.1 = 3 → vl i = tkV t) ∧ ST kd vl (i + 1) r
section STM
variable {b : Nat → Int} {n N p s q m : Nat} {pos : Nat → Nat} {kd vl w3 : Nat → Int} {P : Int → Prop} {l : List Int} {t : TKN}
theorem nmN_congr {b2 : Nat → Int} {s' : Nat} : ∀ m : Nat, (∀ j, j < m → b (s + j) = b2 (s' + j)) → nmN b s m = nmN b2 s' m := by
  intro m
  induction m with
  | zero => intro _; rfl
  | succ m ih =>
    intro h
    show nmN b s m * 10 + _ = nmN b2 s' m * 10 + _
    rw [ih (fun j hj => h j (by omega)), h m (by omega)]
theorem sp_run (hb : ∀ j, j < m → s + j < n ∧ P (b (s + j))) (he : ¬ (s + m < n ∧ P (b (s + m)))) : Sp P b n s (s + m) :=
  ⟨Nat.le_add_right _ _, fun i h1 h2 => by
    have := hb (i - s) (by omega)
    rw [show s + (i - s) = i by omega] at this
    exact this, he⟩
theorem gD_l {l u : List Int} {j : Nat} (h : j < l.length) : (l ++ u).getD j 0 = l.getD j 0 := by
  rw [List.getD_eq_getElem?_getD, List.getD_eq_getElem?_getD, List.getElem?_append_left h]
theorem gD_r {l u : List Int} {j : Nat} : (l ++ u).getD (l.length + j) 0 = u.getD j 0 := by
  rw [List.getD_eq_getElem?_getD, List.getD_eq_getElem?_getD, List.getElem?_append_right (Nat.le_add_right _ _), Nat.add_sub_cancel_left]
theorem stm (hT : TKS b n N pos kd vl w3) : ∀ (ts : List TKN) (i p : Nat), WT ts → pos i = p → i ≤ N → (∀ j, j < (tkB ts).length → b (p + j) = (tkB ts).getD j 0) → p + (tkB ts).length = n → ST kd vl i ts
  | [], i, p, _, hp, hi, _, hn => by
    obtain ⟨s, hk⟩ := hT.2.1 i hi
    have e0 : p = n := by have : (tkB []).length = 0 := rfl; omega
    have h2 : TK b n (pos i) 0 0 0 n n := ⟨by rw [hp, e0]; exact ⟨Nat.le_refl _, fun j h1 h2 => by omega, fun h => by omega⟩, Or.inl ⟨Nat.le_refl _, rfl⟩⟩
    exact (hk.uniq h2).1
  | t :: r, i, p, hw, hp, hi, hb, hn => by
    obtain ⟨ok, hs, hw'⟩ := hw
    obtain ⟨k, bl, l⟩ := t
    have hlen : (tkB ((k, bl, l) :: r)).length = (bif bl then 1 else 0) + l.length + (tkB r).length := by
      show (((bif bl then [32] else []) ++ l) ++ tkB r).length = _
      rw [List.length_append, List.length_append]
      cases bl <;> rfl
    rw [hlen] at hb hn
    obtain ⟨o, ho⟩ : ∃ o : Nat, o = (bif bl then 1 else 0) := ⟨_, rfl⟩
    rw [← ho] at hb hn
    have hl1 : 1 ≤ l.length := by
      rcases ok with ⟨-, h, -⟩ | ⟨-, h, -⟩ | ⟨-, h⟩
      · exact h
      · exact h
      · have h : l = [59] := h
        rw [h]; decide
    have hbd : ∀ j, j < l.length → b (p + o + j) = lg9 l j := fun j hj => by
      have h := hb (o + j) (by omega)
      rw [← Nat.add_assoc] at h
      rw [h]
      show (((bif bl then [32] else []) ++ l) ++ tkB r).getD (o + j) 0 = l.getD j 0
      rw [gD_l (by rw [List.length_append]; cases bl <;> simp_all), ho]
      cases bl
      · show ([] ++ l).getD (0 + j) 0 = _
        rw [Nat.zero_add]; rfl
      · exact gD_r (l := [32])
    have hrs : ∀ j, j < (tkB r).length → b (p + o + l.length + j) = (tkB r).getD j 0 := fun j hj => by
      have h := hb (o + l.length + j) (by omega)
      rw [show p + o + l.length + j = p + (o + l.length + j) by omega, h]
      show (((bif bl then [32] else []) ++ l) ++ tkB r).getD (o + l.length + j) 0 = _
      have e : o + l.length = ((bif bl then [32] else []) ++ l).length := by
        rw [List.length_append, ho]; cases bl <;> rfl
      rw [e]
      exact gD_r
    have hbl : ∀ j, j < o → p + j < n ∧ isBl (b (p + j)) := fun j hj => by
      have h := hb j (by omega)
      have e1 : o ≤ 1 := by rw [ho]; cases bl <;> decide
      have ej : j = 0 := by omega
      subst ej
      refine ⟨by omega, ?_⟩
      rw [h]
      cases bl
      · rw [ho] at hj; exact absurd hj (by decide)
      · exact Or.inr rfl
    have hnx : ∀ q, q = p + o + l.length → k ≠ 59 → ¬ (q < n ∧ (isLt (b q) ∨ isDg (b q))) := fun q hq hk h => by
      subst hq
      have h0 := hrs 0 (by omega)
      rw [Nat.add_zero] at h0
      rw [h0] at h
      rcases hs with e | e
      · exact hk e
      · cases hr : tkB r with
        | nil => rw [hr] at hn; have : ([] : List Int).length = 0 := rfl; omega
        | cons c u =>
          rw [hr] at e h
          have e : c = 32 ∨ c = 59 := e
          have h2 : isLt c ∨ isDg c := h.2
          unfold isLt isDg at h2
          omega
    have c0 := hbd 0 (by omega)
    rw [Nat.add_zero] at c0
    have hS : ¬ isBl (b (p + o)) → Sp isBl b n p (p + o) := fun h => sp_run hbl (fun q => h q.2)
    obtain ⟨s, hk⟩ := hT.2.1 i hi
    rw [hp] at hk
    have fin : ∀ (k' v' w' : Int), TK b n p k' v' w' (p + o) (p + o + l.length) → k' = k → k ≠ 0 → (k = 2 ∨ k = 3 → v' = tkV (k, bl, l)) → ST kd vl i ((k, bl, l) :: r) := fun k' v' w' h e h0 hv => by
      obtain ⟨u1, -, u3, u4, -⟩ := hk.uniq h
      have ek : kd i = k := u1.trans e
      have hiN : i ≠ N := fun q => h0 (by rw [← ek, q]; exact hT.2.2.1)
      refine ⟨ek, fun q => (u4 (by rw [ek]; exact q)).trans (hv q), ?_⟩
      exact stm hT r (i + 1) (p + o + l.length) hw' (u3 (by rw [ek]; exact h0)) (by omega) hrs (by omega)
    rcases ok with ⟨e1, -, e3, e4⟩ | ⟨e1, -, e3, e4⟩ | ⟨e1, e2⟩
    · have e1 : k = 2 := e1
      have e3 : l.length ≤ 8 := e3
      have e4 : ∀ j, j < l.length → isLt (lg9 l j) := e4
      have d0 := e4 0 (by omega)
      refine fin 2 _ _ ⟨hS (by rw [c0]; unfold isBl; unfold isLt at d0; omega), Or.inr (Or.inl ⟨by omega, by rw [c0]; exact d0, rfl, sp_run (fun j hj => ⟨by omega, by rw [hbd j hj]; exact e4 j hj⟩) (fun h => hnx _ rfl (by omega) ⟨h.1, Or.inl h.2⟩), rfl, rfl⟩)⟩ e1.symm (by omega) (fun _ => ?_)
      rw [show p + o + l.length - (p + o) = l.length by omega, if_pos e3]
      unfold tkV
      rw [if_pos e1]
      exact cdN_congr l.length fun j hj => by rw [hbd j hj, Nat.zero_add]
    · have e1 : k = 3 := e1
      have e3 : l.length ≤ 4 := e3
      have e4 : ∀ j, j < l.length → isDg (lg9 l j) := e4
      have d0 := e4 0 (by omega)
      refine fin 3 _ 0 ⟨hS (by rw [c0]; unfold isBl; unfold isDg at d0; omega), Or.inr (Or.inr (Or.inl ⟨by omega, by rw [c0]; exact d0, sp_run (fun j hj => ⟨by omega, by rw [hbd j hj]; exact e4 j hj⟩) (fun h => hnx _ rfl (by omega) ⟨h.1, Or.inr h.2⟩), Or.inl ⟨by omega, rfl, rfl⟩⟩))⟩ e1.symm (by omega) (fun _ => ?_)
      rw [show p + o + l.length - (p + o) = l.length by omega]
      unfold tkV
      rw [if_neg (by show ¬ k = 2; omega)]
      exact nmN_congr l.length fun j hj => by rw [hbd j hj, Nat.zero_add]
    · have e1 : k = 59 := e1
      have e2 : l = [59] := e2
      subst e2
      have c0 : b (p + o) = 59 := c0
      have l1 : ([59] : List Int).length = 1 := rfl
      exact fin 59 0 0 ⟨hS (by rw [c0]; unfold isBl; decide), Or.inr (Or.inr (Or.inr ⟨by omega, by rw [c0]; unfold isLt; decide, by rw [c0]; unfold isDg; decide, rfl, Or.inl ⟨by rw [c0]; decide, by rw [c0]; decide, c0.symm⟩⟩))⟩ e1.symm (by omega) (fun q => by omega)
end STM
/-- the tokens -/
def tW (bl : Bool) (l : List Int) : TKN := (2, bl, l)
def tN (v : Int) : TKN := (3, true, dg v)
def tS : TKN := (59, false, [59])
theorem dg_ok {v : Int} (h0 : 0 ≤ v) (h1 : v ≤ 99) : okT (tN v) ∧ tkV (tN v) = v := by
  have hw : ∀ l : List Int, dg v = l → okT (3, true, l) ∧ tkV (3, true, l) = v → okT (tN v) ∧ tkV (tN v) = v := fun l e h => by
    unfold tN
    rw [e]
    exact h
  by_cases h9 : 9 < v
  · refine hw [48 + v / 10 % 10, 48 + v % 10] (by unfold dg; rw [if_pos h9]; rfl) ⟨Or.inr (Or.inl ⟨rfl, by show 1 ≤ 2; decide, by show 2 ≤ 4; decide, fun j hj => ?_⟩), ?_⟩
    · have hj : j < 2 := hj
      rcases (show j = 0 ∨ j = 1 by omega) with rfl | rfl
      · show isDg (48 + v / 10 % 10); unfold isDg; omega
      · show isDg (48 + v % 10); unfold isDg; omega
    · rw [tkV_3]
      show ((0 * 10 + ((48 + v / 10 % 10) - 48)) * 10 + ((48 + v % 10) - 48)) = v
      omega
  · refine hw [48 + v % 10] (by unfold dg; rw [if_neg h9]; rfl) ⟨Or.inr (Or.inl ⟨rfl, by show 1 ≤ 1; decide, by show 1 ≤ 4; decide, fun j hj => ?_⟩), ?_⟩
    · have hj : j < 1 := hj
      rcases (show j = 0 by omega) with rfl
      show isDg (48 + v % 10); unfold isDg; omega
    · rw [tkV_3]
      show (0 * 10 + ((48 + v % 10) - 48)) = v
      omega
/-- the parts of a yard's text: what, x, y, number -/
abbrev PT : Type := Nat × Int × Int × Int
def wL (j : Nat) : List Int := kwL.getD j []
def partT (p : PT) : List TKN := match p.1 with
  | 0 => [tW false (wL 2), tW true [117], tW true (wL 3), tN p.2.2.2, tS]
  | 1 => [tW false (wL 2), tW true [118], tW true (wL 3), tN p.2.2.2, tS]
  | 2 => [tW false (wL 4), tN p.2.1, tN p.2.2.1, tW true (wL 5), tN p.2.2.2, tS]
  | 3 => [tW false (wL 6), tN p.2.1, tN p.2.2.1, tW true (wL 7), tN p.2.2.2, tS]
  | 4 => [tW false (wL 8), tN p.2.1, tN p.2.2.1, tW true (wL 9), tN p.2.2.2, tS]
  | 5 => [tW false (wL 10), tW true (wL 6), tW true (wL 11), tN p.2.2.2, tS]
  | 6 => [tW false (wL 10), tW true (wL 12), tW true (wL 13), tN p.2.2.2, tS]
  | 7 => [tW false (wL 10), tW true (wL 14), tS]
  | _ => [tW false (wL 10), tW true (wL 15), tW true (wL 11), tN p.2.2.2, tS]
def hdrT (w h : Int) : List TKN := [tW false (wL 0), tN w, tW true (wL 1), tN h, tS]
def parT : List PT → List TKN
  | [] => []
  | p :: r => partT p ++ parT r
abbrev AS9 : Type := Int × (Int → Int → Int) × (Int → Int)
def A09 : AS9 := (0, (fun _ _ => 0), fun _ => -1)
def okA (w h : Int) (A : AS9) (p : PT) : Prop := match p.1 with
  | 0 => A.1 = 0 ∧ 0 ≤ p.2.2.2 ∧ p.2.2.2 ≤ 40
  | 1 => A.1 = 1 ∧ 0 ≤ p.2.2.2 ∧ p.2.2.2 ≤ 40
  | 2 => (0 ≤ p.2.1 ∧ p.2.1 < w ∧ 0 ≤ p.2.2.1 ∧ p.2.2.1 < h) ∧ A.2.1 0 (6 * p.2.2.1 + p.2.1) = 0 ∧ 0 ≤ p.2.2.2 ∧ p.2.2.2 ≤ 99
  | 3 => (0 ≤ p.2.1 ∧ p.2.1 < w ∧ 0 ≤ p.2.2.1 ∧ p.2.2.1 < h) ∧ A.2.1 1 (6 * p.2.2.1 + p.2.1) = 0 ∧ 0 ≤ p.2.2.2 ∧ p.2.2.2 ≤ 99
  | 4 => (0 ≤ p.2.1 ∧ p.2.1 < w ∧ 0 ≤ p.2.2.1 ∧ p.2.2.1 < h) ∧ A.2.1 2 (6 * p.2.2.1 + p.2.1) = 0 ∧ 0 ≤ p.2.2.2 ∧ p.2.2.2 ≤ 9
  | 5 => A.2.2 0 = -1 ∧ 0 ≤ p.2.2.2 ∧ p.2.2.2 ≤ 20
  | 6 => A.2.2 1 = -1 ∧ 0 ≤ p.2.2.2 ∧ p.2.2.2 ≤ 40
  | 7 => A.2.2 2 = -1
  | _ => A.2.2 3 = -1 ∧ 0 ≤ p.2.2.2 ∧ p.2.2.2 ≤ 18
def hpA (k : Int) (A : AS9) (p : PT) : AS9 := (A.1, (fun a c => if a = k ∧ c = 6 * p.2.2.1 + p.2.1 then 1 else A.2.1 a c), A.2.2)
def arA (k v : Int) (A : AS9) : AS9 := (A.1, A.2.1, fun a => if a = k then v else A.2.2 a)
def apA (A : AS9) (p : PT) : AS9 := match p.1 with
  | 0 => (A.1 + 1, A.2)
  | 1 => (A.1 + 1, A.2)
  | 2 => hpA 0 A p
  | 3 => hpA 1 A p
  | 4 => hpA 2 A p
  | 5 => arA 0 p.2.2.2 A
  | 6 => arA 1 p.2.2.2 A
  | 7 => arA 2 0 A
  | _ => arA 3 p.2.2.2 A
def rnA (A : AS9) : List PT → AS9
  | [] => A
  | p :: r => rnA (apA A p) r
def okR (w h : Int) (A : AS9) : List PT → Prop
  | [] => True
  | p :: r => okA w h A p ∧ okR w h (apA A p) r
section PTS
variable {w h v : Int} {A : AS9} {p : PT} {ps : List PT} {r : List TKN} {kd vl : Nat → Int} {i : Nat} {S : YSt}
theorem rnA_s : ∀ (ps : List PT) (A : AS9), rnA A (ps ++ [p]) = apA (rnA A ps) p
  | [], _ => rfl
  | q :: ps, A => rnA_s ps (apA A q)
theorem okR_s : ∀ (ps : List PT) (A : AS9), okR w h A ps → okA w h (rnA A ps) p → okR w h A (ps ++ [p])
  | [], _, _, h2 => ⟨h2, trivial⟩
  | q :: ps, A, h1, h2 => ⟨h1.1, okR_s ps (apA A q) h1.2 h2⟩
theorem tkB_a : ∀ (l u : List TKN), tkB (l ++ u) = tkB l ++ tkB u
  | [], _ => rfl
  | t :: l, u => by
    show tkB1 t ++ tkB (l ++ u) = (tkB1 t ++ tkB l) ++ tkB u
    rw [tkB_a l u, List.append_assoc]
theorem parT_s : ∀ (ps : List PT), parT (ps ++ [p]) = parT ps ++ partT p
  | [] => by
    show partT p ++ [] = [] ++ partT p
    rw [List.append_nil, List.nil_append]
  | q :: ps => by
    show partT q ++ parT (ps ++ [p]) = (partT q ++ parT ps) ++ partT p
    rw [parT_s ps, List.append_assoc]
theorem nmb {w h : Int} (h0 : 0 ≤ w ∧ w < h ∧ h ≤ 6) : 0 ≤ w ∧ w ≤ 99 := by omega
/-- known words -/
theorem tW_ok : (∀ j, j < 29 → ∀ bl, okT (tW bl (wL j)) ∧ tkV (tW bl (wL j)) = kw j) := by
  intro j hj bl
  have h : ∀ j, j < 29 → (1 ≤ (wL j).length ∧ (wL j).length ≤ 8 ∧ ∀ i, i < (wL j).length → 97 ≤ lg9 (wL j) i ∧ lg9 (wL j) i ≤ 122) ∧ cdN 27 (lg9 (wL j)) 0 (wL j).length = kw j := by decide +kernel
  obtain ⟨⟨h1, h2, h3⟩, h4⟩ := h j hj
  exact ⟨Or.inl ⟨rfl, h1, h2, h3⟩, by show tkV (2, bl, wL j) = kw j; rw [tkV_2]; exact h4⟩
theorem tU_ok : (∀ bl, okT (tW bl [117]) ∧ tkV (tW bl [117]) = 21) ∧ ∀ bl, okT (tW bl [118]) ∧ tkV (tW bl [118]) = 22 := by
  refine ⟨fun bl => ⟨Or.inl ⟨rfl, by show 1 ≤ 1; decide, by show 1 ≤ 8; decide, fun j hj => ?_⟩, ?_⟩, fun bl => ⟨Or.inl ⟨rfl, by show 1 ≤ 1; decide, by show 1 ≤ 8; decide, fun j hj => ?_⟩, ?_⟩⟩
  · have hj : j < 1 := hj
    rcases (show j = 0 by omega) with rfl
    show isLt 117; unfold isLt; decide
  · show tkV (2, bl, [117]) = 21; rw [tkV_2]; rfl
  · have hj : j < 1 := hj
    rcases (show j = 0 by omega) with rfl
    show isLt 118; unfold isLt; decide
  · show tkV (2, bl, [118]) = 22; rw [tkV_2]; rfl
theorem kw_nu : ∀ j, j < 29 → (21 : Int) ≠ kw j ∧ (22 : Int) ≠ kw j := by decide +kernel
theorem tS_ok : okT tS := Or.inr (Or.inr ⟨rfl, rfl⟩)
theorem part_wt (hok : okA w h A p) (hw : w ≤ 6) (hh : h ≤ 6) (hr : WT r) : WT (partT p ++ r) := by
  obtain ⟨k, x, y, z⟩ := p
  have W := fun j hj bl => (tW_ok j hj bl).1
  match k, hok with
  | 0, hok => exact ⟨W 2 (by decide) _, Or.inr (Or.inl rfl), tU_ok.1 _ |>.1, Or.inr (Or.inl rfl), W 3 (by decide) _, Or.inr (Or.inl rfl), (dg_ok hok.2.1 (by have := hok.2.2; omega)).1, Or.inr (Or.inr rfl), tS_ok, Or.inl rfl, hr⟩
  | 1, hok => exact ⟨W 2 (by decide) _, Or.inr (Or.inl rfl), tU_ok.2 _ |>.1, Or.inr (Or.inl rfl), W 3 (by decide) _, Or.inr (Or.inl rfl), (dg_ok hok.2.1 (by have := hok.2.2; omega)).1, Or.inr (Or.inr rfl), tS_ok, Or.inl rfl, hr⟩
  | 2, ⟨⟨a1, a2, a3, a4⟩, _, a5, a6⟩ => exact ⟨W 4 (by decide) _, Or.inr (Or.inl rfl), (dg_ok a1 (by omega)).1, Or.inr (Or.inl rfl), (dg_ok a3 (by omega)).1, Or.inr (Or.inl rfl), W 5 (by decide) _, Or.inr (Or.inl rfl), (dg_ok a5 (by omega)).1, Or.inr (Or.inr rfl), tS_ok, Or.inl rfl, hr⟩
  | 3, ⟨⟨a1, a2, a3, a4⟩, _, a5, a6⟩ => exact ⟨W 6 (by decide) _, Or.inr (Or.inl rfl), (dg_ok a1 (by omega)).1, Or.inr (Or.inl rfl), (dg_ok a3 (by omega)).1, Or.inr (Or.inl rfl), W 7 (by decide) _, Or.inr (Or.inl rfl), (dg_ok a5 (by omega)).1, Or.inr (Or.inr rfl), tS_ok, Or.inl rfl, hr⟩
  | 4, ⟨⟨a1, a2, a3, a4⟩, _, a5, a6⟩ => exact ⟨W 8 (by decide) _, Or.inr (Or.inl rfl), (dg_ok a1 (by omega)).1, Or.inr (Or.inl rfl), (dg_ok a3 (by omega)).1, Or.inr (Or.inl rfl), W 9 (by decide) _, Or.inr (Or.inl rfl), (dg_ok a5 (by omega)).1, Or.inr (Or.inr rfl), tS_ok, Or.inl rfl, hr⟩
  | 5, hok => exact ⟨W 10 (by decide) _, Or.inr (Or.inl rfl), W 6 (by decide) _, Or.inr (Or.inl rfl), W 11 (by decide) _, Or.inr (Or.inl rfl), (dg_ok hok.2.1 (by have := hok.2.2; omega)).1, Or.inr (Or.inr rfl), tS_ok, Or.inl rfl, hr⟩
  | 6, hok => exact ⟨W 10 (by decide) _, Or.inr (Or.inl rfl), W 12 (by decide) _, Or.inr (Or.inl rfl), W 13 (by decide) _, Or.inr (Or.inl rfl), (dg_ok hok.2.1 (by have := hok.2.2; omega)).1, Or.inr (Or.inr rfl), tS_ok, Or.inl rfl, hr⟩
  | 7, _ => exact ⟨W 10 (by decide) _, Or.inr (Or.inl rfl), W 14 (by decide) _, Or.inr (Or.inr rfl), tS_ok, Or.inl rfl, hr⟩
  | k + 8, hok => exact ⟨W 10 (by decide) _, Or.inr (Or.inl rfl), W 15 (by decide) _, Or.inr (Or.inl rfl), W 11 (by decide) _, Or.inr (Or.inl rfl), (dg_ok hok.2.1 (by have := hok.2.2; omega)).1, Or.inr (Or.inr rfl), tS_ok, Or.inl rfl, hr⟩
theorem par_wt (hw : w ≤ 6) (hh : h ≤ 6) : ∀ (ps : List PT) (A : AS9), okR w h A ps → WT (parT ps)
  | [], _, _ => trivial
  | _ :: ps, _, hk => part_wt hk.1 hw hh (par_wt hw hh ps _ hk.2)
theorem hdr_wt (hw : 0 ≤ w ∧ w ≤ 6) (hh : 0 ≤ h ∧ h ≤ 6) (hr : WT r) : WT (hdrT w h ++ r) :=
  ⟨(tW_ok 0 (by decide) _).1, Or.inr (Or.inl rfl), (dg_ok hw.1 (by omega)).1, Or.inr (Or.inl rfl), (tW_ok 1 (by decide) _).1, Or.inr (Or.inl rfl), (dg_ok hh.1 (by omega)).1, Or.inr (Or.inr rfl), tS_ok, Or.inl rfl, hr⟩
/-- the parse's state and the abstract one -/
def Rl9 (vl : Nat → Int) (w h : Int) (S : YSt) (A : AS9) : Prop := S.1 = w ∧ S.2.1 = h ∧ S.2.2.1 = A.1 ∧ (A.1 = 1 → vl S.2.2.2.1 = 21) ∧ S.2.2.2.2.1 = A.2.1 ∧ S.2.2.2.2.2 = A.2.2
theorem st_w {j : Nat} {bl : Bool} (hj : j < 29) (k0 : kd i = (tW bl (wL j)).1) (v0 : (tW bl (wL j)).1 = 2 ∨ (tW bl (wL j)).1 = 3 → vl i = tkV (tW bl (wL j))) : okW kd vl j i := ⟨k0, (v0 (Or.inl rfl)).trans (tW_ok j hj bl).2⟩
theorem st_n {lo hi : Int} (k0 : kd i = (tN v).1) (v0 : (tN v).1 = 2 ∨ (tN v).1 = 3 → vl i = tkV (tN v)) (h0 : 0 ≤ v) (h1 : v ≤ 99) (l1 : lo ≤ v) (l2 : v ≤ hi) : okN kd vl lo hi i ∧ vl i = v := by
  have e : vl i = v := (v0 (Or.inr rfl)).trans (dg_ok h0 h1).2
  exact ⟨⟨k0, by rw [e]; exact l1, by rw [e]; exact l2⟩, e⟩
theorem heap_go {w h k lim : Int} {bf : Nat} {x y z : Int} (R : Rl9 vl w h S A) (a1 : 0 ≤ x) (a2 : x < w) (a3 : 0 ≤ y) (a4 : y < h) (hw : w ≤ 6) (hh : h ≤ 6) (t0 : A.2.1 k (6 * y + x) = 0) (z0 : 0 ≤ z) (z1 : z ≤ lim) (zl : lim ≤ 99) (hbf : okW kd vl bf (i + 3)) (n1 : okN kd vl 0 (w - 1) (i + 1) ∧ vl (i + 1) = x) (n2 : okN kd vl 0 (h - 1) (i + 2) ∧ vl (i + 2) = y) (n4 : okN kd vl 0 lim (i + 4) ∧ vl (i + 4) = z) (q : Nat × Int × Int × Int) (e1 : q.2.1 = x) (e2 : q.2.2.1 = y) :
    ∃ S1, gHeap kd vl bf k lim S i S1 (i + 5) ∧ Rl9 vl w h S1 (hpA k A q) := by
  obtain ⟨r1, r2, r3, r4, r5, r6⟩ := R
  refine ⟨_, ⟨by rw [r1]; exact n1.1, by rw [r2]; exact n2.1, by rw [n1.2, n2.2, r5]; exact t0, hbf, n4.1, rfl, rfl⟩, r1, r2, r3, r4, ?_, r6⟩
  show (fun a c => if a = k ∧ c = 6 * vl (i + 2) + vl (i + 1) then 1 else S.2.2.2.2.1 a c) = (fun a c => if a = k ∧ c = 6 * q.2.2.1 + q.2.1 then 1 else A.2.1 a c)
  rw [n1.2, n2.2, r5, e1, e2]
theorem art_go {bf : Nat} {k z lim : Int} (R : Rl9 vl w h S A) (hbf : okW kd vl bf (i + 1)) (n2 : okN kd vl 0 lim (i + 2) ∧ vl (i + 2) = z) : ∃ S1, gLim kd vl bf k lim S i S1 (i + 3) ∧ Rl9 vl w h S1 (arA k z A) := by
  obtain ⟨r1, r2, r3, r4, r5, r6⟩ := R
  refine ⟨_, ⟨hbf, n2.1, rfl, rfl⟩, r1, r2, r3, r4, r5, ?_⟩
  show (fun a => if a = k then vl (i + 2) else S.2.2.2.2.2 a) = (fun a => if a = k then z else A.2.2 a)
  rw [n2.2, r6]
theorem part_go (hok : okA w h A p) (hw : w ≤ 6) (hh : h ≤ 6) (R : Rl9 vl w h S A) (hst : ST kd vl i (partT p ++ r)) : ∃ S1 i1, gPart kd vl S i S1 i1 ∧ kd i1 = 59 ∧ kd i ≠ 0 ∧ ST kd vl (i1 + 1) r ∧ Rl9 vl w h S1 (apA A p) := by
  obtain ⟨k, x, y, z⟩ := p
  have R0 := R
  obtain ⟨r1, r2, r3, r4, r5, r6⟩ := R0
  match k, hok, hst with
  | 0, ⟨a0, a1, a2⟩, ⟨k0, v0, k1, v1, k2, v2, k3, v3, k4, _, hr⟩ =>
    have a1 : 0 ≤ z := a1
    have a2 : z ≤ 40 := a2
    have w0 := st_w (by decide) k0 v0
    have e1 : vl (i + 1) = 21 := (v1 (Or.inl rfl)).trans (tU_ok.1 _).2
    have n3 := st_n (lo := 0) (hi := 40) k3 v3 a1 (by omega) a1 a2
    refine ⟨_, i + 4, Or.inl ⟨w0, by rw [r3, a0]; decide, ⟨k1, by rw [e1]; decide, fun j hj => by rw [e1]; exact (kw_nu j hj).1⟩, fun q => by rw [r3, a0] at q; exact absurd q (by decide), st_w (by decide) k2 v2, n3.1, rfl, rfl⟩, k4, by rw [k0]; decide, hr, r1, r2, by show S.2.2.1 + 1 = A.1 + 1; rw [r3], fun _ => ?_, r5, r6⟩
    show vl (if S.2.2.1 = 0 then i + 1 else S.2.2.2.1) = 21
    rw [if_pos (r3.trans a0), e1]
  | 1, ⟨a0, a1, a2⟩, ⟨k0, v0, k1, v1, k2, v2, k3, v3, k4, _, hr⟩ =>
    have a1 : 0 ≤ z := a1
    have a2 : z ≤ 40 := a2
    have w0 := st_w (by decide) k0 v0
    have e1 : vl (i + 1) = 22 := (v1 (Or.inl rfl)).trans (tU_ok.2 _).2
    have n3 := st_n (lo := 0) (hi := 40) k3 v3 a1 (by omega) a1 a2
    refine ⟨_, i + 4, Or.inl ⟨w0, by rw [r3, a0]; decide, ⟨k1, by rw [e1]; decide, fun j hj => by rw [e1]; exact (kw_nu j hj).2⟩, fun _ => by rw [e1, r4 a0]; decide, st_w (by decide) k2 v2, n3.1, rfl, rfl⟩, k4, by rw [k0]; decide, hr, r1, r2, by show S.2.2.1 + 1 = A.1 + 1; rw [r3], fun q => ?_, r5, r6⟩
    have q : A.1 + 1 = 1 := q
    omega
  | 2, ⟨⟨a1, a2, a3, a4⟩, t0, a5, a6⟩, ⟨k0, v0, k1, v1, k2, v2, k3, v3, k4, v4, k5, _, hr⟩ =>
    obtain ⟨S1, g1, g2⟩ := heap_go (kd := kd) (i := i) (k := 0) (lim := 99) (bf := 5) R a1 a2 a3 a4 hw hh t0 a5 a6 (by decide) (st_w (by decide) k3 v3) (st_n k1 v1 a1 (by omega) a1 (by omega)) (st_n k2 v2 a3 (by omega) a3 (by omega)) (st_n k4 v4 a5 (by omega) a5 a6) (2, x, y, z) rfl rfl
    exact ⟨S1, i + 5, Or.inr (Or.inl ⟨st_w (by decide) k0 v0, g1⟩), k5, by rw [k0]; decide, hr, g2⟩
  | 3, ⟨⟨a1, a2, a3, a4⟩, t0, a5, a6⟩, ⟨k0, v0, k1, v1, k2, v2, k3, v3, k4, v4, k5, _, hr⟩ =>
    obtain ⟨S1, g1, g2⟩ := heap_go (kd := kd) (i := i) (k := 1) (lim := 99) (bf := 7) R a1 a2 a3 a4 hw hh t0 a5 a6 (by decide) (st_w (by decide) k3 v3) (st_n k1 v1 a1 (by omega) a1 (by omega)) (st_n k2 v2 a3 (by omega) a3 (by omega)) (st_n k4 v4 a5 (by omega) a5 a6) (3, x, y, z) rfl rfl
    exact ⟨S1, i + 5, Or.inr (Or.inr (Or.inl ⟨st_w (by decide) k0 v0, g1⟩)), k5, by rw [k0]; decide, hr, g2⟩
  | 4, ⟨⟨a1, a2, a3, a4⟩, t0, a5, a6⟩, ⟨k0, v0, k1, v1, k2, v2, k3, v3, k4, v4, k5, _, hr⟩ =>
    obtain ⟨S1, g1, g2⟩ := heap_go (kd := kd) (i := i) (k := 2) (lim := 9) (bf := 9) R a1 a2 a3 a4 hw hh t0 a5 a6 (by decide) (st_w (by decide) k3 v3) (st_n k1 v1 a1 (by omega) a1 (by omega)) (st_n k2 v2 a3 (by omega) a3 (by omega)) (st_n k4 v4 a5 (by omega) a5 a6) (4, x, y, z) rfl rfl
    exact ⟨S1, i + 5, Or.inr (Or.inr (Or.inr (Or.inl ⟨st_w (by decide) k0 v0, g1⟩))), k5, by rw [k0]; decide, hr, g2⟩
  | 5, ⟨t0, a5, a6⟩, ⟨k0, v0, k1, v1, k2, v2, k3, v3, k4, _, hr⟩ =>
    obtain ⟨S1, g1, g2⟩ := art_go (i := i + 1) (bf := 11) (k := 0) R (st_w (by decide) k2 v2) (st_n (lo := 0) (hi := 20) k3 v3 a5 (Int.le_trans a6 (by decide)) a5 a6)
    exact ⟨S1, i + 4, Or.inr (Or.inr (Or.inr (Or.inr ⟨st_w (by decide) k0 v0, Or.inl ⟨st_w (by decide) k1 v1, by rw [r6]; exact t0, g1⟩⟩))), k4, by rw [k0]; decide, hr, g2⟩
  | 6, ⟨t0, a5, a6⟩, ⟨k0, v0, k1, v1, k2, v2, k3, v3, k4, _, hr⟩ =>
    obtain ⟨S1, g1, g2⟩ := art_go (i := i + 1) (bf := 13) (k := 1) R (st_w (by decide) k2 v2) (st_n (lo := 0) (hi := 40) k3 v3 a5 (Int.le_trans a6 (by decide)) a5 a6)
    exact ⟨S1, i + 4, Or.inr (Or.inr (Or.inr (Or.inr ⟨st_w (by decide) k0 v0, Or.inr (Or.inl ⟨st_w (by decide) k1 v1, by rw [r6]; exact t0, g1⟩)⟩))), k4, by rw [k0]; decide, hr, g2⟩
  | 7, t0, ⟨k0, v0, k1, v1, k2, _, hr⟩ =>
    refine ⟨_, i + 2, Or.inr (Or.inr (Or.inr (Or.inr ⟨st_w (by decide) k0 v0, Or.inr (Or.inr (Or.inr ⟨st_w (by decide) k1 v1, by rw [r6]; exact t0, rfl, rfl⟩))⟩))), k2, by rw [k0]; decide, hr, r1, r2, r3, r4, r5, ?_⟩
    show (fun a => if a = 2 then 0 else S.2.2.2.2.2 a) = (fun a => if a = 2 then 0 else A.2.2 a)
    rw [r6]
  | k + 8, ⟨t0, a5, a6⟩, ⟨k0, v0, k1, v1, k2, v2, k3, v3, k4, _, hr⟩ =>
    obtain ⟨S1, g1, g2⟩ := art_go (i := i + 1) (bf := 11) (k := 3) R (st_w (by decide) k2 v2) (st_n (lo := 0) (hi := 18) k3 v3 a5 (Int.le_trans a6 (by decide)) a5 a6)
    exact ⟨S1, i + 4, Or.inr (Or.inr (Or.inr (Or.inr ⟨st_w (by decide) k0 v0, Or.inr (Or.inr (Or.inl ⟨st_w (by decide) k1 v1, by rw [r6]; exact t0, g1⟩))⟩))), k4, by rw [k0]; decide, hr, g2⟩
theorem par_go (hw : w ≤ 6) (hh : h ≤ 6) : ∀ (ps : List PT) (A : AS9) (S : YSt) (i f : Nat), ps.length < f → okR w h A ps → Rl9 vl w h S A → ST kd vl i (parT ps) → ∃ T, gFin kd vl f S i T ∧ gAcc kd vl f S i ∧ T.2.2.1 = (rnA A ps).1
  | [], A, S, i, f, hf, _, R, hs => by
    obtain ⟨f, rfl⟩ : ∃ g, f = g + 1 := ⟨f - 1, by omega⟩
    exact ⟨S, gFin_end hs, gAcc_end hs, R.2.2.1⟩
  | p :: ps, A, S, i, f, hf, hk, R, hs => by
    have hl : (p :: ps).length = ps.length + 1 := rfl
    obtain ⟨f, rfl⟩ : ∃ g, f = g + 1 := ⟨f - 1, by omega⟩
    obtain ⟨S1, i1, g1, g2, g3, g4, g5⟩ := part_go hk.1 hw hh R hs
    obtain ⟨T, t1, t2, t3⟩ := par_go hw hh ps _ S1 (i1 + 1) f (by omega) hk.2 g5 g4
    exact ⟨T, gFin_step g1 g3 g2 t1, (gAcc_step g1 g3).mpr ⟨g2, t2⟩, t3⟩
end PTS
/-- a text as far as it is laid: schools, cells by snow, wall, sun, articles -/
def TX (w h s q ar : Int) (txt : List Int) : Prop := ((w = 2 ∨ w = 4) ∧ 1 ≤ h ∧ h ≤ 3) ∧ ∃ ps, txt = tkB (hdrT w h ++ parT ps) ∧ okR w h A09 ps ∧ (rnA A09 ps).1 = s ∧ (∀ a c : Int, 0 ≤ a → a ≤ 2 → q ≤ 3 * c + a → (rnA A09 ps).2.1 a c = 0) ∧ (∀ a : Int, ar ≤ a → (rnA A09 ps).2.2 a = -1) ∧ (ps.length : Int) ≤ s + q + ar
def LX (X : xW) (H : Heap) (ra tp m : Nat) (w h s q ar : Int) : Prop := ∃ txt, LT X H ra tp m txt ∧ TX w h s q ar txt
section TXS
variable {X : xW} {Γ : Nat → Option Nat} {H H1 : Heap} {ra tp m : Nat} {w h s q q' ar x y c v v1 v2 v3 : Int} {txt : List Int}
theorem TX.ext (tx : TX w h s q ar txt) (p : PT) {s' q' ar' : Int} (hok : ∀ A : AS9, A.1 = s → (∀ a c : Int, 0 ≤ a → a ≤ 2 → q ≤ 3 * c + a → A.2.1 a c = 0) → (∀ a : Int, ar ≤ a → A.2.2 a = -1) → okA w h A p ∧ (apA A p).1 = s' ∧ (∀ a c : Int, 0 ≤ a → a ≤ 2 → q' ≤ 3 * c + a → (apA A p).2.1 a c = 0) ∧ (∀ a : Int, ar' ≤ a → (apA A p).2.2 a = -1)) (hl : s + q + ar + 1 ≤ s' + q' + ar') : TX w h s' q' ar' (txt ++ tkB (partT p)) := by
  obtain ⟨hb, ps, h1, h2, h3, h4, h5, h6⟩ := tx
  obtain ⟨k1, k2, k3, k4⟩ := hok _ h3 h4 h5
  refine ⟨hb, ps ++ [p], by rw [parT_s, ← List.append_assoc, tkB_a, ← h1], okR_s _ _ h2 k1, by rw [rnA_s]; exact k2, by rw [rnA_s]; exact k3, by rw [rnA_s]; exact k4, ?_⟩
  rw [List.length_append]
  show ((ps.length + 1 : Nat) : Int) ≤ _
  omega
theorem TX.mono (tx : TX w h s q ar txt) (hq : q ≤ q') : TX w h s q' ar txt := by
  obtain ⟨hb, ps, h1, h2, h3, h4, h5, h6⟩ := tx
  exact ⟨hb, ps, h1, h2, h3, fun a c a0 a1 h => h4 a c a0 a1 (by omega), h5, by omega⟩
theorem LX.mono (l : LX X H ra tp m w h s q ar) (hq : q ≤ q') : LX X H ra tp m w h s q' ar := by
  obtain ⟨txt, a, b⟩ := l
  exact ⟨txt, a, b.mono hq⟩
theorem LX.s2 (l : LX X H ra tp m w h c q ar) (hs : c = s) (hq : q = q') : LX X H ra tp m w h s q' ar := by
  subst hs hq
  exact l
theorem lit_t : lit 0 = tkB1 (tW false (wL 0)) ∧ lit 1 = tkB1 (tW true (wL 1)) ∧ lit 2 = [59] ∧ lit 3 = tkB [tW false (wL 2), tW true [117], tW true (wL 3)] ∧ lit 4 = tkB [tW false (wL 2), tW true [118], tW true (wL 3)] ∧ lit 5 = tkB1 (tW false (wL 4)) ∧ lit 6 = tkB1 (tW true (wL 5)) ∧ lit 7 = tkB1 (tW false (wL 6)) ∧ lit 8 = tkB1 (tW true (wL 7)) ∧ lit 9 = tkB1 (tW false (wL 8)) ∧ lit 10 = tkB1 (tW true (wL 9)) ∧ lit 11 = tkB [tW false (wL 10), tW true (wL 6), tW true (wL 11)] ∧ lit 12 = tkB [tW false (wL 10), tW true (wL 12), tW true (wL 13)] ∧ lit 13 = tkB [tW false (wL 10), tW true (wL 14), tS] ∧ lit 14 = tkB [tW false (wL 10), tW true (wL 15), tW true (wL 11)] := by decide +kernel
theorem nu_t : nuB v = tkB1 (tN v) := rfl
theorem tk_3 {a b d e f : TKN} : tkB [a, b, d] ++ (tkB1 e ++ tkB1 f) = tkB [a, b, d, e, f] := by
  simp only [tkB, List.append_assoc, List.append_nil]
theorem tk_6 {a b d e f g : TKN} : tkB1 a ++ (tkB1 b ++ (tkB1 d ++ (tkB1 e ++ (tkB1 f ++ tkB1 g)))) = tkB [a, b, d, e, f, g] := by
  simp only [tkB, List.append_assoc, List.append_nil]
theorem tk_5 {a b d e f : TKN} : tkB1 a ++ (tkB1 b ++ (tkB1 d ++ (tkB1 e ++ tkB1 f))) = tkB [a, b, d, e, f] := by
  simp only [tkB, List.append_assoc, List.append_nil]
theorem s59 : ([59] : List Int) = tkB1 tS := rfl
theorem LX.hdr (l : LT X H ra tp m ((((([] ++ lit 0) ++ nuB v1) ++ lit 1) ++ nuB v2) ++ lit 2)) (e1 : v1 = w) (e2 : v2 = h) (hw : w = 2 ∨ w = 4) (hh : 1 ≤ h ∧ h ≤ 3) : LX X H ra tp m w h 0 0 0 := by
  subst e1 e2
  refine ⟨_, l, ⟨hw, hh⟩, [], ?_, trivial, rfl, fun _ _ _ _ _ => rfl, fun _ _ => rfl, by decide⟩
  have t := lit_t
  rw [t.1, t.2.1, t.2.2.1, nu_t, nu_t, s59, List.nil_append, List.append_assoc, List.append_assoc, List.append_assoc, tk_5]
  rfl
theorem LX.sch {k : Nat} (l : LT X H ra tp m (((txt ++ lit k) ++ nuB v) ++ lit 2)) (tx : TX w h s 0 0 txt) (hk : (k = 3 ∧ s = 0) ∨ (k = 4 ∧ s = 1)) (h0 : 0 ≤ v) (h1 : v ≤ 40) {s' : Int} (hs : s' = s + 1) : LX X H ra tp m w h s' 0 0 := by
  have t := lit_t
  subst hs
  rw [List.append_assoc, List.append_assoc, t.2.2.1, nu_t, s59] at l
  rcases hk with ⟨rfl, e⟩ | ⟨rfl, e⟩
  · rw [t.2.2.2.1, tk_3] at l
    exact ⟨_, l, tx.ext (0, 0, 0, v) (fun A a1 a2 a3 => ⟨⟨a1.trans e, h0, h1⟩, by show A.1 + 1 = _; rw [a1], a2, a3⟩) (by omega)⟩
  · rw [t.2.2.2.2.1, tk_3] at l
    exact ⟨_, l, tx.ext (1, 0, 0, v) (fun A a1 a2 a3 => ⟨⟨a1.trans e, h0, h1⟩, by show A.1 + 1 = _; rw [a1], a2, a3⟩) (by omega)⟩
theorem row_t {a b : Nat} {i j : Nat} (ha : lit a = tkB1 (tW false (wL i))) (hb : lit b = tkB1 (tW true (wL j))) (hv : v ≠ 0) (hc : c % 6 = x ∧ c / 6 = y) : rwB a c b v = tkB [tW false (wL i), tN x, tN y, tW true (wL j), tN v, tS] := by
  unfold rwB
  rw [if_neg hv, ha, hb, hc.1, hc.2, nu_t, nu_t, nu_t, lit_t.2.2.1, s59, tk_6]
theorem TX.row (tx : TX w h s q ar txt) {a b : Nat} {k : Int} (hab : (a = 5 ∧ b = 6 ∧ k = 0) ∨ (a = 7 ∧ b = 8 ∧ k = 1) ∨ (a = 9 ∧ b = 10 ∧ k = 2)) (hx : 0 ≤ x ∧ x < w) (hy : 0 ≤ y ∧ y < h) (hc : c = 6 * y + x) (hq : q ≤ 3 * c + k) (h0 : 0 ≤ v) (h1 : v ≤ 99) (h2 : k = 2 → v ≤ 9) : TX w h s (3 * c + k + 1) ar (txt ++ rwB a c b v) := by
  have hb := tx.1
  by_cases e : v = 0
  · rw [show rwB a c b v = [] from if_pos e, List.append_nil]
    exact tx.mono (by omega)
  have hcc : c % 6 = x ∧ c / 6 = y := by omega
  have t := lit_t
  have key : ∀ kk : Int, ∀ A : AS9, (∀ a c : Int, 0 ≤ a → a ≤ 2 → q ≤ 3 * c + a → A.2.1 a c = 0) → 0 ≤ kk → kk ≤ 2 → kk = k → ∀ a c2 : Int, 0 ≤ a → a ≤ 2 → 3 * c + k + 1 ≤ 3 * c2 + a → (if a = kk ∧ c2 = 6 * y + x then (1 : Int) else A.2.1 a c2) = 0 := fun kk A ha k0 k1 ek a c2 a0 a1 hle => by
    rw [if_neg (by omega)]
    exact ha a c2 a0 a1 (by omega)
  rcases hab with ⟨rfl, rfl, rfl⟩ | ⟨rfl, rfl, rfl⟩ | ⟨rfl, rfl, rfl⟩
  · rw [row_t (x := x) (y := y) t.2.2.2.2.2.1 t.2.2.2.2.2.2.1 e hcc]
    exact tx.ext (2, x, y, v) (fun A a1 a2 a3 => ⟨⟨⟨hx.1, hx.2, hy.1, hy.2⟩, a2 0 _ (by decide) (by decide) (by show q ≤ 3 * (6 * y + x) + 0; omega), h0, h1⟩, a1, key 0 A a2 (by decide) (by decide) rfl, a3⟩) (by omega)
  · rw [row_t (x := x) (y := y) t.2.2.2.2.2.2.2.1 t.2.2.2.2.2.2.2.2.1 e hcc]
    exact tx.ext (3, x, y, v) (fun A a1 a2 a3 => ⟨⟨⟨hx.1, hx.2, hy.1, hy.2⟩, a2 1 _ (by decide) (by decide) (by show q ≤ 3 * (6 * y + x) + 1; omega), h0, h1⟩, a1, key 1 A a2 (by decide) (by decide) rfl, a3⟩) (by omega)
  · rw [row_t (x := x) (y := y) t.2.2.2.2.2.2.2.2.2.1 t.2.2.2.2.2.2.2.2.2.2.1 e hcc]
    exact tx.ext (4, x, y, v) (fun A a1 a2 a3 => ⟨⟨⟨hx.1, hx.2, hy.1, hy.2⟩, a2 2 _ (by decide) (by decide) (by show q ≤ 3 * (6 * y + x) + 2; omega), h0, h2 rfl⟩, a1, key 2 A a2 (by decide) (by decide) rfl, a3⟩) (by omega)
theorem LX.cel {d : Int} (l : LT X H ra tp m (((txt ++ rwB 5 c 6 v1) ++ rwB 7 c 8 v2) ++ rwB 9 c 10 v3)) (tx : TX w h s (18 * y + 3 * x) 0 txt) (hx0 : 0 ≤ x) (hx : x < w) (hy0 : 0 ≤ y) (hy : y < h) (hc : c = 6 * y + x) (h1 : 0 ≤ v1 ∧ v1 ≤ 24) (h2 : 0 ≤ v2 ∧ v2 ≤ 24) (h3 : 0 ≤ v3 ∧ v3 ≤ 9) (hd : d = 18 * y + 3 * (x + 1)) : LX X H ra tp m w h s d 0 := by
  have t1 := tx.row (Or.inl ⟨rfl, rfl, rfl⟩) ⟨hx0, hx⟩ ⟨hy0, hy⟩ hc (by omega) h1.1 (by omega) (by omega)
  have t2 := t1.row (Or.inr (Or.inl ⟨rfl, rfl, rfl⟩)) ⟨hx0, hx⟩ ⟨hy0, hy⟩ hc (by omega) h2.1 (by omega) (by omega)
  have t3 := t2.row (Or.inr (Or.inr ⟨rfl, rfl, rfl⟩)) ⟨hx0, hx⟩ ⟨hy0, hy⟩ hc (by omega) h3.1 (by omega) (by omega)
  exact ⟨_, l, t3.mono (by omega)⟩
theorem art_x {k z : Int} {A : AS9} (a3 : ∀ a : Int, ar ≤ a → A.2.2 a = -1) (hk : ar ≤ k) : ∀ a : Int, k + 1 ≤ a → (arA k z A).2.2 a = -1 := fun a ha => by
  show (if a = k then z else A.2.2 a) = -1
  rw [if_neg (by omega)]
  exact a3 a (by omega)
theorem LX.aw (l : LT X H ra tp m (((txt ++ lit 11) ++ nuB v) ++ lit 2)) (tx : TX w h s q 0 txt) (h0 : 0 ≤ v) (h1 : v ≤ 20) : LX X H ra tp m w h s q 1 := by
  have t := lit_t
  rw [List.append_assoc, List.append_assoc, t.2.2.1, nu_t, s59, t.2.2.2.2.2.2.2.2.2.2.2.1, tk_3] at l
  exact ⟨_, l, tx.ext (5, 0, 0, v) (fun A a1 a2 a3 => ⟨⟨a3 0 (by omega), h0, h1⟩, a1, a2, art_x (k := 0) (z := v) a3 (by omega)⟩) (by omega)⟩
theorem LX.ab (l : LT X H ra tp m (((txt ++ lit 12) ++ nuB v) ++ lit 2)) (tx : TX w h s q ar txt) (ha : ar ≤ 1) (h0 : 0 ≤ v) (h1 : v ≤ 40) : LX X H ra tp m w h s q 2 := by
  have t := lit_t
  rw [List.append_assoc, List.append_assoc, t.2.2.1, nu_t, s59, t.2.2.2.2.2.2.2.2.2.2.2.2.1, tk_3] at l
  exact ⟨_, l, tx.ext (6, 0, 0, v) (fun A a1 a2 a3 => ⟨⟨a3 1 (by omega), h0, h1⟩, a1, a2, art_x (k := 1) (z := v) a3 (by omega)⟩) (by omega)⟩
theorem LX.as (l : LT X H ra tp m (txt ++ lit 13)) (tx : TX w h s q ar txt) (ha : ar ≤ 2) : LX X H ra tp m w h s q 3 := by
  have t := lit_t
  rw [t.2.2.2.2.2.2.2.2.2.2.2.2.2.1] at l
  exact ⟨_, l, tx.ext (7, 0, 0, 0) (fun A a1 a2 a3 => ⟨a3 2 (by omega), a1, a2, art_x (k := 2) (z := 0) a3 (by omega)⟩) (by omega)⟩
theorem LX.ai (l : LT X H ra tp m (((txt ++ lit 14) ++ nuB v) ++ lit 2)) (tx : TX w h s q ar txt) (ha : ar ≤ 3) (h0 : 0 ≤ v) (h1 : v ≤ 18) : LX X H ra tp m w h s q 4 := by
  have t := lit_t
  rw [List.append_assoc, List.append_assoc, t.2.2.1, nu_t, s59, t.2.2.2.2.2.2.2.2.2.2.2.2.2.2, tk_3] at l
  exact ⟨_, l, tx.ext (8, 0, 0, v) (fun A a1 a2 a3 => ⟨⟨a3 3 (by omega), h0, h1⟩, a1, a2, art_x (k := 3) (z := v) a3 (by omega)⟩) (by omega)⟩
/-- the text is taken -/
theorem TX.fin {b : Nat → Int} {N : Nat} {pos : Nat → Nat} {kd vl w3 : Nat → Int} (tx : TX w h s q ar txt) (ht : TKS b txt.length N pos kd vl w3) (hb : ∀ j : Nat, j < txt.length → b j = txt.getD j 0) (hs : s ≤ 2) (hq : q ≤ 60) (ha : ar ≤ 4) : ∃ T, gYard kd vl w h ∧ gFin kd vl 1000 (Si0 vl) 5 T ∧ T.2.2.1 = s := by
  obtain ⟨⟨hw, hh1, hh3⟩, ps, h1, h2, h3, h4, h5, h6⟩ := tx
  have hwt : WT (hdrT w h ++ parT ps) := hdr_wt (by omega) (by omega) (par_wt (by omega) (by omega) ps _ h2)
  have st := stm ht (hdrT w h ++ parT ps) 0 0 hwt ht.1 (Nat.zero_le _) (fun j hj => by rw [Nat.zero_add, ← h1]; exact hb j (by rw [h1]; exact hj)) (by rw [Nat.zero_add, ← h1])
  obtain ⟨k0, v0, k1, v1, k2, v2, k3, v3, k4, -, hr⟩ := st
  have n1 := st_n (lo := 2) (hi := 6) k1 v1 (by omega) (by omega) (by omega) (by omega)
  have n3 := st_n (lo := 1) (hi := 6) k3 v3 (by omega) (by omega) (by omega) (by omega)
  have hg : gHead kd vl w h := ⟨st_w (by decide) k0 v0, n1.1, by rw [n1.2]; omega, st_w (by decide) k2 v2, n3.1, k4, n1.2.symm, n3.2.symm⟩
  have e : Si0 vl = (w, h, 0, 0, (fun _ _ => 0), fun _ => -1) := by
    unfold Si0
    rw [show vl 1 = w from n1.2, show vl 3 = h from n3.2]
  obtain ⟨T, t1, t2, t3⟩ := par_go (kd := kd) (vl := vl) (w := w) (h := h) (by omega) (by omega) ps A09 (w, h, 0, 0, (fun _ _ => 0), fun _ => -1) 5 1000 (by omega) h2 ⟨rfl, rfl, rfl, fun q => absurd q (by decide), rfl, rfl⟩ hr
  exact ⟨T, ⟨hg, t2⟩, by rw [e]; exact t1, t3.trans h3⟩
theorem TX.out {x1 : Nat} {kd vl : Nat → Int} {T9 : YSt} {z : Int} (g : gYard kd vl w h) (f : gFin kd vl 1000 (Si0 vl) 5 T9) (e : T9.2.2.1 = s) (hy : (∃ w h T, gYard kd vl w h ∧ gFin kd vl 1000 (Si0 vl) 5 T ∧ z = w * h ∧ YD0 X Γ H x1 w h T.2.2.1) ∨ ∀ w h, ¬ gYard kd vl w h) : z = w * h ∧ YD0 X Γ H x1 w h s := by
  rcases hy with ⟨w', h', T, a1, a2, a3, a4⟩ | hy
  · have ew : w' = w := a1.1.2.2.2.2.2.2.1.trans g.1.2.2.2.2.2.2.1.symm
    have eh : h' = h := a1.1.2.2.2.2.2.2.2.trans g.1.2.2.2.2.2.2.2.symm
    have eT := gFin_det _ _ _ _ _ a2 f
    subst ew eh eT
    rw [← e]
    exact ⟨a3, a4⟩
  · exact absurd g (hy w h)
end TXS
