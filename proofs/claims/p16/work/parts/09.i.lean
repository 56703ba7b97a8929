-- the tape, byte by byte
def bt (p s : Int32) : Int32 := (p >>> (s &&& 31)).toInt8.toInt32.toInt8.toInt32
def APP (H0 H : Heap) (tp : Nat) (F G : Int) (p : Int32) : Prop := ∀ j : Nat, sI H tp j = if F ≤ (j : Int) ∧ (j : Int) < G then bt p (Int32.ofInt (24 - 8 * ((j : Int) - F))) else sI H0 tp j
def FDR (H0 H : Heap) (tp : Nat) (F : Int) (a b c d e : Int32) : Prop := (880 < F ∧ ∀ j, sI H tp j = sI H0 tp j) ∨ (F ≤ 880 ∧ ∃ A B C D : Heap, APP H0 A tp F (F + 4) a ∧ APP A B tp (F + 4) (F + 8) b ∧ APP B C tp (F + 8) (F + 12) c ∧ APP C D tp (F + 12) (F + 16) d ∧ APP D H tp (F + 16) (F + 20) e)
/-- both tapes hold the same bytes -/
def TPQ (H : Heap) (tp tq : Nat) (F : Int) : Prop := ∀ j : Nat, (j : Int) < F → sI H tp j = sI H tq j ∧ -128 ≤ (sI H tp j).toInt ∧ (sI H tp j).toInt ≤ 127
section TAP
variable {H H0 H1 H2 H3 : Heap} {tp tq a j : Nat} {F G : Int} {p x s : Int32} {v : Value}
theorem APP.nil : APP H0 H0 tp F F p := fun j => (if_neg (by omega)).symm
theorem APP.cast (h : APP H0 H tp F G p) {F' G' : Int} (e : F = F') (e2 : G = G') : APP H0 H tp F' G' p := by subst e e2; exact h
theorem APP.ne (h : APP H0 H tp F G p) (U : Up H H1 a j v) (hne : a ≠ tp) : APP H0 H1 tp F G p := fun k => (up_nI U (fun q => hne q.1.symm)).trans (h k)
theorem APP.step (h : APP H0 H tp F G p) (U : Up H H1 tp j (.int x)) (hj : (j : Int) = G) (hF : F ≤ G) (hx : x = bt p s) (hs : s.toInt = 24 - 8 * (G - F)) : APP H0 H1 tp F (G + 1) p := fun k => by
  by_cases e : k = j
  · subst e
    rw [up_I U, if_pos (by omega), hx, hj, ← hs, Int32.ofInt_toInt]
  · rw [up_nI U (fun q => e q.2), h k]
    by_cases c : F ≤ (k : Int) ∧ (k : Int) < G
    · rw [if_pos c, if_pos (by omega)]
    · rw [if_neg c, if_neg (by omega)]
theorem APP.fr (h : APP H1 H tp F G p) (e : ∀ j, sI H1 tp j = sI H0 tp j) : APP H0 H tp F G p := fun k => by rw [h k, e k]
theorem bt_rng : -128 ≤ (bt p s).toInt ∧ (bt p s).toInt ≤ 127 := by
  unfold bt
  generalize (p >>> (s &&& 31)).toInt8.toInt32 = y
  rw [Int8.toInt_toInt32]
  exact ⟨Int8.le_toInt _, Int.le_of_lt_add_one (Int8.toInt_lt _)⟩
theorem APP.rel {A B : Heap} {n : Int} (h : APP H0 A tp F G p) (h' : APP H1 B tq F G p) (hr : ∀ j : Nat, (j : Int) < F → sI H0 tp j = sI H1 tq j ∧ -128 ≤ (sI H0 tp j).toInt ∧ (sI H0 tp j).toInt ≤ 127) : ∀ j : Nat, (j : Int) < G → sI A tp j = sI B tq j ∧ -128 ≤ (sI A tp j).toInt ∧ (sI A tp j).toInt ≤ 127 := fun k hk => by
  rw [h k, h' k]
  by_cases c : F ≤ (k : Int) ∧ (k : Int) < G
  · rw [if_pos c, if_pos c]
    exact ⟨rfl, bt_rng⟩
  · rw [if_neg c, if_neg c]
    exact hr k (by omega)
theorem FDR.rel {a b c d e : Int32} {Ha Hb Hc Hd : Heap} (h : FDR Ha Hb tp F a b c d e) (h' : FDR Hc Hd tq F a b c d e) (hr : ∀ j : Nat, (j : Int) < F → sI Ha tp j = sI Hc tq j ∧ -128 ≤ (sI Ha tp j).toInt ∧ (sI Ha tp j).toInt ≤ 127) {G : Int} (hG : (880 < F ∧ G = F) ∨ (F ≤ 880 ∧ G = F + 20)) : ∀ j : Nat, (j : Int) < G → sI Hb tp j = sI Hd tq j ∧ -128 ≤ (sI Hb tp j).toInt ∧ (sI Hb tp j).toInt ≤ 127 := by
  rcases h with ⟨h0, h⟩ | ⟨h0, A, B, C, D, h1, h2, h3, h4, h5⟩ <;> rcases h' with ⟨g0, g⟩ | ⟨g0, A', B', C', D', g1, g2, g3, g4, g5⟩
  · intro j hj
    rw [h j, g j]
    exact hr j (by omega)
  · omega
  · omega
  · have r1 := APP.rel (n := 0) h1 g1 hr
    have r2 := APP.rel (n := 0) h2 g2 r1
    have r3 := APP.rel (n := 0) h3 g3 r2
    have r4 := APP.rel (n := 0) h4 g4 r3
    have r5 := APP.rel (n := 0) h5 g5 r4
    intro j hj
    exact r5 j (by omega)
end TAP
-- the reference's tokens
def WWI (b : Nat → Int) (p q x : Int) : Prop := (q - p ≤ 8 → x = cdN 32 b p.toNat (q - p).toNat) ∧ (8 < q - p → x = -1)
/-- next's work: from byte p on -/
def TKM (b : Nat → Int) (n p s q tok num lett word : Int) : Prop := ∃ k v w : Int, TK b n.toNat p.toNat k v w s.toNat q.toNat ∧ 0 ≤ s ∧ 0 ≤ q ∧ ((k = 0 ∧ tok = 0) ∨ (k = 2 ∧ tok = 1 ∧ word = w ∧ lett = q - s) ∨ (k = 3 ∧ tok = 2 ∧ num = v) ∨ (59 ≤ k ∧ k ≤ 62 ∧ tok = 3 ∧ num = k) ∨ (k = 1 ∧ tok = 4))
section TKR
variable {H H0 H1 : Heap} {tp r j : Nat} {a l w x y z p q n s v k tok num lett word a2 n2 : Int} {b : Nat → Int} {X : xW} {Γ : Nat → Option Nat} {P : Int → Prop}
theorem LK.cv (h : (a < n ∧ w = bf H tp a.toNat % 256) ∨ (n ≤ a ∧ w = 0)) (ht : ∀ j, sI H tp j = sI H0 tp j) (e1 : n = n2) (e2 : a = a2) : (a2 < n2 ∧ w = bf H0 tp a2.toNat % 256) ∨ (n2 ≤ a2 ∧ w = 0) := by
  subst e1 e2
  rw [bf_eq ht] at h
  exact h
theorem and255 {x z : Int32} (e : z = x &&& 255) : z.toInt = x.toInt % 256 := by
  subst e
  have h1 : (x &&& 255).toUInt32.toNat = x.toUInt32.toNat % 256 := by
    show (x.toUInt32 &&& (255 : Int32).toUInt32).toNat = _
    rw [UInt32.toNat_and, show ((255 : Int32).toUInt32).toNat = 2 ^ 8 - 1 from by decide, Nat.and_two_pow_sub_one_eq_mod]
  have h2 : ∀ y : Int32, y.toInt = (y.toUInt32.toNat : Int) ∨ y.toInt = (y.toUInt32.toNat : Int) - 4294967296 := fun y => by
    have := BitVec.toInt_eq_toNat_cond y.toBitVec
    have e1 : y.toInt = y.toBitVec.toInt := rfl
    have e2 : y.toUInt32.toNat = y.toBitVec.toNat := rfl
    rw [e1, e2, this]
    split
    · exact Or.inl rfl
    · exact Or.inr rfl
  have h3 : (x &&& 255).toInt = ((x &&& 255).toUInt32.toNat : Int) := by
    have := BitVec.toInt_eq_toNat_cond (x &&& 255).toBitVec
    have e1 : (x &&& 255).toInt = (x &&& 255).toBitVec.toInt := rfl
    have e2 : (x &&& 255).toUInt32.toNat = (x &&& 255).toBitVec.toNat := rfl
    rw [e2] at h1 ⊢
    rw [e1, this, if_pos (by omega)]
  rcases h2 x with h | h <;> omega
theorem br_of (hC : Conf X Γ H) (g : Γ tp = some 63) (hj : j < 900) : -128 ≤ bf H tp j ∧ bf H tp j ≤ 127 := by
  obtain ⟨z, h1, h2⟩ := (hC tp 63 g).arr rfl rfl
  obtain ⟨i, hi, l1, l2⟩ := h2 j hj
  have h3 : (arrV (X.2 0) 900 z).slots[j]? = some (.int i) := by rw [arrV_read _ _ hj, hi]
  have e : bf H tp j = i.toInt := by unfold bf sI sv; rw [h1]; simp [h3]
  rw [e]
  exact ⟨l1, l2⟩
theorem cdN32_bd : ∀ m s : Nat, LtR b s m → cdN 32 b s m < 32 ^ m := by
  intro m s
  induction m with
  | zero =>
    intro _
    show (0 : Int) < 32 ^ 0
    decide
  | succ m ih =>
    intro h
    have h1 := ih (fun j hj => h j (by omega))
    have h2 := h m (by omega)
    have e : cdN 32 b s (m + 1) = cdN 32 b s m * 32 + (b (s + m) - 96) := rfl
    rw [e, Int.pow_succ]
    omega
theorem WWI.nil : WWI b p p 0 := ⟨fun _ => by rw [Int.sub_self]; rfl, fun h => by omega⟩
theorem WWI.out (h : 8 ≤ q - p) : WWI b p (q + 1) (-1) := ⟨fun h8 => by omega, fun _ => rfl⟩
theorem WWI.cast (h : WWI b p q x) (e : q = z) (e2 : x = y) : WWI b p z y := by subst e e2; exact h
theorem WWI.step {u u1 bl u2 u3 : Int64} (e1 : u1 = u * 32) (e2 : u2 = u1 + bl) (e3 : u3 = u2 - 96) (hb : bl.toInt = w) (hw : isLt w) (hu : u.toInt = y) (h : WWI b p q y) (hwb : w = b q.toNat) (hsp : SpP isLt b n p q) (h0 : 0 ≤ p) (hq : q - p < 8) : WWI b p (q + 1) u3.toInt := by
  refine ⟨fun h8 => ?_, fun h8 => by omega⟩
  have hpq := hsp.1
  obtain ⟨k, hk⟩ : ∃ k : Nat, (k : Int) = q - p := ⟨(q - p).toNat, by omega⟩
  have hx := hu.trans (h.1 (by omega))
  rw [show (q - p).toNat = k by omega] at hx
  have hL := hsp.ltR h0 k (by omega)
  have n0 := (cdN_nn (β := 32) (by decide) k hL).1
  have n1 := cdN32_bd k p.toNat hL
  have n2 : (32 : Int) ^ k ≤ 32 ^ 7 := by
    rcases (show k = 0 ∨ k = 1 ∨ k = 2 ∨ k = 3 ∨ k = 4 ∨ k = 5 ∨ k = 6 ∨ k = 7 by omega) with rfl | rfl | rfl | rfl | rfl | rfl | rfl | rfl <;> decide
  have n3 : (32 : Int) ^ 7 = 34359738368 := by decide
  unfold isLt at hw
  have f1 := l_mul e1 rfl (show (32 : Int64).toInt = 32 from by decide) (by omega) (by omega)
  have f2 := l_add e2 f1 hb (by omega) (by omega)
  have f3 := l_sub e3 f2 (show (96 : Int64).toInt = 96 from by decide) (by omega) (by omega)
  rw [show (q + 1 - p).toNat = k + 1 by omega, f3, hx]
  show _ = cdN 32 b p.toNat k * 32 + (b (p.toNat + k) - 96)
  rw [show p.toNat + k = q.toNat by omega, ← hwb]
  omega
theorem TKM.castn (h : TKM b n p s q tok num lett word) {n' p' : Int} (e : n = n') (e2 : p = p') : TKM b n' p' s q tok num lett word := by subst e e2; exact h
theorem TKM.cast (h : TKM b n p s q tok num lett word) {s' q' tok' num' lett' word' : Int} (e1 : s = s') (e2 : q = q') (e3 : tok = tok') (e4 : num = num') (e5 : lett = lett') (e6 : word = word') : TKM b n p s' q' tok' num' lett' word' := by
  subst e1 e2 e3 e4 e5 e6
  exact h
theorem TKM.fin (h1 : SpZ isBl b n p s) (h2 : n ≤ s) (h0 : 0 ≤ p) (hn : 0 ≤ n) (hq : 0 ≤ q) (ht : tok = 0) : TKM b n p s q tok num lett word := by
  have a1 := h1.1.1
  exact ⟨0, 0, 0, ⟨h1.sp h0 hn, Or.inl ⟨by omega, rfl⟩⟩, by omega, hq, Or.inl ⟨rfl, ht⟩⟩
theorem TKM.wordT (h1 : SpZ isBl b n p s) (h2 : s < n) (h3 : isLt (b s.toNat)) (h4 : SpZ isLt b n s q) (h0 : 0 ≤ p) (ht : tok = 1) (hl : lett = q - s) (hw : WWI b s q word) : TKM b n p s q tok num lett word := by
  have a1 := h1.1.1
  have a4 := h4.1.1
  refine ⟨2, if q.toNat - s.toNat ≤ 8 then cdN 27 b s.toNat (q.toNat - s.toNat) else 0, if q.toNat - s.toNat ≤ 8 then cdN 32 b s.toNat (q.toNat - s.toNat) else -1, ⟨h1.sp h0 (by omega), Or.inr (Or.inl ⟨by omega, h3, rfl, h4.sp (by omega) (by omega), rfl, rfl⟩)⟩, by omega, by omega, Or.inr (Or.inl ⟨rfl, ht, ?_, hl⟩)⟩
  by_cases e : q - s ≤ 8
  · rw [if_pos (by omega), hw.1 e, show q.toNat - s.toNat = (q - s).toNat by omega]
  · rw [if_neg (by omega), hw.2 (by omega)]
theorem TKM.numT (h1 : SpZ isBl b n p s) (h2 : s < n) (h3 : isDg (b s.toNat)) (h4 : SpZ isDg b n s q) (h0 : 0 ≤ p) (ht : tok = 2) (hq : q - s ≤ 4) (hv : PNI b s q num) : TKM b n p s q tok num lett word := by
  have a1 := h1.1.1
  have a4 := h4.1.1
  refine ⟨3, num, 0, ⟨h1.sp h0 (by omega), Or.inr (Or.inr (Or.inl ⟨by omega, h3, h4.sp (by omega) (by omega), Or.inl ⟨by omega, rfl, ?_⟩⟩))⟩, by omega, by omega, Or.inr (Or.inr (Or.inl ⟨rfl, ht, rfl⟩))⟩
  rw [hv hq, show q.toNat - s.toNat = (q - s).toNat by omega]
theorem TKM.long (h1 : SpZ isBl b n p s) (h2 : s < n) (h3 : isDg (b s.toNat)) (h4 : SpZ isDg b n s q) (h0 : 0 ≤ p) (ht : tok = 4) (hq : 4 < q - s) : TKM b n p s q tok num lett word := by
  have a1 := h1.1.1
  have a4 := h4.1.1
  exact ⟨1, 0, 0, ⟨h1.sp h0 (by omega), Or.inr (Or.inr (Or.inl ⟨by omega, h3, h4.sp (by omega) (by omega), Or.inr ⟨by omega, rfl⟩⟩))⟩, by omega, by omega, Or.inr (Or.inr (Or.inr (Or.inr ⟨rfl, ht⟩)))⟩
theorem TKM.sign (h1 : SpZ isBl b n p s) (h2 : s < n) (h3 : ¬ isLt (b s.toNat)) (h4 : ¬ isDg (b s.toNat)) (h0 : 0 ≤ p) (hq : q = s + 1) (h5 : 59 ≤ b s.toNat) (h6 : b s.toNat ≤ 62) (ht : tok = 3) (hn : num = b s.toNat) : TKM b n p s q tok num lett word := by
  have a1 := h1.1.1
  exact ⟨b s.toNat, 0, 0, ⟨h1.sp h0 (by omega), Or.inr (Or.inr (Or.inr ⟨by omega, h3, h4, by omega, Or.inl ⟨h5, h6, rfl⟩⟩))⟩, by omega, by omega, Or.inr (Or.inr (Or.inr (Or.inl ⟨h5, h6, ht, hn⟩)))⟩
theorem TKM.bad (h1 : SpZ isBl b n p s) (h2 : s < n) (h3 : ¬ isLt (b s.toNat)) (h4 : ¬ isDg (b s.toNat)) (h0 : 0 ≤ p) (hq : q = s + 1) (h5 : ¬ (59 ≤ b s.toNat ∧ b s.toNat ≤ 62)) (ht : tok = 4) : TKM b n p s q tok num lett word := by
  have a1 := h1.1.1
  exact ⟨1, 0, 0, ⟨h1.sp h0 (by omega), Or.inr (Or.inr (Or.inr ⟨by omega, h3, h4, by omega, Or.inr ⟨h5, rfl⟩⟩))⟩, by omega, by omega, Or.inr (Or.inr (Or.inr (Or.inr ⟨rfl, ht⟩)))⟩
end TKR
-- the reference at the stream's i-th token
def WDM (X : xW) (H : Heap) (r : Nat) (w : Int) : Prop := (sI H r (X.1.2 11 14)).toInt = 1 ∧ (sJ H r (X.1.2 11 19)).toInt = w
def SPL (p q r s t u : Int) : Int :=
  let w := (p - 96) * 32 + q - 96
  let w := if 0 < r then w * 32 + r - 96 else w
  let w := if 0 < s then w * 32 + s - 96 else w
  let w := if 0 < t then w * 32 + t - 96 else w
  if 0 < u then w * 32 + u - 96 else w
def KPM (X : xW) (H : Heap) (r : Nat) : Prop := ∃ j, j < 29 ∧ WDM X H r (k3 j)
def STJ : List Nat := [16, 17, 18, 12, 15, 14, 20, 22, 26, 28]
def TSJ : List Nat := [23, 6, 24, 25]
def KPL (X : xW) (H : Heap) (r : Nat) (L : List Nat) : Prop := ∃ j, j ∈ L ∧ WDM X H r (k3 j)
def MCT (tok num lett word k v w : Int) : Prop := (k = 0 ∧ tok = 0) ∨ (k = 2 ∧ tok = 1 ∧ word = w ∧ (lett ≤ 8 ↔ v ≠ 0)) ∨ (k = 3 ∧ tok = 2 ∧ num = v) ∨ (59 ≤ k ∧ k ≤ 62 ∧ tok = 3 ∧ num = k) ∨ (k = 1 ∧ tok = 4)
def MC (X : xW) (H : Heap) (r tq : Nat) (kd vl w3 : Nat → Int) (pos : Nat → Nat) (N i : Nat) : Prop := TKS (bf H tq) (sI H r (X.1.2 11 9)).toInt.toNat N pos kd vl w3 ∧ i ≤ N ∧ MCT (sI H r (X.1.2 11 14)).toInt (sI H r (X.1.2 11 17)).toInt (sI H r (X.1.2 11 18)).toInt (sJ H r (X.1.2 11 19)).toInt (kd i) (vl i) (w3 i) ∧ (kd i ≠ 0 → (sI H r (X.1.2 11 16)).toInt = pos (i + 1))
section MCX
variable {X : xW} {Γ : Nat → Option Nat} {H H0 H1 : Heap} {r tq a j i N n p q s : Nat} {kd vl w3 : Nat → Int} {pos : Nat → Nat} {gs : List Nat} {v : Value} {b : Nat → Int} {k z w : Int}
theorem TK.len (h : TK b n p 2 z w s q) : ((q : Int) - s ≤ 8 ↔ z ≠ 0) := by
  rcases h.2 with ⟨-, h⟩ | ⟨h1, h2, -, h3, h4, h5⟩ | ⟨-, -, -, h⟩ | ⟨-, -, -, -, h⟩
  · exact absurd h (by decide)
  · have hm : s < q := by
      have := h3.1
      rcases Nat.lt_or_ge s q with e | e
      · exact e
      · exact absurd ⟨by omega, by rw [show q = s by omega]; exact h2⟩ h3.2.2
    have hc := (cdN_nn (β := 27) (by decide) (q - s) h3.ltR).2 (by omega)
    by_cases e : q - s ≤ 8
    · rw [if_pos e] at h4
      exact ⟨fun _ => by omega, fun _ => by omega⟩
    · rw [if_neg e] at h4
      exact ⟨fun q => by omega, fun q => absurd h4 q⟩
  · omega
  · omega
theorem MCT.of {tok num lett word k v w k' v' w' : Int} {s' q' : Nat} (hT : TK b n p k v w s q) (hs : TK b n p k' v' w' s' q') (h : (k = 0 ∧ tok = 0) ∨ (k = 2 ∧ tok = 1 ∧ word = w ∧ lett = q - s) ∨ (k = 3 ∧ tok = 2 ∧ num = v) ∨ (59 ≤ k ∧ k ≤ 62 ∧ tok = 3 ∧ num = k) ∨ (k = 1 ∧ tok = 4)) : MCT tok num lett word k' v' w' ∧ (k' ≠ 0 → q = q') := by
  obtain ⟨e1, e2, e3, e4, e5⟩ := hT.uniq hs
  subst e1
  refine ⟨?_, e3⟩
  rcases h with ⟨h1, h2⟩ | ⟨h1, h2, h3, h4⟩ | ⟨h1, h2, h3⟩ | ⟨h1, h2, h3, h4⟩ | ⟨h1, h2⟩
  · exact Or.inl ⟨h1, h2⟩
  · subst h1
    have := hT.len
    rw [e4 (Or.inl rfl)] at this
    exact Or.inr (Or.inl ⟨rfl, h2, h3.trans (e5 rfl), by rw [h4]; exact this⟩)
  · exact Or.inr (Or.inr (Or.inl ⟨h1, h2, h3.trans (e4 (Or.inr h1))⟩))
  · exact Or.inr (Or.inr (Or.inr (Or.inl ⟨h1, h2, h3, h4⟩)))
  · exact Or.inr (Or.inr (Or.inr (Or.inr ⟨h1, h2⟩)))
theorem MC.lt (h : MC X H r tq kd vl w3 pos N i) (h0 : kd i ≠ 0) : i < N := by
  have h1 := h.2.1
  rcases Nat.lt_or_ge i N with q | q
  · exact q
  · exact absurd (by rw [show i = N by omega]; exact h.1.2.2.1) h0
theorem MC.next (h : MC X H0 r tq kd vl w3 pos N i) (h0 : kd i ≠ 0) (ht : ∀ j, sI H1 tq j = sI H0 tq j) (hn : (sI H1 r (X.1.2 11 9)).toInt = (sI H0 r (X.1.2 11 9)).toInt)
    (hT : TKM (bf H0 tq) (sI H0 r (X.1.2 11 9)).toInt (sI H0 r (X.1.2 11 16)).toInt (sI H1 r (X.1.2 11 15)).toInt (sI H1 r (X.1.2 11 16)).toInt (sI H1 r (X.1.2 11 14)).toInt (sI H1 r (X.1.2 11 17)).toInt (sI H1 r (X.1.2 11 18)).toInt (sJ H1 r (X.1.2 11 19)).toInt) : MC X H1 r tq kd vl w3 pos N (i + 1) := by
  have hl := h.lt h0
  obtain ⟨hs, h1, h2, h3⟩ := h
  have hb := h3 h0
  obtain ⟨k, v, w, t1, t2, t3, t4⟩ := hT
  obtain ⟨s', hs'⟩ := hs.2.1 (i + 1) hl
  rw [hb, Int.toNat_natCast] at t1
  have hm := MCT.of t1 hs' (tok := (sI H1 r (X.1.2 11 14)).toInt) (num := (sI H1 r (X.1.2 11 17)).toInt) (lett := (sI H1 r (X.1.2 11 18)).toInt) (word := (sJ H1 r (X.1.2 11 19)).toInt) (by
    rcases t4 with q | ⟨q1, q2, q3, q4⟩ | q | q | q
    · exact Or.inl q
    · exact Or.inr (Or.inl ⟨q1, q2, q3, by omega⟩)
    · exact Or.inr (Or.inr (Or.inl q))
    · exact Or.inr (Or.inr (Or.inr (Or.inl q)))
    · exact Or.inr (Or.inr (Or.inr (Or.inr q))))
  exact ⟨by rw [bf_eq ht, hn]; exact hs, hl, hm.1, fun q => by have := hm.2 q; omega⟩
theorem MC.first (hs : TKS (bf H1 tq) n N pos kd vl w3) (hn : (sI H1 r (X.1.2 11 9)).toInt = n) (hT : TKM (bf H1 tq) n 0 (sI H1 r (X.1.2 11 15)).toInt (sI H1 r (X.1.2 11 16)).toInt (sI H1 r (X.1.2 11 14)).toInt (sI H1 r (X.1.2 11 17)).toInt (sI H1 r (X.1.2 11 18)).toInt (sJ H1 r (X.1.2 11 19)).toInt) : MC X H1 r tq kd vl w3 pos N 0 := by
  obtain ⟨k, v, w, t1, t2, t3, t4⟩ := hT
  obtain ⟨s', hs'⟩ := hs.2.1 0 (Nat.zero_le _)
  rw [hs.1] at hs'
  have hm := MCT.of t1 hs' (tok := (sI H1 r (X.1.2 11 14)).toInt) (num := (sI H1 r (X.1.2 11 17)).toInt) (lett := (sI H1 r (X.1.2 11 18)).toInt) (word := (sJ H1 r (X.1.2 11 19)).toInt) (by
    rcases t4 with q | ⟨q1, q2, q3, q4⟩ | q | q | q
    · exact Or.inl q
    · exact Or.inr (Or.inl ⟨q1, q2, q3, by omega⟩)
    · exact Or.inr (Or.inr (Or.inl q))
    · exact Or.inr (Or.inr (Or.inr (Or.inl q)))
    · exact Or.inr (Or.inr (Or.inr (Or.inr q))))
  exact ⟨by rw [hn]; exact hs, Nat.zero_le _, hm.1, fun q => by have := hm.2 q; omega⟩
theorem MC.kp (h : MC X H r tq kd vl w3 pos N i) (hk : Kp X Γ gs H H1) (gr : Γ r = some 11) (gt : Γ tq = some 63) (h30 : gs.contains 30 = true) (h36 : gs.contains 36 = true) : MC X H1 r tq kd vl w3 pos N i := by
  obtain ⟨hs, h1, h2, h3⟩ := h
  refine ⟨by rw [bf_eq (fun j => kp_aI hk j gt rfl (gs_any h30 rfl)), kp_I hk gr (ci := 11) (k := 9) rfl (by decide) (gs_any h36 rfl)]; exact hs, h1, ?_, ?_⟩
  · rw [kp_I hk gr (ci := 11) (k := 14) rfl (by decide) (gs_any h36 rfl), kp_I hk gr (ci := 11) (k := 17) rfl (by decide) (gs_any h36 rfl), kp_I hk gr (ci := 11) (k := 18) rfl (by decide) (gs_any h36 rfl), kp_J hk gr (ci := 11) (k := 19) rfl (by decide) (gs_any h36 rfl)]
    exact h2
  · rw [kp_I hk gr (ci := 11) (k := 16) rfl (by decide) (gs_any h36 rfl)]
    exact h3
theorem MC.ne (h : MC X H r tq kd vl w3 pos N i) {k : Nat} (U : Up H H1 a j v) (gr : Γ r = some 11) (gt : Γ tq = some 63) (ga : Γ a = some k) (hk : k ≠ 11 ∧ k ≠ 63) : MC X H1 r tq kd vl w3 pos N i := by
  obtain ⟨hs, h1, h2, h3⟩ := h
  have nr : ∀ x y : Nat, ¬ (r = a ∧ x = y) := fun x y q => hk.1 (Option.some.inj (ga.symm.trans (q.1 ▸ gr)))
  have nt : ∀ x y : Nat, ¬ (tq = a ∧ x = y) := fun x y q => hk.2 (Option.some.inj (ga.symm.trans (q.1 ▸ gt)))
  refine ⟨by rw [bf_eq (fun j => up_nI U (nt _ _)), up_nI U (nr _ _)]; exact hs, h1, ?_, ?_⟩
  · rw [up_nI U (nr _ _), up_nI U (nr _ _), up_nI U (nr _ _), up_nJ U (nr _ _)]
    exact h2
  · rw [up_nI U (nr _ _)]
    exact h3
theorem MC.word (h : MC X H r tq kd vl w3 pos N i) (hj : j < 29) : WDM X H r (k3 j) ↔ okW kd vl j i := by
  obtain ⟨hs, h1, h2, -⟩ := h
  obtain ⟨s, hT⟩ := hs.2.1 i h1
  constructor
  · rintro ⟨q1, q2⟩
    rcases h2 with ⟨k1, k2⟩ | ⟨k1, k2, k3', -⟩ | ⟨k1, k2, -⟩ | ⟨k1, k2, k3', -⟩ | ⟨k1, k2⟩
    · omega
    · rw [k1] at hT
      exact ⟨k1, (hT.kw hj).mpr (k3'.symm.trans q2)⟩
    · omega
    · omega
    · omega
  · rintro ⟨q1, q2⟩
    rcases h2 with ⟨k1, k2⟩ | ⟨k1, k2, k3', -⟩ | ⟨k1, k2, -⟩ | ⟨k1, k2, k3', -⟩ | ⟨k1, k2⟩
    · omega
    · rw [k1] at hT
      exact ⟨k2, k3'.trans ((hT.kw hj).mp q2)⟩
    · omega
    · omega
    · omega
theorem MC.tok (h : MC X H r tq kd vl w3 pos N i) : ((sI H r (X.1.2 11 14)).toInt = 0 ↔ kd i = 0) ∧ ((sI H r (X.1.2 11 14)).toInt = 1 ↔ kd i = 2) ∧ ((sI H r (X.1.2 11 14)).toInt = 2 ↔ kd i = 3) ∧ (kd i = 3 → (sI H r (X.1.2 11 17)).toInt = vl i) ∧ (kd i = 2 → ((sI H r (X.1.2 11 18)).toInt ≤ 8 ↔ vl i ≠ 0)) ∧ (kd i = 2 → (sJ H r (X.1.2 11 19)).toInt = w3 i) := by
  obtain ⟨-, -, h2, -⟩ := h
  rcases h2 with ⟨k1, k2⟩ | ⟨k1, k2, k3', k4⟩ | ⟨k1, k2, k3'⟩ | ⟨k1, k2, k3', k4⟩ | ⟨k1, k2⟩
  · omega
  · refine ⟨by omega, by omega, by omega, fun q => by omega, fun _ => k4, fun _ => k3'⟩
  · omega
  · omega
  · omega
theorem MC.sign (h : MC X H r tq kd vl w3 pos N i) (hz : z = 59) : ((sI H r (X.1.2 11 14)).toInt = 3 ∧ (sI H r (X.1.2 11 17)).toInt = z) ↔ kd i = 59 := by
  obtain ⟨-, -, h2, -⟩ := h
  rcases h2 with ⟨k1, k2⟩ | ⟨k1, k2, k3', k4⟩ | ⟨k1, k2, k3'⟩ | ⟨k1, k2, k3', k4⟩ | ⟨k1, k2⟩ <;> omega
end MCX
section KPX
variable {X : xW} {H : Heap} {r : Nat} {L : List Nat}
theorem KPL.kp (h : KPL X H r L) (hL : ∀ j, j ∈ L → j < 29) : KPM X H r := by
  obtain ⟨j, h1, h2⟩ := h
  exact ⟨j, hL j h1, h2⟩
theorem KPM.not (h : ∀ j, j ∈ [0, 1, 2, 3, 4, 5, 7, 8, 9, 10, 11, 13, 19, 21, 27] → ¬ WDM X H r (k3 j)) (hs : ¬ KPL X H r STJ) (ht : ¬ KPL X H r TSJ) : ¬ KPM X H r := by
  rintro ⟨j, hj, q⟩
  have h3 : j ∈ [0, 1, 2, 3, 4, 5, 7, 8, 9, 10, 11, 13, 19, 21, 27] ∨ j ∈ STJ ∨ j ∈ TSJ := (by decide : ∀ j, j < 29 → j ∈ [0, 1, 2, 3, 4, 5, 7, 8, 9, 10, 11, 13, 19, 21, 27] ∨ j ∈ STJ ∨ j ∈ TSJ) j hj
  rcases h3 with h3 | h3 | h3
  · exact h j h3 q
  · exact hs ⟨j, h3, q⟩
  · exact ht ⟨j, h3, q⟩
theorem KPL.no4 {a b c d : Nat} (h1 : ¬ WDM X H r (k3 a)) (h2 : ¬ WDM X H r (k3 b)) (h3 : ¬ WDM X H r (k3 c)) (h4 : ¬ WDM X H r (k3 d)) (hL : L = [a, b, c, d]) : ¬ KPL X H r L := by
  subst hL
  rintro ⟨j, hj, q⟩
  simp only [List.mem_cons, List.not_mem_nil, or_false] at hj
  rcases hj with rfl | rfl | rfl | rfl
  · exact h1 q
  · exact h2 q
  · exact h3 q
  · exact h4 q
theorem KPL.no10 {a b c d e f g h i j : Nat} (h1 : ¬ WDM X H r (k3 a)) (h2 : ¬ WDM X H r (k3 b)) (h3 : ¬ WDM X H r (k3 c)) (h4 : ¬ WDM X H r (k3 d)) (h5 : ¬ WDM X H r (k3 e)) (h6 : ¬ WDM X H r (k3 f)) (h7 : ¬ WDM X H r (k3 g)) (h8 : ¬ WDM X H r (k3 h)) (h9 : ¬ WDM X H r (k3 i)) (h0 : ¬ WDM X H r (k3 j)) (hL : L = [a, b, c, d, e, f, g, h, i, j]) : ¬ KPL X H r L := by
  subst hL
  rintro ⟨j, hj, q⟩
  simp only [List.mem_cons, List.not_mem_nil, or_false] at hj
  rcases hj with rfl | rfl | rfl | rfl | rfl | rfl | rfl | rfl | rfl | rfl
  · exact h1 q
  · exact h2 q
  · exact h3 q
  · exact h4 q
  · exact h5 q
  · exact h6 q
  · exact h7 q
  · exact h8 q
  · exact h9 q
  · exact h0 q
end KPX
-- the yard's state as the reference reads it
def YSM (X : xW) (Γ : Nat → Option Nat) (H : Heap) (r ca : Nat) (kd vl w3 : Nat → Int) (N : Nat) (S : YSt) : Prop := (sI H ca (2080 : Int).toNat).toInt = S.1 ∧ (sI H ca (2081 : Int).toNat).toInt = S.2.1 ∧ (sI H ca (2082 : Int).toNat).toInt = S.2.2.1 ∧ 0 ≤ S.2.2.1 ∧
  (∃ ws, sR H r (X.1.2 11 23) = some ws ∧ Γ ws = some 67 ∧ (S.2.2.1 ≠ 0 → (sJ H ws 0).toInt = w3 S.2.2.2.1 ∧ okM kd vl S.2.2.2.1 ∧ S.2.2.2.1 ≤ N)) ∧
  (∃ tc, sR H r (X.1.2 11 22) = some tc ∧ Γ tc = some 66 ∧ ∀ a c : Nat, a < 3 → c < 36 → (sI H tc (36 * a + c)).toInt = S.2.2.2.2.1 a c ∧ (S.2.2.2.2.1 a c = 0 ∨ S.2.2.2.2.1 a c = 1)) ∧
  (sI H ca (2104 : Int).toNat).toInt = 0 ∧ ∀ k : Nat, k < 4 → (sI H ca (2098 + k)).toInt = (if S.2.2.2.2.2 k = -1 then 0 else 1) ∧ (S.2.2.2.2.2 k ≠ -1 → (sI H ca (2102 + k)).toInt = S.2.2.2.2.2 k)
/-- the first name stands, behind so many schools -/
def YSN (X : xW) (Γ : Nat → Option Nat) (H : Heap) (r : Nat) (kd vl w3 : Nat → Int) (N nm : Nat) : Prop := ∃ ws, sR H r (X.1.2 11 23) = some ws ∧ Γ ws = some 67 ∧ (sJ H ws 0).toInt = w3 nm ∧ okM kd vl nm ∧ nm ≤ N
section YSX
variable {X : xW} {Γ : Nat → Option Nat} {H H0 H1 : Heap} {r tq ca a i N n p q s : Nat} {kd vl w3 : Nat → Int} {pos : Nat → Nat} {gs : List Nat} {v : Value} {S : YSt} {z w : Int}
theorem YSM.kp (h : YSM X Γ H r ca kd vl w3 N S) (hk : Kp X Γ gs H H1) (gr : Γ r = some 11) (gc : Γ ca = some 64) (h15 : gs.contains 15 = true) (h35 : gs.contains 35 = true) : YSM X Γ H1 r ca kd vl w3 N S := by
  obtain ⟨h1, h2, h3, h4, ⟨ws, b1, b2, b3⟩, ⟨tc, c1, c2, c3⟩, h5⟩ := h
  have ec : ∀ j, sI H1 ca j = sI H ca j := fun j => kp_aI hk j gc rfl (gs_any h15 rfl)
  exact ⟨by rw [ec]; exact h1, by rw [ec]; exact h2, by rw [ec]; exact h3, h4, ⟨ws, (kp_R hk gr (ci := 11) (k := 23) rfl (by decide) (gs_any h35 rfl)).trans b1, b2, fun q => by rw [kp_aJ hk 0 b2 rfl (gs_any h35 rfl)]; exact b3 q⟩, ⟨tc, (kp_R hk gr (ci := 11) (k := 22) rfl (by decide) (gs_any h35 rfl)).trans c1, c2, fun a c ha hc => by rw [kp_aI hk _ c2 rfl (gs_any h35 rfl)]; exact c3 a c ha hc⟩, by rw [ec]; exact h5.1, fun k hk2 => by rw [ec, ec]; exact h5.2 k hk2⟩
theorem YSN.kp {nm : Nat} (h : YSN X Γ H r kd vl w3 N nm) (hk : Kp X Γ gs H H1) (gr : Γ r = some 11) (h35 : gs.contains 35 = true) : YSN X Γ H1 r kd vl w3 N nm := by
  obtain ⟨ws, b1, b2, b3⟩ := h
  exact ⟨ws, (kp_R hk gr (ci := 11) (k := 23) rfl (by decide) (gs_any h35 rfl)).trans b1, b2, by rw [kp_aJ hk 0 b2 rfl (gs_any h35 rfl)]; exact b3⟩
theorem YSN.up {nm j : Nat} (h : YSN X Γ H r kd vl w3 N nm) (U : Up H H1 ca j v) (gr : Γ r = some 11) (gc : Γ ca = some 64) : YSN X Γ H1 r kd vl w3 N nm := by
  obtain ⟨ws, b1, b2, b3⟩ := h
  have ne : ∀ t k x y : Nat, Γ t = some k → k ≠ 64 → ¬ (t = ca ∧ x = y) := fun t k x y g q e => q (Option.some.inj (g.symm.trans (e.1 ▸ gc)))
  exact ⟨ws, (up_nR U (ne _ _ _ _ gr (by decide))).trans b1, b2, by rw [up_nJ U (ne _ _ _ _ b2 (by decide))]; exact b3⟩
/-- a number of c that tells nothing of this -/
theorem YSM.up {j : Nat} (h : YSM X Γ H r ca kd vl w3 N S) (U : Up H H1 ca j v) (gr : Γ r = some 11) (gc : Γ ca = some 64) (hj : (2083 ≤ j ∧ j < 2098) ∨ 2106 ≤ j) : YSM X Γ H1 r ca kd vl w3 N S := by
  obtain ⟨h1, h2, h3, h4, ⟨ws, b1, b2, b3⟩, ⟨tc, c1, c2, c3⟩, h5⟩ := h
  have ec : ∀ k, k ≠ j → sI H1 ca k = sI H ca k := fun k q => up_nI U (fun e => q e.2)
  have ne : ∀ t k x y : Nat, Γ t = some k → k ≠ 64 → ¬ (t = ca ∧ x = y) := fun t k x y g q e => q (Option.some.inj (g.symm.trans (e.1 ▸ gc)))
  exact ⟨by rw [ec _ (by omega)]; exact h1, by rw [ec _ (by omega)]; exact h2, by rw [ec _ (by omega)]; exact h3, h4, ⟨ws, (up_nR U (ne _ _ _ _ gr (by decide))).trans b1, b2, fun q => by rw [up_nJ U (ne _ _ _ _ b2 (by decide))]; exact b3 q⟩, ⟨tc, (up_nR U (ne _ _ _ _ gr (by decide))).trans c1, c2, fun a c ha hc => by rw [up_nI U (ne _ _ _ _ c2 (by decide))]; exact c3 a c ha hc⟩, by rw [ec _ (by omega)]; exact h5.1, fun k hk2 => by rw [ec (2098 + k) (by omega), ec (2102 + k) (by omega)]; exact h5.2 k hk2⟩
theorem YSM.wide {j : Nat} {x : Int32} (h : YSM X Γ H r ca kd vl w3 N S) (U : Up H H1 ca j (.int x)) (gr : Γ r = some 11) (gc : Γ ca = some 64) (hj : j = 2080) (hx : x.toInt = z) : YSM X Γ H1 r ca kd vl w3 N (z, S.2) := by
  obtain ⟨h1, h2, h3, h4, ⟨ws, b1, b2, b3⟩, ⟨tc, c1, c2, c3⟩, h5⟩ := h
  have ec : ∀ k, k ≠ j → sI H1 ca k = sI H ca k := fun k q => up_nI U (fun e => q e.2)
  have ne : ∀ t k x y : Nat, Γ t = some k → k ≠ 64 → ¬ (t = ca ∧ x = y) := fun t k x y g q e => q (Option.some.inj (g.symm.trans (e.1 ▸ gc)))
  exact ⟨by subst hj; rw [show (2080 : Int).toNat = 2080 from rfl, up_I U]; exact hx, by rw [ec _ (by omega)]; exact h2, by rw [ec _ (by omega)]; exact h3, h4, ⟨ws, (up_nR U (ne _ _ _ _ gr (by decide))).trans b1, b2, fun q => by rw [up_nJ U (ne _ _ _ _ b2 (by decide))]; exact b3 q⟩, ⟨tc, (up_nR U (ne _ _ _ _ gr (by decide))).trans c1, c2, fun a c ha hc => by rw [up_nI U (ne _ _ _ _ c2 (by decide))]; exact c3 a c ha hc⟩, by rw [ec _ (by omega)]; exact h5.1, fun k hk2 => by rw [ec (2098 + k) (by omega), ec (2102 + k) (by omega)]; exact h5.2 k hk2⟩
theorem YSM.high {j : Nat} {x : Int32} (h : YSM X Γ H r ca kd vl w3 N S) (U : Up H H1 ca j (.int x)) (gr : Γ r = some 11) (gc : Γ ca = some 64) (hj : j = 2081) (hx : x.toInt = z) : YSM X Γ H1 r ca kd vl w3 N (S.1, z, S.2.2) := by
  obtain ⟨h1, h2, h3, h4, ⟨ws, b1, b2, b3⟩, ⟨tc, c1, c2, c3⟩, h5⟩ := h
  have ec : ∀ k, k ≠ j → sI H1 ca k = sI H ca k := fun k q => up_nI U (fun e => q e.2)
  have ne : ∀ t k x y : Nat, Γ t = some k → k ≠ 64 → ¬ (t = ca ∧ x = y) := fun t k x y g q e => q (Option.some.inj (g.symm.trans (e.1 ▸ gc)))
  exact ⟨by rw [ec _ (by omega)]; exact h1, by subst hj; rw [show (2081 : Int).toNat = 2081 from rfl, up_I U]; exact hx, by rw [ec _ (by omega)]; exact h3, h4, ⟨ws, (up_nR U (ne _ _ _ _ gr (by decide))).trans b1, b2, fun q => by rw [up_nJ U (ne _ _ _ _ b2 (by decide))]; exact b3 q⟩, ⟨tc, (up_nR U (ne _ _ _ _ gr (by decide))).trans c1, c2, fun a c ha hc => by rw [up_nI U (ne _ _ _ _ c2 (by decide))]; exact c3 a c ha hc⟩, by rw [ec _ (by omega)]; exact h5.1, fun k hk2 => by rw [ec (2098 + k) (by omega), ec (2102 + k) (by omega)]; exact h5.2 k hk2⟩
theorem YSM.school {j nm : Nat} {x : Int32} (h : YSM X Γ H r ca kd vl w3 N S) (U : Up H H1 ca j (.int x)) (gr : Γ r = some 11) (gc : Γ ca = some 64) (hj : j = 2082) (hx : x.toInt = S.2.2.1 + 1) (hn : YSN X Γ H r kd vl w3 N nm) : YSM X Γ H1 r ca kd vl w3 N (S.1, S.2.1, S.2.2.1 + 1, nm, S.2.2.2.2.1, S.2.2.2.2.2) := by
  obtain ⟨h1, h2, h3, h4, ⟨ws, b1, b2, b3⟩, ⟨tc, c1, c2, c3⟩, h5⟩ := h
  obtain ⟨ws', d1, -, d2, d3⟩ := hn
  have ew := Option.some.inj (b1.symm.trans d1)
  subst ew
  have ec : ∀ k, k ≠ j → sI H1 ca k = sI H ca k := fun k q => up_nI U (fun e => q e.2)
  have ne : ∀ t k x y : Nat, Γ t = some k → k ≠ 64 → ¬ (t = ca ∧ x = y) := fun t k x y g q e => q (Option.some.inj (g.symm.trans (e.1 ▸ gc)))
  exact ⟨by rw [ec _ (by omega)]; exact h1, by rw [ec _ (by omega)]; exact h2, by subst hj; rw [show (2082 : Int).toNat = 2082 from rfl, up_I U]; exact hx, by show 0 ≤ S.2.2.1 + 1; omega, ⟨ws, (up_nR U (ne _ _ _ _ gr (by decide))).trans b1, b2, fun q => by rw [up_nJ U (ne _ _ _ _ b2 (by decide))]; exact ⟨d2, d3⟩⟩, ⟨tc, (up_nR U (ne _ _ _ _ gr (by decide))).trans c1, c2, fun a c ha hc => by rw [up_nI U (ne _ _ _ _ c2 (by decide))]; exact c3 a c ha hc⟩, by rw [ec _ (by omega)]; exact h5.1, fun k hk2 => by rw [ec (2098 + k) (by omega), ec (2102 + k) (by omega)]; exact h5.2 k hk2⟩
theorem YSM.art {j : Nat} {x : Int32} (h : YSM X Γ H r ca kd vl w3 N S) (U : Up H H1 ca j (.int x)) (gr : Γ r = some 11) (gc : Γ ca = some 64) (hj : (j : Int) = 2098 + w) (hw : 0 ≤ w ∧ w < 4) (hx : x.toInt = 1) (hz : 0 ≤ z) (hv : (sI H ca (2102 + w).toNat).toInt = z) : YSM X Γ H1 r ca kd vl w3 N (S.1, S.2.1, S.2.2.1, S.2.2.2.1, S.2.2.2.2.1, fun a => if a = w then z else S.2.2.2.2.2 a) := by
  obtain ⟨h1, h2, h3, h4, ⟨ws, b1, b2, b3⟩, ⟨tc, c1, c2, c3⟩, h5⟩ := h
  have ec : ∀ k, k ≠ j → sI H1 ca k = sI H ca k := fun k q => up_nI U (fun e => q e.2)
  have ne : ∀ t k x y : Nat, Γ t = some k → k ≠ 64 → ¬ (t = ca ∧ x = y) := fun t k x y g q e => q (Option.some.inj (g.symm.trans (e.1 ▸ gc)))
  refine ⟨by rw [ec _ (by omega)]; exact h1, by rw [ec _ (by omega)]; exact h2, by rw [ec _ (by omega)]; exact h3, h4, ⟨ws, (up_nR U (ne _ _ _ _ gr (by decide))).trans b1, b2, fun q => by rw [up_nJ U (ne _ _ _ _ b2 (by decide))]; exact b3 q⟩, ⟨tc, (up_nR U (ne _ _ _ _ gr (by decide))).trans c1, c2, fun a c ha hc => by rw [up_nI U (ne _ _ _ _ c2 (by decide))]; exact c3 a c ha hc⟩, by rw [ec _ (by omega)]; exact h5.1, fun k hk2 => ?_⟩
  show _ = (if (if (k : Int) = w then z else S.2.2.2.2.2 k) = -1 then (0 : Int) else 1) ∧ ((if (k : Int) = w then z else S.2.2.2.2.2 k) ≠ -1 → _ = if (k : Int) = w then z else S.2.2.2.2.2 k)
  by_cases e : (k : Int) = w
  · rw [if_pos e, if_neg (by omega), show 2098 + k = j by omega, up_I U, hx, ec (2102 + k) (by omega)]
    refine ⟨rfl, fun _ => ?_⟩
    rw [show 2102 + k = (2102 + w).toNat by omega]
    exact hv
  · rw [if_neg e, ec (2098 + k) (by omega), ec (2102 + k) (by omega)]
    exact h5.2 k hk2
/-- what an article says, written ahead of it -/
theorem YSM.lim {j : Nat} (h : YSM X Γ H r ca kd vl w3 N S) (U : Up H H1 ca j v) (gr : Γ r = some 11) (gc : Γ ca = some 64) (hj : (j : Int) = 2102 + w) (hw : 0 ≤ w ∧ w < 4 ∧ w ≠ 2) (hn : S.2.2.2.2.2 w = -1) : YSM X Γ H1 r ca kd vl w3 N S := by
  obtain ⟨h1, h2, h3, h4, ⟨ws, b1, b2, b3⟩, ⟨tc, c1, c2, c3⟩, h5⟩ := h
  have ec : ∀ k, k ≠ j → sI H1 ca k = sI H ca k := fun k q => up_nI U (fun e => q e.2)
  have ne : ∀ t k x y : Nat, Γ t = some k → k ≠ 64 → ¬ (t = ca ∧ x = y) := fun t k x y g q e => q (Option.some.inj (g.symm.trans (e.1 ▸ gc)))
  refine ⟨by rw [ec _ (by omega)]; exact h1, by rw [ec _ (by omega)]; exact h2, by rw [ec _ (by omega)]; exact h3, h4, ⟨ws, (up_nR U (ne _ _ _ _ gr (by decide))).trans b1, b2, fun q => by rw [up_nJ U (ne _ _ _ _ b2 (by decide))]; exact b3 q⟩, ⟨tc, (up_nR U (ne _ _ _ _ gr (by decide))).trans c1, c2, fun a c ha hc => by rw [up_nI U (ne _ _ _ _ c2 (by decide))]; exact c3 a c ha hc⟩, by rw [ec _ (by omega)]; exact h5.1, fun k hk2 => ?_⟩
  have h6 := h5.2 k hk2
  rw [ec (2098 + k) (by omega)]
  refine ⟨h6.1, fun q => ?_⟩
  by_cases e : (k : Int) = w
  · rw [e] at q
    exact absurd hn q
  · rw [ec (2102 + k) (by omega)]
    exact h6.2 q
theorem YSM.article (h : YSM X Γ H r ca kd vl w3 N S) (hw : z = 2098 + w) (h0 : 0 ≤ w ∧ w < 4) : (sI H ca z.toNat).toInt = if S.2.2.2.2.2 w = -1 then 0 else 1 := by
  obtain ⟨-, -, -, -, -, -, h5⟩ := h
  have := (h5.2 w.toNat (by omega)).1
  rw [show ((w.toNat : Nat) : Int) = w by omega, show 2098 + w.toNat = z.toNat by omega] at this
  exact this
theorem YSM.told {tc j : Nat} {x : Int32} (h : YSM X Γ H r ca kd vl w3 N S) (U : Up H H1 tc j (.int x)) (gr : Γ r = some 11) (gc : Γ ca = some 64) (ht : sR H r (X.1.2 11 22) = some tc) (gt : Γ tc = some 66) (hj : (j : Int) = 36 * w + z) (hw : 0 ≤ w ∧ w < 3 ∧ 0 ≤ z ∧ z < 36) (hx : x.toInt = 1) : YSM X Γ H1 r ca kd vl w3 N (S.1, S.2.1, S.2.2.1, S.2.2.2.1, (fun a c => if a = w ∧ c = z then 1 else S.2.2.2.2.1 a c), S.2.2.2.2.2) := by
  obtain ⟨h1, h2, h3, h4, ⟨ws, b1, b2, b3⟩, ⟨tc', c1, c2, c3⟩, h5⟩ := h
  have et := Option.some.inj (c1.symm.trans ht)
  subst et
  have ne : ∀ t k x y : Nat, Γ t = some k → k ≠ 66 → ¬ (t = tc' ∧ x = y) := fun t k x y g q e => q (Option.some.inj (g.symm.trans (e.1 ▸ gt)))
  refine ⟨by rw [up_nI U (ne _ _ _ _ gc (by decide))]; exact h1, by rw [up_nI U (ne _ _ _ _ gc (by decide))]; exact h2, by rw [up_nI U (ne _ _ _ _ gc (by decide))]; exact h3, h4, ⟨ws, (up_nR U (ne _ _ _ _ gr (by decide))).trans b1, b2, fun q => by rw [up_nJ U (ne _ _ _ _ b2 (by decide))]; exact b3 q⟩, ⟨tc', (up_nR U (ne _ _ _ _ gr (by decide))).trans c1, c2, fun a c ha hc => ?_⟩, by rw [up_nI U (ne _ _ _ _ gc (by decide))]; exact h5.1, fun k hk2 => by rw [up_nI U (ne _ _ _ _ gc (by decide)), up_nI U (ne _ _ _ _ gc (by decide))]; exact h5.2 k hk2⟩
  show _ = (if (a : Int) = w ∧ (c : Int) = z then (1 : Int) else S.2.2.2.2.1 a c) ∧ ((if (a : Int) = w ∧ (c : Int) = z then (1 : Int) else S.2.2.2.2.1 a c) = 0 ∨ (if (a : Int) = w ∧ (c : Int) = z then (1 : Int) else S.2.2.2.2.1 a c) = 1)
  by_cases e : (a : Int) = w ∧ (c : Int) = z
  · rw [if_pos e, show 36 * a + c = j by omega, up_I U, hx]
    exact ⟨rfl, Or.inr rfl⟩
  · rw [if_neg e, up_nI U (fun q => e (by omega))]
    exact c3 a c ha hc
theorem YSM.cell {tc : Nat} (h : YSM X Γ H r ca kd vl w3 N S) (ht : sR H r (X.1.2 11 22) = some tc) (hw : 0 ≤ w ∧ w < 3 ∧ 0 ≤ z ∧ z < 36) {n' : Int} (hn : n' = 36 * w + z) : (sI H tc n'.toNat).toInt = S.2.2.2.2.1 w z ∧ (S.2.2.2.2.1 w z = 0 ∨ S.2.2.2.2.1 w z = 1) := by
  obtain ⟨-, -, -, -, -, ⟨tc', c1, c2, c3⟩, -⟩ := h
  have et := Option.some.inj (c1.symm.trans ht)
  subst et
  have := c3 w.toNat z.toNat (by omega) (by omega)
  rw [show ((w.toNat : Nat) : Int) = w by omega, show ((z.toNat : Nat) : Int) = z by omega, show 36 * w.toNat + z.toNat = n'.toNat by omega] at this
  exact this
/-- a name written -/
theorem YSM.word {ws j nm : Nat} {x : Int64} (h : YSM X Γ H r ca kd vl w3 N S) (U : Up H H1 ws j (.long x)) (gr : Γ r = some 11) (gc : Γ ca = some 64) (hs : sR H r (X.1.2 11 23) = some ws) (gs' : Γ ws = some 67) (hj : (j : Int) = S.2.2.1) (hx : x.toInt = w3 nm) (hm : okM kd vl nm) (hN : nm ≤ N) : YSM X Γ H1 r ca kd vl w3 N S ∧ YSN X Γ H1 r kd vl w3 N (if S.2.2.1 = 0 then nm else S.2.2.2.1) := by
  obtain ⟨h1, h2, h3, h4, ⟨ws', b1, b2, b3⟩, ⟨tc, c1, c2, c3⟩, h5⟩ := h
  have ew := Option.some.inj (b1.symm.trans hs)
  subst ew
  have ne : ∀ t k x y : Nat, Γ t = some k → k ≠ 67 → ¬ (t = ws' ∧ x = y) := fun t k x y g q e => q (Option.some.inj (g.symm.trans (e.1 ▸ b2)))
  refine ⟨⟨by rw [up_nI U (ne _ _ _ _ gc (by decide))]; exact h1, by rw [up_nI U (ne _ _ _ _ gc (by decide))]; exact h2, by rw [up_nI U (ne _ _ _ _ gc (by decide))]; exact h3, h4, ⟨ws', (up_nR U (ne _ _ _ _ gr (by decide))).trans b1, b2, fun q => by rw [up_nJ U (fun e => q (by omega))]; exact b3 q⟩, ⟨tc, (up_nR U (ne _ _ _ _ gr (by decide))).trans c1, c2, fun a c ha hc => by rw [up_nI U (ne _ _ _ _ c2 (by decide))]; exact c3 a c ha hc⟩, by rw [up_nI U (ne _ _ _ _ gc (by decide))]; exact h5.1, fun k hk2 => by rw [up_nI U (ne _ _ _ _ gc (by decide)), up_nI U (ne _ _ _ _ gc (by decide))]; exact h5.2 k hk2⟩, ws', (up_nR U (ne _ _ _ _ gr (by decide))).trans b1, b2, ?_⟩
  by_cases e : S.2.2.1 = 0
  · rw [if_pos e, show (0 : Nat) = j by omega, up_J U]
    exact ⟨hx, hm, hN⟩
  · rw [if_neg e, up_nJ U (fun q => e (by omega))]
    exact b3 e
theorem YSM.ws (h : YSM X Γ H r ca kd vl w3 N S) {ws : Nat} (hs : sR H r (X.1.2 11 23) = some ws) (h0 : S.2.2.1 ≠ 0) : (sJ H ws 0).toInt = w3 S.2.2.2.1 ∧ okM kd vl S.2.2.2.1 ∧ S.2.2.2.1 ≤ N := by
  obtain ⟨-, -, -, -, ⟨ws', b1, b2, b3⟩, -⟩ := h
  have ew := Option.some.inj (b1.symm.trans hs)
  subst ew
  exact b3 h0
theorem MC.isM (h : MC X H r tq kd vl w3 pos N i) (h1 : (sI H r (X.1.2 11 14)).toInt = 1) (h2 : (sI H r (X.1.2 11 18)).toInt ≤ 8) (h3 : ¬ KPM X H r) : okM kd vl i := by
  have ht := h.tok
  have hk := ht.2.1.mp h1
  exact ⟨hk, (ht.2.2.2.2.1 hk).mp h2, fun j hj q => h3 ⟨j, hj, (h.word hj).mpr ⟨hk, q⟩⟩⟩
theorem MC.noM (h : MC X H r tq kd vl w3 pos N i) (h1 : (sI H r (X.1.2 11 14)).toInt ≠ 1 ∨ 8 < (sI H r (X.1.2 11 18)).toInt ∨ KPM X H r) : ¬ okM kd vl i := fun q => by
  have ht := h.tok
  rcases h1 with h1 | h1 | ⟨j, hj, h1⟩
  · exact h1 (ht.2.1.mpr q.1)
  · have := (ht.2.2.2.2.1 q.1).mpr q.2.1
    omega
  · exact q.2.2 j hj ((h.word hj).mp h1).2
theorem MC.nm {nm : Nat} (h : MC X H r tq kd vl w3 pos N i) (hm : okM kd vl i) (hn : okM kd vl nm) (hN : nm ≤ N) : vl i = vl nm ↔ w3 i = w3 nm := by
  obtain ⟨hs, h1, -⟩ := h
  obtain ⟨s, hT⟩ := hs.2.1 i h1
  obtain ⟨s', hT'⟩ := hs.2.1 nm hN
  rw [hm.1] at hT
  rw [hn.1] at hT'
  exact hT.nm hT' hm.2.1 hn.2.1
/-- where the reading stands: no fault and P so far, or a fault and not P -/
def HDS (X : xW) (Γ : Nat → Option Nat) (H : Heap) (r tq ca : Nat) (kd vl w3 : Nat → Int) (pos : Nat → Nat) (N : Nat) (P : Prop) (i : Nat) (S : YSt) : Prop := ((sI H r (X.1.2 11 12)).toInt = 0 ∧ P ∧ MC X H r tq kd vl w3 pos N i ∧ YSM X Γ H r ca kd vl w3 N S) ∨ ((sI H r (X.1.2 11 12)).toInt ≠ 0 ∧ ¬ P)
theorem HD.of (h0 : (sI H r (X.1.2 11 12)).toInt = 0) (mc : MC X H r tq kd vl w3 pos N i) (ym : YSM X Γ H r ca kd vl w3 N S) : HDS X Γ H r tq ca kd vl w3 pos N True i S := Or.inl ⟨h0, trivial, mc, ym⟩
theorem HD.dead (h0 : (sI H r (X.1.2 11 12)).toInt ≠ 0) : HDS X Γ H r tq ca kd vl w3 pos N False i S := Or.inr ⟨h0, id⟩
theorem HD.must {P : Prop} {j : Nat} {x : Int} (h : HDS X Γ H r tq ca kd vl w3 pos N P i S) (hk : Kp X Γ gs H H1) (gr : Γ r = some 11) (gc : Γ ca = some 64) (hz : (x = 1 ∧ WDM X H r (k3 j)) ∨ (x = 0 ∧ ¬ WDM X H r (k3 j)))
    (hm : ∀ (kd vl w3 : Nat → Int) (pos : Nat → Nat) (N i : Nat), MC X H r tq kd vl w3 pos N i → (sI H r (X.1.2 11 12)).toInt = 0 → (x = 1 → kd i ≠ 0 → (sI H1 r (X.1.2 11 12)).toInt = 0 ∧ MC X H1 r tq kd vl w3 pos N (i + 1)) ∧ (x = 0 → (sI H1 r (X.1.2 11 12)).toInt ≠ 0)) (hg : (sI H r (X.1.2 11 12)).toInt ≤ 7 * (sI H1 r (X.1.2 11 12)).toInt) (hb : 0 ≤ (sI H r (X.1.2 11 12)).toInt) (h15 : gs.contains 15 = true) (h35 : gs.contains 35 = true) (hj : j < 29) : HDS X Γ H1 r tq ca kd vl w3 pos N (P ∧ okW kd vl j i) (i + 1) S := by
  rcases h with ⟨h0, hP, mc, ym⟩ | ⟨h0, hP⟩
  · have h1 := hm kd vl w3 pos N i mc h0
    rcases hz with ⟨z1, z2⟩ | ⟨z1, z2⟩
    · have hw := (mc.word hj).mp z2
      have h2 := h1.1 z1 (by have := hw.1; omega)
      exact Or.inl ⟨h2.1, ⟨hP, hw⟩, h2.2, ym.kp hk gr gc h15 h35⟩
    · exact Or.inr ⟨h1.2 z1, fun q => z2 ((mc.word hj).mpr q.2)⟩
  · exact Or.inr ⟨by omega, fun q => hP q.1⟩
theorem HD.sign {P : Prop} {x : Int} (h : HDS X Γ H r tq ca kd vl w3 pos N P i S) (hk : Kp X Γ gs H H1) (gr : Γ r = some 11) (gc : Γ ca = some 64) (hz : (x = 1 ∧ (sI H r (X.1.2 11 14)).toInt = 3 ∧ (sI H r (X.1.2 11 17)).toInt = 59) ∨ (x = 0 ∧ ¬ ((sI H r (X.1.2 11 14)).toInt = 3 ∧ (sI H r (X.1.2 11 17)).toInt = 59)))
    (hm : ∀ (kd vl w3 : Nat → Int) (pos : Nat → Nat) (N i : Nat), MC X H r tq kd vl w3 pos N i → (sI H r (X.1.2 11 12)).toInt = 0 → (x = 1 → kd i ≠ 0 → (sI H1 r (X.1.2 11 12)).toInt = 0 ∧ MC X H1 r tq kd vl w3 pos N (i + 1)) ∧ (x = 0 → (sI H1 r (X.1.2 11 12)).toInt ≠ 0)) (hg : (sI H r (X.1.2 11 12)).toInt ≤ 7 * (sI H1 r (X.1.2 11 12)).toInt) (hb : 0 ≤ (sI H r (X.1.2 11 12)).toInt) (h15 : gs.contains 15 = true) (h35 : gs.contains 35 = true) : HDS X Γ H1 r tq ca kd vl w3 pos N (P ∧ kd i = 59) (i + 1) S := by
  rcases h with ⟨h0, hP, mc, ym⟩ | ⟨h0, hP⟩
  · have h1 := hm kd vl w3 pos N i mc h0
    rcases hz with ⟨z1, z2⟩ | ⟨z1, z2⟩
    · have hw := (mc.sign rfl).mp z2
      have h2 := h1.1 z1 (by omega)
      exact Or.inl ⟨h2.1, ⟨hP, hw⟩, h2.2, ym.kp hk gr gc h15 h35⟩
    · exact Or.inr ⟨h1.2 z1, fun q => z2 ((mc.sign rfl).mpr q.2)⟩
  · exact Or.inr ⟨by omega, fun q => hP q.1⟩
theorem HD.go {P : Prop} (h : HDS X Γ H r tq ca kd vl w3 pos N P i S) (hk : Kp X Γ gs H H1) (gr : Γ r = some 11) (gc : Γ ca = some 64) (hP2 : P → kd i ≠ 0)
    (hm : ∀ (kd vl w3 : Nat → Int) (pos : Nat → Nat) (N i : Nat), MC X H r tq kd vl w3 pos N i → (sI H r (X.1.2 11 12)).toInt = 0 → ((1 : Int) = 1 → kd i ≠ 0 → (sI H1 r (X.1.2 11 12)).toInt = 0 ∧ MC X H1 r tq kd vl w3 pos N (i + 1)) ∧ ((1 : Int) = 0 → (sI H1 r (X.1.2 11 12)).toInt ≠ 0)) (hg : (sI H r (X.1.2 11 12)).toInt ≤ 7 * (sI H1 r (X.1.2 11 12)).toInt) (hb : 0 ≤ (sI H r (X.1.2 11 12)).toInt) (h15 : gs.contains 15 = true) (h35 : gs.contains 35 = true) : HDS X Γ H1 r tq ca kd vl w3 pos N P (i + 1) S := by
  rcases h with ⟨h0, hP, mc, ym⟩ | ⟨h0, hP⟩
  · have h2 := (hm kd vl w3 pos N i mc h0).1 rfl (hP2 hP)
    exact Or.inl ⟨h2.1, hP, h2.2, ym.kp hk gr gc h15 h35⟩
  · exact Or.inr ⟨by omega, hP⟩
theorem HD.count {P : Prop} {lo hi x : Int} (h : HDS X Γ H r tq ca kd vl w3 pos N P i S) (hk : Kp X Γ gs H H1) (gr : Γ r = some 11) (gc : Γ ca = some 64)
    (hm : ∀ (kd vl w3 : Nat → Int) (pos : Nat → Nat) (N i : Nat), MC X H r tq kd vl w3 pos N i → (sI H r (X.1.2 11 12)).toInt = 0 → (okN kd vl lo hi i → (sI H1 r (X.1.2 11 12)).toInt = 0 ∧ x = vl i ∧ MC X H1 r tq kd vl w3 pos N (i + 1)) ∧ (¬ okN kd vl lo hi i → (sI H1 r (X.1.2 11 12)).toInt ≠ 0)) (hg : (sI H r (X.1.2 11 12)).toInt ≤ 7 * (sI H1 r (X.1.2 11 12)).toInt) (hb : 0 ≤ (sI H r (X.1.2 11 12)).toInt) (h15 : gs.contains 15 = true) (h35 : gs.contains 35 = true) : HDS X Γ H1 r tq ca kd vl w3 pos N (P ∧ okN kd vl lo hi i) (i + 1) S ∧ ((sI H1 r (X.1.2 11 12)).toInt = 0 → x = vl i) := by
  rcases h with ⟨h0, hP, mc, ym⟩ | ⟨h0, hP⟩
  · have h1 := hm kd vl w3 pos N i mc h0
    by_cases hw : okN kd vl lo hi i
    · have h2 := h1.1 hw
      exact ⟨Or.inl ⟨h2.1, ⟨hP, hw⟩, h2.2.2, ym.kp hk gr gc h15 h35⟩, fun _ => h2.2.1⟩
    · have h2 := h1.2 hw
      exact ⟨Or.inr ⟨h2, fun q => hw q.2⟩, fun q => absurd q h2⟩
  · exact ⟨Or.inr ⟨by omega, fun q => hP q.1⟩, fun q => by omega⟩
theorem HD.map {P : Prop} {S1 : YSt} (h : HDS X Γ H r tq ca kd vl w3 pos N P i S) (eb : (sI H1 r (X.1.2 11 12)).toInt = (sI H r (X.1.2 11 12)).toInt) (hm : (sI H r (X.1.2 11 12)).toInt = 0 → MC X H r tq kd vl w3 pos N i → YSM X Γ H r ca kd vl w3 N S → MC X H1 r tq kd vl w3 pos N i ∧ YSM X Γ H1 r ca kd vl w3 N S1) : HDS X Γ H1 r tq ca kd vl w3 pos N P i S1 := by
  rcases h with ⟨h0, hP, mc, ym⟩ | ⟨h0, hP⟩
  · have h2 := hm h0 mc ym
    exact Or.inl ⟨by omega, hP, h2.1, h2.2⟩
  · exact Or.inr ⟨by omega, hP⟩
theorem HD.live {P : Prop} (h : HDS X Γ H r tq ca kd vl w3 pos N P i S) (h0 : (sI H r (X.1.2 11 12)).toInt = 0) : P ∧ MC X H r tq kd vl w3 pos N i ∧ YSM X Γ H r ca kd vl w3 N S := (h.resolve_right (fun q => q.1 h0)).2
theorem HD.no {P : Prop} (h : HDS X Γ H r tq ca kd vl w3 pos N P i S) (h0 : (sI H r (X.1.2 11 12)).toInt ≠ 0) : ¬ P := (h.resolve_left (fun q => h0 q.1)).2
end YSX
def bfO (a : Int) : Nat := if a = 0 then 5 else if a = 1 then 7 else 9
def lmO (a : Int) : Int := if a = 2 then 9 else 99
theorem bfO_0 {a : Int} (h : a = 0) : bfO a = 5 ∧ lmO a = 99 := by subst h; exact ⟨rfl, rfl⟩
theorem bfO_1 {a : Int} (h : a = 1) : bfO a = 7 ∧ lmO a = 99 := by subst h; exact ⟨rfl, rfl⟩
theorem bfO_2 {a : Int} (h : a = 2) : bfO a = 9 ∧ lmO a = 9 := by subst h; exact ⟨rfl, rfl⟩
-- the reference's yard
def IFZ (b : Int) (P : Prop) : Prop := b = 0 → P
def PARN (vl : Nat → Int) (b : Int) : Prop := vl 1 % 2 = 0 ∨ b ≠ 0
def XYV (b x y : Int) (vl : Nat → Int) : Prop := b = 0 → x = vl 1 ∧ y = vl 3
def IFFP (P Q : Prop) : Prop := P ↔ Q
def RESY (kd vl : Nat → Int) (b : Int) : Prop := (b = 0 ∧ gYard kd vl (vl 1) (vl 3)) ∨ (b ≠ 0 ∧ ∀ w h, ¬ gYard kd vl w h)
def YMR (R n : Int) (kd vl : Nat → Int) (v : Int) (QN QY : Prop) : Prop := ((n < 0 ∨ R < n) ∧ v = -1 ∧ QN) ∨ (0 ≤ n ∧ n ≤ R ∧ ((∃ w h, gYard kd vl w h ∧ v = w * h ∧ QY) ∨ ((∀ w h, ¬ gYard kd vl w h) ∧ v = -1 ∧ QN)))
/-- what an article says, in c's block o on -/
def RAr (H : Heap) (ca : Nat) (o : Int) (k : Nat) (z : Int) : Prop := (z = -1 ∧ (sI H ca (o + (18 + (k : Int))).toNat).toInt = 0) ∨ (z ≠ -1 ∧ (sI H ca (o + (18 + (k : Int))).toNat).toInt ≠ 0 ∧ (sI H ca (o + (22 + (k : Int))).toNat).toInt = z)
def ANT (H : Heap) (ca : Nat) (T : YSt) : Prop := ∀ k : Nat, k < 4 → RAr H ca 2080 k (T.2.2.2.2.2 k)
def CZ (H : Heap) (ca : Nat) (k : Int) : Prop := ∀ j : Nat, (j : Int) < k → sI H ca (2080 + j) = 0
def TZM (X : xW) (Γ : Nat → Option Nat) (H : Heap) (r : Nat) (k : Int) : Prop := ∃ tc, sR H r (X.1.2 11 22) = some tc ∧ Γ tc = some 66 ∧ ∀ j : Nat, (j : Int) < k → sI H tc j = 0
def Si0 (vl : Nat → Int) : YSt := (vl 1, vl 3, 0, 0, (fun _ _ => 0), fun _ => -1)
def PTR (X : xW) (Γ : Nat → Option Nat) (H : Heap) (r tq ca : Nat) (kd vl w3 : Nat → Int) (pos : Nat → Nat) (N i : Nat) (S : YSt) : Prop := ((sI H r (X.1.2 11 12)).toInt = 0 ∧ ∃ (S1 : YSt) (i1 : Nat), gPart kd vl S i S1 i1 ∧ MC X H r tq kd vl w3 pos N i1 ∧ YSM X Γ H r ca kd vl w3 N S1) ∨ ((sI H r (X.1.2 11 12)).toInt ≠ 0 ∧ ∀ (S1 : YSt) (i1 : Nat), ¬ gPart kd vl S i S1 i1)
def PIM (X : xW) (Γ : Nat → Option Nat) (H : Heap) (r tq ca : Nat) (kd vl w3 : Nat → Int) (pos : Nat → Nat) (N : Nat) : Prop := gHead kd vl (vl 1) (vl 3) ∧ ∃ (S : YSt) (i f : Nat), MC X H r tq kd vl w3 pos N i ∧ YSM X Γ H r ca kd vl w3 N S ∧ S.1 = vl 1 ∧ S.2.1 = vl 3 ∧ (gAcc kd vl f S i ↔ gAcc kd vl 1000 (Si0 vl) 5) ∧ N + 1 ≤ i + f ∧ ∀ T, gFin kd vl f S i T → gFin kd vl 1000 (Si0 vl) 5 T
def YIV (X : xW) (Γ : Nat → Option Nat) (H : Heap) (r tq ca : Nat) (kd vl w3 : Nat → Int) (pos : Nat → Nat) (N : Nat) : Prop := ((sI H r (X.1.2 11 12)).toInt = 0 → PIM X Γ H r tq ca kd vl w3 pos N) ∧ ((sI H r (X.1.2 11 12)).toInt ≠ 0 → ∀ w h, ¬ gYard kd vl w h)
section YMX
variable {X : xW} {Γ : Nat → Option Nat} {H H0 H1 : Heap} {r tq ca a i i1 j N n f : Nat} {kd vl w3 : Nat → Int} {pos : Nat → Nat} {gs : List Nat} {v : Value} {S S1 : YSt} {k w h : Int}
theorem CZ.nil : CZ H ca 0 := fun j hj => by omega
theorem CZ.step {x : Int32} (hc : CZ H ca k) (U : Up H H1 ca j (.int x)) (hj : (j : Int) = 2080 + k) (hx : x = 0) (h0 : 0 ≤ k) : CZ H1 ca (k + 1) := fun q hq => by
  by_cases e : 2080 + q = j
  · rw [e, up_I U, hx]
  · rw [up_nI U (fun c => e c.2)]
    exact hc q (by omega)
theorem CZ.ne (hc : CZ H ca k) (U : Up H H1 a j v) (hne : a ≠ ca) : CZ H1 ca k := fun q hq => (up_nI U (fun c => hne c.1.symm)).trans (hc q hq)
theorem CZ.le {k' : Int} (hc : CZ H ca k) (hk : k' ≤ k) : CZ H ca k' := fun q hq => hc q (by omega)
theorem TZM.nil (hC : Conf X Γ H) (gr : Γ r = some 11) : TZM X Γ H r 0 := by
  obtain ⟨tc, h1, h2⟩ := f_ref hC gr (ci := 11) (kf := 22) rfl rfl
  exact ⟨tc, h1, h2, fun j hj => by omega⟩
theorem TZM.step {tc : Nat} {x : Int32} (hc : TZM X Γ H r k) (U : Up H H1 tc j (.int x)) (gr : Γ r = some 11) (ht : sR H r (X.1.2 11 22) = some tc) (hj : (j : Int) = k) (hx : x = 0) : TZM X Γ H1 r (k + 1) := by
  obtain ⟨tc', h1, h2, h3⟩ := hc
  have e := Option.some.inj (h1.symm.trans ht)
  subst e
  have nr : ∀ x y : Nat, ¬ (r = tc' ∧ x = y) := fun x y q => absurd (Option.some.inj (gr.symm.trans (q.1 ▸ h2))) (by decide)
  refine ⟨tc', (up_nR U (nr _ _)).trans h1, h2, fun q hq => ?_⟩
  by_cases e : q = j
  · rw [e, up_I U, hx]
  · rw [up_nI U (fun c => e c.2)]
    exact h3 q (by omega)
theorem YSM.start (hC : Conf X Γ H) (gr : Γ r = some 11) (hc : CZ H ca 520) (ht : TZM X Γ H r 108) : YSM X Γ H r ca kd vl w3 N (0, 0, 0, 0, (fun _ _ => 0), fun _ => -1) := by
  obtain ⟨ws, w1, w2⟩ := f_ref hC gr (ci := 11) (kf := 23) rfl rfl
  obtain ⟨tc, t1, t2, t3⟩ := ht
  have z : (0 : Int32).toInt = 0 := by decide
  refine ⟨?_, ?_, ?_, Int.le_refl _, ⟨ws, w1, w2, fun q => absurd rfl q⟩, ⟨tc, t1, t2, fun a c ha hc => ⟨?_, Or.inl rfl⟩⟩, ?_, fun k hk => ⟨?_, fun q => absurd rfl q⟩⟩
  · rw [show (2080 : Int).toNat = 2080 + 0 from rfl, hc 0 (by decide)]; exact z
  · rw [show (2081 : Int).toNat = 2080 + 1 from rfl, hc 1 (by decide)]; exact z
  · rw [show (2082 : Int).toNat = 2080 + 2 from rfl, hc 2 (by decide)]; exact z
  · rw [t3 _ (by omega)]; exact z
  · rw [show (2104 : Int).toNat = 2080 + 24 from rfl, hc 24 (by decide)]; exact z
  · rw [show 2098 + k = 2080 + (18 + k) by omega, hc _ (by omega)]
    exact z
theorem YIV.of (hd : HDS X Γ H r tq ca kd vl w3 pos N (((((True ∧ okW kd vl 0 0) ∧ okN kd vl 2 6 1) ∧ okW kd vl 1 2) ∧ okN kd vl 1 6 3) ∧ kd 4 = 59) 5 (Si0 vl)) (hp : vl 1 % 2 = 0 ∨ (sI H r (X.1.2 11 12)).toInt ≠ 0) (hN : N ≤ 900) : YIV X Γ H r tq ca kd vl w3 pos N := by
  rcases hd with ⟨h0, ⟨⟨⟨⟨⟨-, p1⟩, p2⟩, p3⟩, p4⟩, p5⟩, mc, ym⟩ | ⟨h0, hn⟩
  · exact ⟨fun _ => ⟨⟨p1, p2, by omega, p3, p4, p5, rfl, rfl⟩, Si0 vl, 5, 1000, mc, ym, rfl, rfl, Iff.rfl, by omega, fun _ q => q⟩, fun q => absurd h0 q⟩
  · exact ⟨fun q => absurd q h0, fun _ w h q => by
      obtain ⟨⟨q1, q2, -, q4, q5, q6, -⟩, -⟩ := q
      exact hn ⟨⟨⟨⟨⟨trivial, q1⟩, q2⟩, q4⟩, q5⟩, q6⟩⟩
theorem YIV.no (h0 : (sI H r (X.1.2 11 12)).toInt ≠ 0) (hn : ∀ w h, ¬ gYard kd vl w h) : YIV X Γ H r tq ca kd vl w3 pos N := ⟨fun q => absurd q h0, fun _ => hn⟩
theorem TKS.N900 {b : Nat → Int} (hs : TKS b n N pos kd vl w3) (hn : n ≤ 900) : N ≤ 900 := by
  have h1 : ∀ m, m ≤ N → m ≤ pos m ∧ pos m ≤ n ∨ m = 0 := by
    intro m
    induction m with
    | zero => intro _; exact Or.inr rfl
    | succ m ih =>
      intro hm
      left
      obtain ⟨s, hT⟩ := hs.2.1 m (by omega)
      have hk := hs.2.2.2 m (by omega)
      have hp : m ≤ pos m := by
        rcases ih (by omega) with q | q
        · exact q.1
        · omega
      have hb := hT.1.1
      rcases hT.2 with ⟨-, q⟩ | ⟨q1, q2, -, q4, -⟩ | ⟨q1, q2, q3, -⟩ | ⟨q1, -, -, q4, -⟩
      · exact absurd q hk
      · have := q4.1
        have h2 := q4.le (by omega)
        have : s < pos (m + 1) := by
          rcases Nat.lt_or_ge s (pos (m + 1)) with e | e
          · exact e
          · exact absurd ⟨by omega, by rw [show pos (m + 1) = s by omega]; exact q2⟩ q4.2.2
        omega
      · have := q3.1
        have h2 := q3.le (by omega)
        have : s < pos (m + 1) := by
          rcases Nat.lt_or_ge s (pos (m + 1)) with e | e
          · exact e
          · exact absurd ⟨by omega, by rw [show pos (m + 1) = s by omega]; exact q2⟩ q3.2.2
        omega
      · omega
  rcases h1 N (Nat.le_refl _) with q | q <;> omega
theorem PTR.school (hr : ((sI H r (X.1.2 11 12)).toInt = 0 ∧ ∃ (S1 : YSt) (i1 : Nat), gSchool kd vl S i S1 i1 ∧ MC X H r tq kd vl w3 pos N i1 ∧ YSM X Γ H r ca kd vl w3 N S1) ∨ ((sI H r (X.1.2 11 12)).toInt ≠ 0 ∧ ∀ (S1 : YSt) (i1 : Nat), ¬ gSchool kd vl S i S1 i1)) (hw : okW kd vl 2 i) : PTR X Γ H r tq ca kd vl w3 pos N i S := by
  rcases hr with ⟨h0, S1, i1, g, m, y⟩ | ⟨h0, hn⟩
  · exact Or.inl ⟨h0, S1, i1, Or.inl ⟨hw, g⟩, m, y⟩
  · exact Or.inr ⟨h0, fun S1 i1 q => by
      rcases q with ⟨-, q⟩ | ⟨q, -⟩ | ⟨q, -⟩ | ⟨q, -⟩ | ⟨q, -⟩
      · exact hn S1 i1 q
      all_goals exact absurd (okW_j hw q (by decide) (by decide)) (by decide)⟩
theorem PTR.cell {a : Int} {jw : Nat} (hr : ((sI H r (X.1.2 11 12)).toInt = 0 ∧ ∃ (S1 : YSt) (i1 : Nat), gHeap kd vl (bfO a) a (lmO a) S i S1 i1 ∧ MC X H r tq kd vl w3 pos N i1 ∧ YSM X Γ H r ca kd vl w3 N S1) ∨ ((sI H r (X.1.2 11 12)).toInt ≠ 0 ∧ ∀ (S1 : YSt) (i1 : Nat), ¬ gHeap kd vl (bfO a) a (lmO a) S i S1 i1)) (hw : okW kd vl jw i) (ha : (a = 0 ∧ jw = 4) ∨ (a = 1 ∧ jw = 6) ∨ (a = 2 ∧ jw = 8)) : PTR X Γ H r tq ca kd vl w3 pos N i S := by
  rcases hr with ⟨h0, S1, i1, g, m, y⟩ | ⟨h0, hn⟩
  · refine Or.inl ⟨h0, S1, i1, ?_, m, y⟩
    rcases ha with ⟨rfl, rfl⟩ | ⟨rfl, rfl⟩ | ⟨rfl, rfl⟩
    · exact Or.inr (Or.inl ⟨hw, g⟩)
    · exact Or.inr (Or.inr (Or.inl ⟨hw, g⟩))
    · exact Or.inr (Or.inr (Or.inr (Or.inl ⟨hw, g⟩)))
  · refine Or.inr ⟨h0, fun S1 i1 q => ?_⟩
    rcases ha with ⟨rfl, rfl⟩ | ⟨rfl, rfl⟩ | ⟨rfl, rfl⟩ <;> rcases q with ⟨q, q2⟩ | ⟨q, q2⟩ | ⟨q, q2⟩ | ⟨q, q2⟩ | ⟨q, q2⟩ <;> first | exact hn S1 i1 q2 | exact absurd (okW_j hw q (by decide) (by decide)) (by decide)
theorem PTR.art (hr : ((sI H r (X.1.2 11 12)).toInt = 0 ∧ ∃ (S1 : YSt) (i1 : Nat), gArt kd vl S (i + 1) S1 i1 ∧ MC X H r tq kd vl w3 pos N i1 ∧ YSM X Γ H r ca kd vl w3 N S1) ∨ ((sI H r (X.1.2 11 12)).toInt ≠ 0 ∧ ∀ (S1 : YSt) (i1 : Nat), ¬ gArt kd vl S (i + 1) S1 i1)) (hw : okW kd vl 10 i) : PTR X Γ H r tq ca kd vl w3 pos N i S := by
  rcases hr with ⟨h0, S1, i1, g, m, y⟩ | ⟨h0, hn⟩
  · exact Or.inl ⟨h0, S1, i1, Or.inr (Or.inr (Or.inr (Or.inr ⟨hw, g⟩))), m, y⟩
  · exact Or.inr ⟨h0, fun S1 i1 q => by
      rcases q with ⟨q, -⟩ | ⟨q, -⟩ | ⟨q, -⟩ | ⟨q, -⟩ | ⟨-, q⟩
      all_goals first | exact hn S1 i1 q | exact absurd (okW_j hw q (by decide) (by decide)) (by decide)⟩
theorem PTR.none (h0 : (sI H r (X.1.2 11 12)).toInt ≠ 0) (mc : MC X H0 r tq kd vl w3 pos N i) (n2 : ¬ WDM X H0 r (k3 2)) (n4 : ¬ WDM X H0 r (k3 4)) (n6 : ¬ WDM X H0 r (k3 6)) (n8 : ¬ WDM X H0 r (k3 8)) (n10 : ¬ WDM X H0 r (k3 10)) : PTR X Γ H r tq ca kd vl w3 pos N i S := Or.inr ⟨h0, fun S1 i1 q => by
  rcases q with ⟨q, -⟩ | ⟨q, -⟩ | ⟨q, -⟩ | ⟨q, -⟩ | ⟨q, -⟩
  · exact n2 ((mc.word (by decide)).mpr q)
  · exact n4 ((mc.word (by decide)).mpr q)
  · exact n6 ((mc.word (by decide)).mpr q)
  · exact n8 ((mc.word (by decide)).mpr q)
  · exact n10 ((mc.word (by decide)).mpr q)⟩
theorem YIV.step {x : Int} (hp : PTR X Γ H r tq ca kd vl w3 pos N i S) (hk : Kp X Γ gs H H1) (gr : Γ r = some 11) (gc : Γ ca = some 64) (hz : (x = 1 ∧ (sI H r (X.1.2 11 14)).toInt = 3 ∧ (sI H r (X.1.2 11 17)).toInt = 59) ∨ (x = 0 ∧ ¬ ((sI H r (X.1.2 11 14)).toInt = 3 ∧ (sI H r (X.1.2 11 17)).toInt = 59)))
    (hm : ∀ (kd vl w3 : Nat → Int) (pos : Nat → Nat) (N i : Nat), MC X H r tq kd vl w3 pos N i → (sI H r (X.1.2 11 12)).toInt = 0 → (x = 1 → kd i ≠ 0 → (sI H1 r (X.1.2 11 12)).toInt = 0 ∧ MC X H1 r tq kd vl w3 pos N (i + 1)) ∧ (x = 0 → (sI H1 r (X.1.2 11 12)).toInt ≠ 0)) (hg : (sI H r (X.1.2 11 12)).toInt ≤ 7 * (sI H1 r (X.1.2 11 12)).toInt) (hb : 0 ≤ (sI H r (X.1.2 11 12)).toInt) (h15 : gs.contains 15 = true) (h35 : gs.contains 35 = true)
    (hgh : gHead kd vl (vl 1) (vl 3)) (h0 : kd i ≠ 0) (e1 : S.1 = vl 1) (e2 : S.2.1 = vl 3) (ha : gAcc kd vl f S i ↔ gAcc kd vl 1000 (Si0 vl) 5) (hf : N + 1 ≤ i + f) (ht : ∀ T, gFin kd vl f S i T → gFin kd vl 1000 (Si0 vl) 5 T) (hi : i ≤ N) : YIV X Γ H1 r tq ca kd vl w3 pos N := by
  have hy : ∀ w h, gYard kd vl w h → gAcc kd vl f S i := fun w h q => by
    obtain ⟨⟨-, -, -, -, -, -, c1, c2⟩, q2⟩ := q
    subst c1 c2
    exact ha.mpr q2
  rcases hp with ⟨b0, S1, i1, g, mc, ym⟩ | ⟨b0, hn⟩
  · have h1 := hm kd vl w3 pos N i1 mc b0
    have hl := gPart_lt g
    have hwh := gPart_wh g
    obtain ⟨f', rfl⟩ : ∃ f', f = f' + 1 := ⟨f - 1, by omega⟩
    rcases hz with ⟨z1, z2⟩ | ⟨z1, z2⟩
    · have hw := (mc.sign rfl).mp z2
      have h2 := h1.1 z1 (by omega)
      exact ⟨fun _ => ⟨hgh, S1, i1 + 1, f', h2.2, ym.kp hk gr gc h15 h35, hwh.1.trans e1, hwh.2.trans e2, (iff_of_eq (by rw [gAcc_step g h0]; simp [hw])).symm.trans ha, by omega, fun T q => ht T (gFin_step g h0 hw q)⟩, fun q => absurd h2.1 q⟩
    · exact ⟨fun q => absurd q (h1.2 z1), fun _ w h q => z2 ((mc.sign rfl).mpr ((gAcc_step g h0).mp (hy w h q)).1)⟩
  · exact ⟨fun q => by omega, fun _ w h q => gAcc_none hn h0 (hy w h q)⟩
theorem YIV.fin (hgh : gHead kd vl (vl 1) (vl 3)) (mc : MC X H r tq kd vl w3 pos N i) (h0 : kd i = 0) (ha : gAcc kd vl f S i ↔ gAcc kd vl 1000 (Si0 vl) 5) (hf : N + 1 ≤ i + f) : gYard kd vl (vl 1) (vl 3) := by
  have hi := mc.2.1
  obtain ⟨f', rfl⟩ : ∃ f', f = f' + 1 := ⟨f - 1, by omega⟩
  exact ⟨hgh, ha.mp (gAcc_end h0)⟩
theorem YIV.fin2 (mc : MC X H r tq kd vl w3 pos N i) (ym : YSM X Γ H r ca kd vl w3 N S) (h0 : kd i = 0) (hf : N + 1 ≤ i + f) (ht : ∀ T, gFin kd vl f S i T → gFin kd vl 1000 (Si0 vl) 5 T) : ∃ T, gFin kd vl 1000 (Si0 vl) 5 T ∧ ANT H ca T := by
  have hi := mc.2.1
  obtain ⟨f', rfl⟩ : ∃ f', f = f' + 1 := ⟨f - 1, by omega⟩
  refine ⟨S, ht S (gFin_end h0), fun k hk => ?_⟩
  obtain ⟨-, -, -, -, -, -, -, h5⟩ := ym
  obtain ⟨h6, h7⟩ := h5 k hk
  by_cases e : S.2.2.2.2.2 k = -1
  · rw [if_pos e] at h6
    exact Or.inl ⟨e, by rw [show (2080 + (18 + (k : Int))).toNat = 2098 + k by omega]; exact h6⟩
  · rw [if_neg e] at h6
    exact Or.inr ⟨e, by rw [show (2080 + (18 + (k : Int))).toNat = 2098 + k by omega]; omega, by rw [show (2080 + (22 + (k : Int))).toNat = 2102 + k by omega]; exact h7 e⟩
end YMX
-- the law's yard: the class's stream is the reference's; both tapes hold the same
section LYD
variable {b b' : Nat → Int} {n N p q s : Nat} {P : Int → Prop} {β : Int} {pos : Nat → Nat} {kd vl w3 : Nat → Int}
theorem Sp.cg (hb : ∀ j, j < n → b j = b' j) (h : Sp P b n p q) : Sp P b' n p q :=
  ⟨h.1, fun i a c => ⟨(h.2.1 i a c).1, hb i (h.2.1 i a c).1 ▸ (h.2.1 i a c).2⟩, fun x => h.2.2 ⟨x.1, (hb _ x.1).symm ▸ x.2⟩⟩
theorem cdN_cg : ∀ m, (∀ j, j < m → b (s + j) = b' (s + j)) → cdN β b s m = cdN β b' s m
  | 0, _ => rfl
  | m + 1, h => by
    unfold cdN
    rw [cdN_cg m (fun j hj => h j (by omega)), h m (by omega)]
theorem nmN_cg : ∀ m, (∀ j, j < m → b (s + j) = b' (s + j)) → nmN b s m = nmN b' s m
  | 0, _ => rfl
  | m + 1, h => by
    unfold nmN
    rw [nmN_cg m (fun j hj => h j (by omega)), h m (by omega)]
theorem Sp.lt (h : Sp P b n s q) : ∀ j, j < q - s → s + j < n := fun j hj => (h.2.1 (s + j) (by omega) (by omega)).1
theorem TK.cg {k v w : Int} (hb : ∀ j, j < n → b j = b' j) (h : TK b n p k v w s q) : TK b' n p k v w s q := by
  obtain ⟨h1, h⟩ := h
  refine ⟨h1.cg hb, ?_⟩
  rcases h with ⟨a1, a2⟩ | ⟨a1, a2, a3, a4, a5, a6⟩ | ⟨a1, a2, a3, a4⟩ | ⟨a1, a2, a3, a4, a5⟩
  · exact Or.inl ⟨a1, a2⟩
  · refine Or.inr (Or.inl ⟨a1, hb _ a1 ▸ a2, a3, a4.cg hb, ?_, ?_⟩)
    · rw [a5, cdN_cg (q - s) (fun j hj => hb _ (a4.lt j hj))]
    · rw [a6, cdN_cg (q - s) (fun j hj => hb _ (a4.lt j hj))]
  · refine Or.inr (Or.inr (Or.inl ⟨a1, hb _ a1 ▸ a2, a3.cg hb, ?_⟩))
    rcases a4 with ⟨c1, c2, c3⟩ | c
    · exact Or.inl ⟨c1, c2, by rw [c3, nmN_cg (q - s) (fun j hj => hb _ (a3.lt j hj))]⟩
    · exact Or.inr c
  · rw [hb _ a1] at a2 a3 a5
    exact Or.inr (Or.inr (Or.inr ⟨a1, a2, a3, a4, a5⟩))
theorem TKS.cg (hb : ∀ j, j < n → b j = b' j) (h : TKS b n N pos kd vl w3) : TKS b' n N pos kd vl w3 :=
  ⟨h.1, fun i hi => by obtain ⟨s, hs⟩ := h.2.1 i hi; exact ⟨s, hs.cg hb⟩, h.2.2⟩
theorem YDR.to {R R' m v : Int} {PN : Prop} {PY : (Nat → Int) → (Nat → Int) → Prop} (h : YDR R m b v PN PY) (hR : R' = R) (hb : ∀ j : Nat, (j : Int) < R → b j = b' j) : ∃ (kd vl w3 : Nat → Int) (pos : Nat → Nat) (N : Nat), (0 ≤ m → m ≤ R' → TKS b' m.toNat N pos kd vl w3) ∧ ∀ (u : Int) (QN QY : Prop), YMR R' m kd vl u QN QY → v = u ∧ ((PN ∧ QN) ∨ (PY kd vl ∧ QY)) := by
  subst hR
  rcases h with ⟨hn, hv, hP⟩ | ⟨h0, h1, kd, vl, w3, pos, N, ht, hv⟩
  · refine ⟨fun _ => 0, fun _ => 0, fun _ => 0, fun _ => 0, 0, fun a c => absurd hn (by omega), fun u QN QY hu => ?_⟩
    rcases hu with ⟨-, e, hQ⟩ | ⟨a, c, -⟩
    · exact ⟨hv.trans e.symm, Or.inl ⟨hP, hQ⟩⟩
    · omega
  · refine ⟨kd, vl, w3, pos, N, fun _ _ => ht.cg (fun j hj => hb j (by omega)), fun u QN QY hu => ?_⟩
    rcases hu with ⟨a, -, -⟩ | ⟨-, -, hu⟩
    · omega
    · rcases hv with ⟨w, h, q, e, hP⟩ | ⟨q, e, hP⟩ <;> rcases hu with ⟨w', h', q', e', hQ⟩ | ⟨q', e', hQ⟩
      · obtain ⟨⟨-, -, -, -, -, -, x1, x2⟩, -⟩ := q
        obtain ⟨⟨-, -, -, -, -, -, y1, y2⟩, -⟩ := q'
        exact ⟨by rw [e, e', x1, x2, y1, y2], Or.inr ⟨hP, hQ⟩⟩
      · exact absurd q (q' w h)
      · exact absurd q' (q w' h')
      · exact ⟨e.trans e'.symm, Or.inl ⟨hP, hQ⟩⟩
end LYD
theorem TPQ.nil {H : Heap} {tp tq : Nat} {F : Int} (h : F ≤ 0) : TPQ H tp tq F := fun j hj => by omega
theorem TPQ.go {H H1 : Heap} {tp tq : Nat} {F G : Int} (h : TPQ H tp tq F) (e1 : ∀ j, sI H1 tp j = sI H tp j) (e2 : ∀ j, sI H1 tq j = sI H tq j) (hG : G ≤ F ∨ G ≤ 0) : TPQ H1 tp tq G := fun j hj => by
  rw [e1 j, e2 j]
  exact h j (by omega)
theorem TPQ.bf {H H1 : Heap} {tp tq : Nat} {F : Int} (h : TPQ H tp tq F) (e2 : ∀ j, sI H1 tq j = sI H tq j) : ∀ j : Nat, (j : Int) < F → bf H tp j = bf H1 tq j := fun j hj => by
  show (sI H tp j).toInt = (sI H1 tq j).toInt
  rw [e2 j, (h j hj).1]
theorem TPQ.fed {Ha Hb Hd : Heap} {tp tq : Nat} {F F' G : Int} {a b c d e : Int32} (h : TPQ Ha tp tq F) (h1 : FDR Ha Hb tp F a b c d e) (h2 : FDR Hb Hd tq F' a b c d e) (hF : F' = F) (eq : ∀ j, sI Hb tq j = sI Ha tq j) (ep : ∀ j, sI Hd tp j = sI Hb tp j) (hG : (880 < F ∧ G = F) ∨ (F ≤ 880 ∧ G = F + 20)) : TPQ Hd tp tq G := by
  subst hF
  have r := FDR.rel h1 h2 (fun j hj => by rw [eq j]; exact h j hj) hG
  intro j hj
  rw [ep j]
  exact r j hj
-- the articles of all yards, both sides
section ART
variable {X : xW} {Γ : Nat → Option Nat} {H H0 H1 H2 : Heap} {a b c d t t' y x1 qm ca m1 j k r : Nat} {gs gs2 : List Nat} {v : Value} {yd ya : Nat → Nat} {cu : Nat}
/-- the articles' rows are as they were: all; all but one; one is another's, the others as they were -/
def AKE (Γ : Nat → Option Nat) (H H1 : Heap) : Prop := ∀ a, Γ a = some 34 → ∀ j, j < 4 → sI H1 a j = sI H a j
def ARK (Γ : Nat → Option Nat) (H H1 : Heap) (t : Nat) : Prop := ∀ a, Γ a = some 34 → a ≠ t → ∀ j, j < 4 → sI H1 a j = sI H a j
def ARP (Γ : Nat → Option Nat) (H H1 : Heap) (t t' : Nat) : Prop := (∀ j, j < 4 → sI H1 t j = sI H t' j) ∧ ARK Γ H H1 t
def AKY (X : xW) (Γ : Nat → Option Nat) (H H1 : Heap) (y : Nat) : Prop := ∀ t, sR H y (X.1.2 8 10) = some t → ARK Γ H H1 t
def ACP (X : xW) (Γ : Nat → Option Nat) (H H1 : Heap) (y y' : Nat) : Prop := ∀ t t', sR H y (X.1.2 8 10) = some t → sR H y' (X.1.2 8 10) = some t' → ARP Γ H H1 t t'
theorem AKE.rf : AKE Γ H H := fun _ _ _ _ => rfl
theorem AKE.ne (h : AKE Γ H0 H) (U : Up H H1 b j v) (gb : Γ b = some k) (hk : k ≠ 34) : AKE Γ H0 H1 := fun a ga i hi => (up_nI U (ne_k ga gb (fun e => hk e.symm))).trans (h a ga i hi)
theorem AKE.cp (h : AKE Γ H0 H) (U : Cp H H1 b) (gb : Γ b = some k) (hk : k ≠ 34) : AKE Γ H0 H1 := fun a ga i hi => (cp_I U (nek ga gb (fun e => hk e.symm))).trans (h a ga i hi)
theorem AKE.kp (h : AKE Γ H0 H) (hk : Kp X Γ gs H H1) (h40 : gs.contains 40 = true) : AKE Γ H0 H1 := fun a ga i hi => (kp_aI hk i ga rfl (gs_any h40 rfl)).trans (h a ga i hi)
theorem AKE.ark (h : AKE Γ H0 H) : ARK Γ H0 H t := fun a ga _ i hi => h a ga i hi
theorem ARK.rf : ARK Γ H H t := fun _ _ _ _ _ => rfl
theorem ARK.ne (h : ARK Γ H0 H t) (U : Up H H1 b j v) (gb : Γ b = some k) (hk : k ≠ 34) : ARK Γ H0 H1 t := fun a ga ha i hi => (up_nI U (ne_k ga gb (fun e => hk e.symm))).trans (h a ga ha i hi)
theorem ARK.cp (h : ARK Γ H0 H t) (U : Cp H H1 b) (gb : Γ b = some k) (hk : k ≠ 34) : ARK Γ H0 H1 t := fun a ga ha i hi => (cp_I U (nek ga gb (fun e => hk e.symm))).trans (h a ga ha i hi)
theorem ARK.kp (h : ARK Γ H0 H t) (hk : Kp X Γ gs H H1) (h40 : gs.contains 40 = true) : ARK Γ H0 H1 t := fun a ga ha i hi => (kp_aI hk i ga rfl (gs_any h40 rfl)).trans (h a ga ha i hi)
theorem ARK.up (h : ARK Γ H0 H t) (U : Up H H1 b j v) (e : b = t) : ARK Γ H0 H1 t := fun a ga ha i hi => (up_nI U (fun q => ha (q.1.trans e))).trans (h a ga ha i hi)
theorem ARK.cpt (h : ARK Γ H0 H t) (U : Cp H H1 b) (e : b = t) : ARK Γ H0 H1 t := fun a ga ha i hi => (cp_I U (fun q => ha (q.trans e))).trans (h a ga ha i hi)
theorem ARK.tr (h : ARK Γ H0 H t) (h2 : ARK Γ H H1 t) : ARK Γ H0 H1 t := fun a ga ha i hi => (h2 a ga ha i hi).trans (h a ga ha i hi)
theorem AKY.of (har : sR H0 y (X.1.2 8 10) = some t) (h : ARK Γ H0 H t) : AKY X Γ H0 H y := fun t' q => by
  rw [← Option.some.inj (har.symm.trans q)]
  exact h
theorem ARP.ne (h : ARP Γ H0 H t t') (U : Up H H1 b j v) (gt : Γ t = some 34) (gb : Γ b = some k) (hk : k ≠ 34) : ARP Γ H0 H1 t t' := ⟨fun i hi => (up_nI U (ne_k gt gb (fun e => hk e.symm))).trans (h.1 i hi), h.2.ne U gb hk⟩
theorem ARP.cp (h : ARP Γ H0 H t t') (U : Cp H H1 b) (gt : Γ t = some 34) (gb : Γ b = some k) (hk : k ≠ 34) : ARP Γ H0 H1 t t' := ⟨fun i hi => (cp_I U (nek gt gb (fun e => hk e.symm))).trans (h.1 i hi), h.2.cp U gb hk⟩
theorem ARP.kp (h : ARP Γ H0 H t t') (hk : Kp X Γ gs H H1) (gt : Γ t = some 34) (h40 : gs.contains 40 = true) : ARP Γ H0 H1 t t' := ⟨fun i hi => (kp_aI hk i gt rfl (gs_any h40 rfl)).trans (h.1 i hi), h.2.kp hk h40⟩
theorem ARP.mk (h : AKE Γ H0 H) (U : Cp H H1 t) (C : Cpc H H1 t' t 0 0 4 4) (gt : Γ t' = some 34) : ARP Γ H0 H1 t t' := by
  refine ⟨fun i hi => ?_, fun a ga ha i hi => (cp_I U ha).trans (h a ga i hi)⟩
  have e : sI H1 t i = sI H t' i := by
    unfold sI
    rw [C i hi, if_pos ⟨by omega, by omega⟩, show ((0 : Int) + ((i : Int) - 0)).toNat = i by omega]
  exact e.trans (h t' gt i hi)
theorem ARP.pre (h : ARP Γ H H1 t t') (e : AKE Γ H0 H) (gt : Γ t' = some 34) : ARP Γ H0 H1 t t' := ⟨fun i hi => (h.1 i hi).trans (e t' gt i hi), fun a ga ha i hi => (h.2 a ga ha i hi).trans (e a ga i hi)⟩
theorem ARP.rest (h : ARP Γ H0 H t t') (h2 : ARP Γ H H1 t' t) (gt : Γ t = some 34) (hne : t ≠ t') : ARP Γ H0 H1 t t' :=
  ⟨fun i hi => (h2.2 t gt hne i hi).trans (h.1 i hi), fun a ga ha i hi => by
    by_cases e : a = t'
    · rw [e, h2.1 i hi, h.1 i hi]
    · exact (h2.2 a ga e i hi).trans (h.2 a ga ha i hi)⟩
theorem YDP.le (h : YDP X Γ H x1 qm yd ya cu) : cu ≤ 1 := h.1
theorem YDP.hy (h : YDP X Γ H x1 qm yd ya cu) : sR H x1 (X.1.2 10 5) = some (yd cu) := h.2.1
theorem YDP.s (h : YDP X Γ H x1 qm yd ya cu) : sR H x1 (X.1.2 10 6) = some (yd (1 - cu)) := h.2.2.1
theorem YDP.q (h : YDP X Γ H x1 qm yd ya cu) : sR H x1 (X.1.2 10 9) = some qm := h.2.2.2.1.1
theorem YDP.gq (h : YDP X Γ H x1 qm yd ya cu) : Γ qm = some 21 := h.2.2.2.1.2
theorem YDP.m (h : YDP X Γ H x1 qm yd ya cu) {i : Nat} (hi : i < 3) : sR H qm i = some (yd (2 + i)) := h.2.2.2.2.1 i hi
theorem YDP.gy (h : YDP X Γ H x1 qm yd ya cu) {i : Nat} (hi : i < 5) : Γ (yd i) = some 5 := (h.2.2.2.2.2.1 i hi).1
theorem YDP.ha (h : YDP X Γ H x1 qm yd ya cu) {i : Nat} (hi : i < 5) : sR H (yd i) (X.1.2 8 10) = some (ya i) := (h.2.2.2.2.2.1 i hi).2.1
theorem YDP.ga (h : YDP X Γ H x1 qm yd ya cu) {i : Nat} (hi : i < 5) : Γ (ya i) = some 34 := (h.2.2.2.2.2.1 i hi).2.2
theorem YDP.inj (h : YDP X Γ H x1 qm yd ya cu) {i j : Nat} (hi : i < 5) (hj : j < 5) (hij : i ≠ j) : ya i ≠ ya j := fun e => hij (h.2.2.2.2.2.2 i j hi hj e)
theorem YDP.re (h : YDP X Γ H x1 qm yd ya cu) (g : Γ x1 = some 0) (hk : Kp X Γ gs H H1) (h37 : gs.contains 37 = true) (h41 : gs.contains 41 = true) {cu' : Nat} (hc : cu' ≤ 1) (e5 : sR H1 x1 (X.1.2 10 5) = some (yd cu')) (e6 : sR H1 x1 (X.1.2 10 6) = some (yd (1 - cu'))) : YDP X Γ H1 x1 qm yd ya cu' := by
  obtain ⟨a1, a2, a3, ⟨a4, a5⟩, a6, a7, a8⟩ := h
  exact ⟨hc, e5, e6, ⟨(kp_R hk g (ci := 10) (k := 9) rfl (by decide) (gs_any h41 rfl)).trans a4, a5⟩, fun i hi => (kp_aR hk i a5 rfl (gs_any h41 rfl)).trans (a6 i hi), fun i hi => ⟨(a7 i hi).1, (kp_R hk (a7 i hi).1 (ci := 8) (k := 10) rfl (by decide) (gs_any h37 rfl)).trans (a7 i hi).2.1, (a7 i hi).2.2⟩, a8⟩
theorem YDP.kp (h : YDP X Γ H x1 qm yd ya cu) (g : Γ x1 = some 0) (hk : Kp X Γ gs H H1) (h37 : gs.contains 37 = true) (h39 : gs.contains 39 = true) (h41 : gs.contains 41 = true) : YDP X Γ H1 x1 qm yd ya cu :=
  h.re g hk h37 h41 h.1 ((kp_R hk g (ci := 10) (k := 5) rfl (by decide) (gs_any h39 rfl)).trans h.hy) ((kp_R hk g (ci := 10) (k := 6) rfl (by decide) (gs_any h39 rfl)).trans h.s)
theorem YDP.kpM (h : YDP X Γ H x1 qm yd ya cu) (g : Γ x1 = some 0) (hk : Kp X Γ gs H H1) (h1 : gs.contains 1 = true) : YDP X Γ H1 x1 qm yd ya cu := by
  obtain ⟨a1, a2, a3, ⟨a4, a5⟩, a6, a7, a8⟩ := h
  exact ⟨a1, (kp_R hk g (ci := 10) (k := 5) rfl (by decide) (gs_any h1 rfl)).trans a2, (kp_R hk g (ci := 10) (k := 6) rfl (by decide) (gs_any h1 rfl)).trans a3, ⟨(kp_R hk g (ci := 10) (k := 9) rfl (by decide) (gs_any h1 rfl)).trans a4, a5⟩, fun i hi => (kp_aR hk i a5 rfl (gs_any h1 rfl)).trans (a6 i hi), fun i hi => ⟨(a7 i hi).1, (kp_R hk (a7 i hi).1 (ci := 8) (k := 10) rfl (by decide) (gs_any h1 rfl)).trans (a7 i hi).2.1, (a7 i hi).2.2⟩, a8⟩
theorem AKE.kpM (hk : Kp X Γ gs H H1) (h1 : gs.contains 1 = true) : AKE Γ H H1 := fun a ga i hi => kp_aI hk i ga rfl (gs_any h1 rfl)
theorem Si0_eq {kd vl : Nat → Int} {S1 : YSt} (hg : gHead kd vl S1.1 S1.2.1) (hS : S1.2.2 = (0, 0, (fun _ _ => 0), fun _ => -1)) : S1 = Si0 vl := by
  obtain ⟨a, b, c⟩ := S1
  have hS : c = (0, 0, (fun _ _ => 0), fun _ => -1) := hS
  have ha : a = vl 1 := hg.2.2.2.2.2.2.1
  have hb : b = vl 3 := hg.2.2.2.2.2.2.2
  subst hS ha hb
  rfl
/-- the reference's new articles, over what writes elsewhere -/
theorem ANT.up {T : YSt} (h : ANT H ca T) (U : Up H H1 ca j v) (hj : j < 2098 ∨ 2106 ≤ j) : ANT H1 ca T := fun k hk => by
  have h2 := h k hk
  unfold RAr at h2 ⊢
  rw [up_nI U (fun q => by have := q.2; omega), up_nI U (fun q => by have := q.2; omega)]
  exact h2
theorem ANT.ne {T : YSt} (h : ANT H ca T) (U : Up H H1 b j v) (hne : b ≠ ca) : ANT H1 ca T := fun k hk => by
  have h2 := h k hk
  unfold RAr at h2 ⊢
  rw [up_nI U (fun q => hne q.1.symm), up_nI U (fun q => hne q.1.symm)]
  exact h2
theorem ANT.kp {T : YSt} (h : ANT H ca T) (hk : Kp X Γ gs H H1) (gc : Γ ca = some 64) (h15 : gs.contains 15 = true) : ANT H1 ca T := fun k hkk => by
  have h2 := h k hkk
  unfold RAr at h2 ⊢
  rw [kp_c hk gc h15, kp_c hk gc h15]
  exact h2
def ANC (H : Heap) (ca : Nat) (b : Int) (kd vl : Nat → Int) : Prop := b = 0 → ∃ T, gFin kd vl 1000 (Si0 vl) 5 T ∧ ANT H ca T
theorem ANC.up {z : Int} {kd vl : Nat → Int} (h : ANC H ca z kd vl) (U : Up H H1 ca j v) (hj : j < 2098 ∨ 2106 ≤ j) : ANC H1 ca z kd vl := fun q => by
  obtain ⟨T, h1, h2⟩ := h q
  exact ⟨T, h1, h2.up U hj⟩
theorem ANC.ne {z : Int} {kd vl : Nat → Int} (h : ANC H ca z kd vl) (U : Up H H1 b j v) (hne : b ≠ ca) : ANC H1 ca z kd vl := fun q => by
  obtain ⟨T, h1, h2⟩ := h q
  exact ⟨T, h1, h2.ne U hne⟩
theorem ANC.kp {z : Int} {kd vl : Nat → Int} (h : ANC H ca z kd vl) (hk : Kp X Γ gs H H1) (gc : Γ ca = some 64) (h15 : gs.contains 15 = true) : ANC H1 ca z kd vl := fun q => by
  obtain ⟨T, h1, h2⟩ := h q
  exact ⟨T, h1, h2.kp hk gc h15⟩
/-- both sides' yard, taken -/
def PYA (X : xW) (Γ : Nat → Option Nat) (H1 : Heap) (x1 qm : Nat) (yd ya : Nat → Nat) (cu : Nat) (kd vl : Nat → Int) : Prop := YDP X Γ H1 x1 qm yd ya (1 - cu) ∧ ∃ T, gFin kd vl 1000 (Si0 vl) 5 T ∧ ∀ k : Nat, k < 4 → (sI H1 (ya (1 - cu)) k).toInt = T.2.2.2.2.2 k
def QYA (H1 : Heap) (ca : Nat) (kd vl : Nat → Int) : Prop := ∃ T, gFin kd vl 1000 (Si0 vl) 5 T ∧ ∀ k : Nat, k < 4 → RAr H1 ca 0 k (T.2.2.2.2.2 k)
theorem ANT.fin {T : YSt} (h : ANT H ca T) {n : Int} (hc : CPd H ca 2080 0 n) (hn : 520 ≤ n) : ∀ k : Nat, k < 4 → RAr H ca 0 k (T.2.2.2.2.2 k) := fun k hk => by
  have h2 := h k hk
  have e1 := hc (18 + k) (by omega) (by omega)
  have e2 := hc (22 + k) (by omega) (by omega)
  unfold RAr at h2 ⊢
  rw [e1, e2]
  exact h2
def ARB (Hc Hm : Heap) (ca : Nat) (o : Int) (t : Nat) : Prop := ∀ k : Nat, k < 4 → RAr Hm ca o k (sI Hc t k).toInt
theorem ARB.of {Hm Hm1 : Heap} {o o2 : Int} (h : ARB H Hm ca o t) (e : ∀ j, j < 4 → sI H1 t' j = sI H t j) (ec : ∀ i : Int, 18 ≤ i → i ≤ 25 → sI Hm1 ca (o2 + i).toNat = sI Hm ca (o + i).toNat) : ARB H1 Hm1 ca o2 t' := fun k hk => by
  have h2 := h k hk
  unfold RAr at h2 ⊢
  rw [e k hk, ec (18 + k) (by omega) (by omega), ec (22 + k) (by omega) (by omega)]
  exact h2
/-- c's articles are as they were -/
def KA4 (H H1 : Heap) (ca : Nat) : Prop := ∀ b i : Int, 0 ≤ b → b ≤ 3 → 18 ≤ i → i ≤ 25 → sI H1 ca (520 * b + i).toNat = sI H ca (520 * b + i).toNat
theorem dpcA {b i : Int} (h0 : 0 ≤ b) (h1 : b ≤ 3) (i0 : 18 ≤ i) (i1 : i ≤ 25) : dpc (520 * b + i).toNat := by
  have e : (520 * b + i).toNat % 520 = i.toNat := by omega
  unfold dpc
  omega
theorem KA4.rf : KA4 H H ca := fun _ _ _ _ _ _ => rfl
theorem KA4.all (h : ∀ j, sI H1 ca j = sI H ca j) : KA4 H H1 ca := fun _ _ _ _ _ _ => h _
theorem KA4.kd {lo hi : Int} (h : KD H H1 ca lo hi) (hl : (lo = 0 ∧ hi = 0) ∨ (lo = 242 ∧ hi = 520)) : KA4 H H1 ca := fun b i b0 b1 i0 i1 => h _ (by omega) (Or.inl (dpcA b0 b1 i0 i1))
theorem KA4.kp (hk : Kp X Γ gs H H1) (gc : Γ ca = some 64) (h10 : gs.contains 10 = true) : KA4 H H1 ca := fun b i b0 b1 i0 i1 => kp_d hk gc h10 (dpcA b0 b1 i0 i1)
theorem KA4.kp0 (hk : Kp X Γ gs H H1) (gc : Γ ca = some 64) (h0 : gs.contains 0 = true) : KA4 H H1 ca := KA4.all fun j => kp_aI hk j gc rfl (gs_any h0 rfl)
/-- what holds between calls: the yard's and the marked ones' articles -/
def ARX (X : xW) (Γ : Nat → Option Nat) (H : Heap) (x1 ca : Nat) (mm : Int) (qm : Nat) (yd ya : Nat → Nat) : Prop := ∃ cu, YDP X Γ H x1 qm yd ya cu ∧ ARB H H ca 0 (ya cu) ∧ ∀ b : Nat, (b : Int) < mm → b < 3 → ARB H H ca (520 * ((b : Int) + 1)) (ya (2 + b))
theorem ARX.go {mm : Int} (h : ARX X Γ H x1 ca mm qm yd ya) (hy : ∀ cu, YDP X Γ H x1 qm yd ya cu → YDP X Γ H1 x1 qm yd ya cu) (he : AKE Γ H H1) (ka : KA4 H H1 ca) : ARX X Γ H1 x1 ca mm qm yd ya := by
  obtain ⟨cu, yp, r0, rm⟩ := h
  have hc := yp.le
  refine ⟨cu, hy cu yp, r0.of (fun j hj => he _ (yp.ga (by omega)) j hj) (fun i i0 i1 => ?_), fun b hb b3 => (rm b hb b3).of (fun j hj => he _ (yp.ga (by omega)) j hj) (fun i i0 i1 => ?_)⟩
  · have := ka 0 i (by omega) (by omega) i0 i1
    rw [show (520 : Int) * 0 + i = 0 + i by omega] at this
    exact this
  · exact ka ((b : Int) + 1) i (by omega) (by omega) i0 i1
theorem ARX.cl {mm : Int} (h : ARX X Γ H x1 ca mm qm yd ya) (g : Γ x1 = some 0) (gc : Γ ca = some 64) (hk : Kp X Γ gs H H1) (h0 : gs.contains 0 = true) (h37 : gs.contains 37 = true) (h39 : gs.contains 39 = true) (h40 : gs.contains 40 = true) (h41 : gs.contains 41 = true) : ARX X Γ H1 x1 ca mm qm yd ya :=
  h.go (fun _ yp => yp.kp g hk h37 h39 h41) (AKE.kp AKE.rf hk h40) (KA4.kp0 hk gc h0)
theorem ARX.mo {mm : Int} (h : ARX X Γ H x1 ca mm qm yd ya) (g : Γ x1 = some 0) (hk : Kp X Γ gs H H1) (h1 : gs.contains 1 = true) (ka : KA4 H H1 ca) : ARX X Γ H1 x1 ca mm qm yd ya :=
  h.go (fun _ yp => yp.kpM g hk h1) (AKE.kpM hk h1) ka
/-- a call that leaves all but the spare yard's -/
theorem ARX.sp {mm : Int} (yp : YDP X Γ H x1 qm yd ya cu) (r0 : ARB H H ca 0 (ya cu)) (rm : ∀ b : Nat, (b : Int) < mm → b < 3 → ARB H H ca (520 * ((b : Int) + 1)) (ya (2 + b))) (yp1 : YDP X Γ H1 x1 qm yd ya cu) (ak : ARK Γ H H1 (ya (1 - cu))) (ka : KA4 H H1 ca) : ARX X Γ H1 x1 ca mm qm yd ya := by
  have hc := yp.le
  refine ⟨cu, yp1, r0.of (fun j hj => ak _ (yp.ga (by omega)) (yp.inj (by omega) (by omega) (by omega)) j hj) (fun i i0 i1 => ?_), fun b hb b3 => (rm b hb b3).of (fun j hj => ak _ (yp.ga (by omega)) (yp.inj (by omega) (by omega) (by omega)) j hj) (fun i i0 i1 => ?_)⟩
  · have := ka 0 i (by omega) (by omega) i0 i1
    rw [show (520 : Int) * 0 + i = 0 + i by omega] at this
    exact this
  · exact ka ((b : Int) + 1) i (by omega) (by omega) i0 i1
/-- yard: the class's call, then the reference's -/
theorem ARX.yard {mm : Int} {kd vl : Nat → Int} (yp : YDP X Γ H x1 qm yd ya cu) (r0 : ARB H H ca 0 (ya cu)) (rm : ∀ b : Nat, (b : Int) < mm → b < 3 → ARB H H ca (520 * ((b : Int) + 1)) (ya (2 + b))) (g : Γ x1 = some 0) (ka1 : KA4 H H1 ca) (ak : ARK Γ H H1 (ya (1 - cu))) (hk2 : Kp X Γ gs H1 H2) (h1 : gs.contains 1 = true)
    (hd : (YDP X Γ H1 x1 qm yd ya cu ∧ KD H1 H2 ca 0 0) ∨ (PYA X Γ H1 x1 qm yd ya cu kd vl ∧ KD H1 H2 ca 0 520 ∧ QYA H2 ca kd vl)) : ARX X Γ H2 x1 ca mm qm yd ya := by
  have hc := yp.le
  rcases hd with ⟨yp1, k2⟩ | ⟨⟨yp1, T, hT, hA⟩, k2, T', hT', hR⟩
  · exact (ARX.sp yp r0 rm yp1 ak ka1).mo g hk2 h1 (KA4.kd k2 (Or.inl ⟨rfl, rfl⟩))
  · have e := gFin_det _ _ _ _ _ hT hT'
    subst e
    have he : AKE Γ H1 H2 := AKE.kpM hk2 h1
    refine ⟨1 - cu, yp1.kpM g hk2 h1, fun k hk => ?_, fun b hb b3 => (rm b hb b3).of (fun j hj => (he _ (yp.ga (by omega)) j hj).trans (ak _ (yp.ga (by omega)) (yp.inj (by omega) (by omega) (by omega)) j hj)) (fun i i0 i1 => ?_)⟩
    · rw [he _ (yp.ga (by omega)) k hk, hA k hk]
      exact hR k hk
    · exact (k2 _ (by omega) (Or.inl (dpcA (b := (b : Int) + 1) (by omega) (by omega) i0 i1))).trans (ka1 ((b : Int) + 1) i (by omega) (by omega) i0 i1)
/-- mark -/
theorem ARX.mark {mm mm2 m0 : Int} (yp : YDP X Γ H x1 qm yd ya cu) (r0 : ARB H H ca 0 (ya cu)) (rm : ∀ b : Nat, (b : Int) < mm → b < 3 → ARB H H ca (520 * ((b : Int) + 1)) (ya (2 + b))) (g : Γ x1 = some 0) (ka1 : KA4 H H1 ca) (yp1 : YDP X Γ H1 x1 qm yd ya cu) (hm0 : m0 = mm) (hmn : 0 ≤ mm)
    (hcl : (3 ≤ m0 ∧ AKE Γ H H1) ∨ (m0 ≤ 2 ∧ ARP Γ H H1 (ya (2 + m0.toNat)) (ya cu))) (hk2 : Kp X Γ gs H1 H2) (h1 : gs.contains 1 = true) (hmo : (KD H1 H2 ca 0 0 ∧ mm2 = mm) ∨ (mm2 = mm + 1 ∧ CPX H1 H2 ca 0 (520 * mm2) 520)) (hfm : (3 ≤ mm ∧ mm2 = mm) ∨ (mm ≤ 2 ∧ mm2 = mm + 1)) : ARX X Γ H2 x1 ca mm2 qm yd ya := by
  have hc := yp.le
  have he : AKE Γ H1 H2 := AKE.kpM hk2 h1
  subst hm0
  rcases hfm with ⟨f1, f2⟩ | ⟨f1, f2⟩
  · have hcl : AKE Γ H H1 := by
      rcases hcl with ⟨-, q⟩ | ⟨q, -⟩
      · exact q
      · omega
    have hmo : KD H1 H2 ca 0 0 := by
      rcases hmo with ⟨q, -⟩ | ⟨q, -⟩
      · exact q
      · omega
    rw [f2]
    exact (ARX.sp yp r0 rm yp1 hcl.ark ka1).mo g hk2 h1 (KA4.kd hmo (Or.inl ⟨rfl, rfl⟩))
  · have hcl : ARP Γ H H1 (ya (2 + m0.toNat)) (ya cu) := by
      rcases hcl with ⟨q, -⟩ | ⟨-, q⟩
      · omega
      · exact q
    obtain ⟨c1, c2⟩ : CPX H1 H2 ca 0 (520 * mm2) 520 := by
      rcases hmo with ⟨-, q⟩ | ⟨-, q⟩
      · omega
      · exact q
    have k0 : ∀ i : Int, 18 ≤ i → i ≤ 25 → sI H1 ca (0 + i).toNat = sI H ca (0 + i).toNat := fun i i0 i1 => by
      have := ka1 0 i (by omega) (by omega) i0 i1
      rw [show (520 : Int) * 0 + i = 0 + i by omega] at this
      exact this
    refine ⟨cu, yp1.kpM g hk2 h1, r0.of (fun j hj => (he _ (yp.ga (by omega)) j hj).trans (hcl.2 _ (yp.ga (by omega)) (yp.inj (by omega) (by omega) (by omega)) j hj)) (fun i i0 i1 => (c2 _ (by omega) (by omega)).trans (k0 i i0 i1)), fun b hb b3 => ?_⟩
    by_cases e : (b : Int) = m0
    · refine r0.of (fun j hj => ?_) (fun i i0 i1 => ?_)
      · rw [he _ (yp.ga (by omega)) j hj, show 2 + b = 2 + m0.toNat by omega]
        exact hcl.1 j hj
      · have := c1 i (by omega) (by omega)
        rw [show (520 : Int) * ((b : Int) + 1) + i = 520 * mm2 + i by omega]
        exact this.trans (k0 i i0 i1)
    · exact (rm b (by omega) b3).of (fun j hj => (he _ (yp.ga (by omega)) j hj).trans (hcl.2 _ (yp.ga (by omega)) (yp.inj (by omega) (by omega) (by omega)) j hj)) (fun i i0 i1 => (c2 _ (by omega) (by omega)).trans (ka1 ((b : Int) + 1) i (by omega) (by omega) i0 i1))
/-- back -/
theorem ARX.back {mm mm2 m0 : Int} (yp : YDP X Γ H x1 qm yd ya cu) (r0 : ARB H H ca 0 (ya cu)) (rm : ∀ b : Nat, (b : Int) < mm → b < 3 → ARB H H ca (520 * ((b : Int) + 1)) (ya (2 + b))) (g : Γ x1 = some 0) (ka1 : KA4 H H1 ca) (yp1 : YDP X Γ H1 x1 qm yd ya cu) (hm0 : m0 = mm) (hm3 : mm ≤ 3)
    (hcl : (m0 ≤ 0 ∧ AKE Γ H H1) ∨ (1 ≤ m0 ∧ ARP Γ H H1 (ya cu) (ya (1 + m0.toNat)))) (hk2 : Kp X Γ gs H1 H2) (h1 : gs.contains 1 = true) (hmo : (KD H1 H2 ca 0 0 ∧ mm2 = mm) ∨ (mm2 = mm - 1 ∧ CPX H1 H2 ca (520 * mm) 0 520)) (hfm : (mm ≤ 0 ∧ mm2 = mm) ∨ (1 ≤ mm ∧ mm2 = mm - 1)) : ARX X Γ H2 x1 ca mm2 qm yd ya := by
  have hc := yp.le
  have he : AKE Γ H1 H2 := AKE.kpM hk2 h1
  subst hm0
  rcases hfm with ⟨f1, f2⟩ | ⟨f1, f2⟩
  · have hcl : AKE Γ H H1 := by
      rcases hcl with ⟨-, q⟩ | ⟨q, -⟩
      · exact q
      · omega
    have hmo : KD H1 H2 ca 0 0 := by
      rcases hmo with ⟨q, -⟩ | ⟨q, -⟩
      · exact q
      · omega
    rw [f2]
    exact (ARX.sp yp r0 rm yp1 hcl.ark ka1).mo g hk2 h1 (KA4.kd hmo (Or.inl ⟨rfl, rfl⟩))
  · have hcl : ARP Γ H H1 (ya cu) (ya (1 + m0.toNat)) := by
      rcases hcl with ⟨q, -⟩ | ⟨-, q⟩
      · omega
      · exact q
    obtain ⟨c1, c2⟩ : CPX H1 H2 ca (520 * m0) 0 520 := by
      rcases hmo with ⟨-, q⟩ | ⟨-, q⟩
      · omega
      · exact q
    refine ⟨cu, yp1.kpM g hk2 h1, ?_, fun b hb b3 => (rm b (by omega) b3).of (fun j hj => (he _ (yp.ga (by omega)) j hj).trans (hcl.2 _ (yp.ga (by omega)) (yp.inj (by omega) (by omega) (by omega)) j hj)) (fun i i0 i1 => (c2 _ (by omega) (by omega)).trans (ka1 ((b : Int) + 1) i (by omega) (by omega) i0 i1))⟩
    refine (rm (m0 - 1).toNat (by omega) (by omega)).of (fun j hj => ?_) (fun i i0 i1 => ?_)
    · rw [he _ (yp.ga (by omega)) j hj, show 2 + (m0 - 1).toNat = 1 + m0.toNat by omega]
      exact hcl.1 j hj
    · have := c1 i (by omega) (by omega)
      rw [show (520 : Int) * (((m0 - 1).toNat : Nat) + 1 : Int) + i = 520 * m0 + i by omega]
      exact this.trans (ka1 m0 i (by omega) (by omega) i0 i1)
/-- at the start -/
theorem ARX.start {mm : Int} (yp : YDP X Γ H x1 qm yd ya 0) (yv : ∀ i j, i < 5 → j < 4 → (sI H (ya i) j).toInt = -1) (zz : ZZ H ca) (hm : mm = 0) : ARX X Γ H x1 ca mm qm yd ya :=
  ⟨0, yp, fun k hk => Or.inl ⟨yv 0 k (by decide) hk, by rw [show (0 + (18 + (k : Int))).toNat = 18 + k by omega, zz _ (by omega) (by omega)]; decide⟩, fun b hb _ => by omega⟩
end ART
