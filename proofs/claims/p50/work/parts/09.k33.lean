-- p50: numbers of the law, the script, the literals, the text as it is laid
theorem i_andc {x y z : Int32} {n : Int} (e : z = x &&& y) (hy : y.toInt = n) (h0 : 0 ≤ n) : 0 ≤ z.toInt ∧ z.toInt ≤ n := by
  have hz : z.toBitVec.toNat ≤ y.toBitVec.toNat := by
    rw [e, Int32.toBitVec_and, BitVec.toNat_and]
    exact Nat.and_le_right
  have ey := BitVec.toInt_eq_toNat_cond y.toBitVec
  have ez := BitVec.toInt_eq_toNat_cond z.toBitVec
  have ey2 : y.toBitVec.toInt = n := hy
  have l1 := y.toBitVec.isLt
  have l2 := z.toBitVec.isLt
  show 0 ≤ z.toBitVec.toInt ∧ z.toBitVec.toInt ≤ n
  rw [ey2] at ey
  split at ey <;> split at ez <;> omega
section BTS
variable {x y z w F v s : Int32} {n i k : Nat}
def bb (x : Int32) (i : Nat) : Bool := x.toBitVec.getLsbD i
theorem bb_ext (h : ∀ i, i < 32 → bb x i = bb y i) : x = y := Int32.toBitVec_inj.mp (BitVec.eq_of_getLsbD_eq (fun i hi => h i hi))
theorem bb_or : bb (x ||| y) i = (bb x i || bb y i) := by unfold bb; rw [Int32.toBitVec_or, BitVec.getLsbD_or]
theorem bb_shl (hs : ((s &&& 31).toBitVec.smod 32).toNat = n) (hi : i < 32) : bb (x <<< (s &&& 31)) i = (decide (n ≤ i) && bb x (i - n)) := by
  unfold bb
  rw [Int32.toBitVec_shiftLeft]
  show (x.toBitVec <<< ((s &&& 31).toBitVec.smod 32).toNat).getLsbD i = _
  rw [hs, BitVec.getLsbD_shiftLeft]
  rcases Nat.lt_or_ge i n with h | h
  · simp [h, Nat.not_le.mpr h]
  · simp [hi, h, Nat.not_lt.mpr h]
theorem bb_sshr (hs : ((s &&& 31).toBitVec.smod 32).toNat = n) (hi : i < 32) : bb (x >>> (s &&& 31)) i = if n + i < 32 then bb x (n + i) else bb x 31 := by
  unfold bb
  rw [Int32.toBitVec_shiftRight]
  show (x.toBitVec.sshiftRight ((s &&& 31).toBitVec.smod 32).toNat).getLsbD i = _
  rw [hs, BitVec.getLsbD_sshiftRight, BitVec.msb_eq_getLsbD_last]
  simp [hi]
theorem bb_s8 (hi : i < 32) : bb x.toInt8.toInt32 i = bb x (if i < 8 then i else 7) := by
  unfold bb
  rw [Int8.toBitVec_toInt32, Int32.toBitVec_toInt8, BitVec.getLsbD_signExtend, BitVec.msb_eq_getLsbD_last, BitVec.getLsbD_signExtend, BitVec.getLsbD_signExtend]
  by_cases h : i < 8
  · simp [hi, h]
  · simp [hi, h]
theorem bb_lo (h0 : 0 ≤ x.toInt) (h1 : x.toInt ≤ 127) (hi : 7 ≤ i) : bb x i = false := by
  have ex := BitVec.toInt_eq_toNat_cond x.toBitVec
  have ex2 : x.toBitVec.toInt = x.toInt := rfl
  have l1 := x.toBitVec.isLt
  have hn : x.toBitVec.toNat < 2 ^ 7 := by
    rw [ex2] at ex
    split at ex <;> omega
  exact Nat.testBit_lt_two_pow (Nat.lt_of_lt_of_le hn (Nat.pow_le_pow_right (by decide) hi))
theorem bt_gen (hs : ((s &&& 31).toBitVec.smod 32).toNat = k) (hk : k ≤ 24) (hv : ∀ i, 7 ≤ i → bb v i = false) (h : ∀ j, j < 8 → bb F (k + j) = bb v j) : bt F s = v := by
  refine bb_ext fun i hi => ?_
  unfold bt
  by_cases h8 : i < 8
  · rw [bb_s8 hi, if_pos h8, bb_s8 hi, if_pos h8, bb_sshr hs hi, if_pos (by omega), h i h8]
  · rw [bb_s8 hi, if_neg h8, bb_s8 (by decide), if_pos (by decide), bb_sshr hs (by decide), if_pos (by omega), h 7 (by decide), hv 7 (by decide), hv i (by omega)]
/-- four bytes in an int -/
def fo4 (x y z w : Int32) : Int32 := x <<< ((24 : Int32) &&& 31) ||| y <<< ((16 : Int32) &&& 31) ||| z <<< ((8 : Int32) &&& 31) ||| w
theorem bb_fo (hi : i < 32) : bb (fo4 x y z w) i = ((((decide (24 ≤ i) && bb x (i - 24)) || (decide (16 ≤ i) && bb y (i - 16))) || (decide (8 ≤ i) && bb z (i - 8))) || bb w i) := by
  unfold fo4
  rw [bb_or, bb_or, bb_or, bb_shl (n := 24) (by decide) hi, bb_shl (n := 16) (by decide) hi, bb_shl (n := 8) (by decide) hi]
theorem bt_fo (hx : 0 ≤ x.toInt ∧ x.toInt ≤ 127) (hy : 0 ≤ y.toInt ∧ y.toInt ≤ 127) (hz : 0 ≤ z.toInt ∧ z.toInt ≤ 127) (hw : 0 ≤ w.toInt ∧ w.toInt ≤ 127) : bt (fo4 x y z w) (Int32.ofInt 24) = x ∧ bt (fo4 x y z w) (Int32.ofInt 16) = y ∧ bt (fo4 x y z w) (Int32.ofInt 8) = z ∧ bt (fo4 x y z w) (Int32.ofInt 0) = w := by
  have lx : ∀ i, 7 ≤ i → bb x i = false := fun i h => bb_lo hx.1 hx.2 h
  have ly : ∀ i, 7 ≤ i → bb y i = false := fun i h => bb_lo hy.1 hy.2 h
  have lz : ∀ i, 7 ≤ i → bb z i = false := fun i h => bb_lo hz.1 hz.2 h
  have lw : ∀ i, 7 ≤ i → bb w i = false := fun i h => bb_lo hw.1 hw.2 h
  refine ⟨bt_gen (k := 24) (by decide) (by decide) lx fun j hj => ?_, bt_gen (k := 16) (by decide) (by decide) ly fun j hj => ?_, bt_gen (k := 8) (by decide) (by decide) lz fun j hj => ?_, bt_gen (k := 0) (by decide) (by decide) lw fun j hj => ?_⟩
  · rw [bb_fo (by omega), decide_eq_true (show 24 ≤ 24 + j by omega), ly (24 + j - 16) (by omega), lz (24 + j - 8) (by omega), lw (24 + j) (by omega), show 24 + j - 24 = j by omega]
    simp
  · rw [bb_fo (by omega), decide_eq_false (show ¬ 24 ≤ 16 + j by omega), decide_eq_true (show 16 ≤ 16 + j by omega), lz (16 + j - 8) (by omega), lw (16 + j) (by omega), show 16 + j - 16 = j by omega]
    simp
  · rw [bb_fo (by omega), decide_eq_false (show ¬ 24 ≤ 8 + j by omega), decide_eq_false (show ¬ 16 ≤ 8 + j by omega), decide_eq_true (show 8 ≤ 8 + j by omega), lw (8 + j) (by omega), show 8 + j - 8 = j by omega]
    simp
  · rw [bb_fo (by omega), decide_eq_false (show ¬ 24 ≤ 0 + j by omega), decide_eq_false (show ¬ 16 ≤ 0 + j by omega), decide_eq_false (show ¬ 8 ≤ 0 + j by omega), show 0 + j = j by omega]
    simp
end BTS
/-- the literals -/
def lit (i : Nat) : List Int := (jsB.getD i []).map Int32.toInt
def lnI (i : Nat) : Int := ((jsL.getD i 0 : Nat) : Int)
def tg (txt : List Int) (j : Int) : Int := txt.getD j.toNat 0
def pad (n : Int) : List Int := List.replicate n.toNat 32
theorem lit_ok : ∀ i, i < 15 → (lit i).length = jsL.getD i 0 ∧ jsL.getD i 0 ≤ 20 ∧ (∀ j, j < jsL.getD i 0 → (((((jsB.getD i []).getD j 0) &&& 255).toUInt32 % 65536).toInt32).toInt = (lit i).getD j 0 ∧ narrow .char (.int ((((jsB.getD i []).getD j 0) &&& 255).toUInt32 % 65536).toInt32) = .int ((((jsB.getD i []).getD j 0) &&& 255).toUInt32 % 65536).toInt32 ∧ 0 ≤ (lit i).getD j 0 ∧ (lit i).getD j 0 ≤ 127) ∧ (Int32.ofNat (jsL.getD i 0) >>> ((0 : Int32) &&& 31)).toInt = ((jsL.getD i 0 : Nat) : Int) ∧ (Int32.ofNat (jsL.getD i 0)).toInt = ((jsL.getD i 0 : Nat) : Int) := by decide +kernel
theorem ln_bd {i : Nat} (h : i < 15) : 0 ≤ lnI i ∧ lnI i ≤ 20 := by
  have := (lit_ok i h).2.1
  unfold lnI
  omega
theorem lit_len {i : Nat} (h : i < 15) : ((lit i).length : Int) = lnI i := by
  rw [(lit_ok i h).1]
  rfl
theorem tk1 : ∀ (l : List Int) (k : Nat), k < l.length → l.take (k + 1) = l.take k ++ [l.getD k 0]
  | [], k, h => absurd h (Nat.not_lt_zero _)
  | a :: l, 0, _ => rfl
  | a :: l, k + 1, h => congrArg (a :: ·) (tk1 l k (Nat.lt_of_succ_lt_succ h))
theorem pad_s {n : Int} (h : 0 ≤ n) : pad (n + 1) = pad n ++ [32] := by
  unfold pad
  rw [show (n + 1).toNat = n.toNat + 1 by omega, List.replicate_succ']
theorem tg_l {t u : List Int} {j : Int} (h0 : 0 ≤ j) (h1 : j < (t.length : Int)) : tg (t ++ u) j = tg t j := by
  unfold tg
  rw [List.getD_eq_getElem?_getD, List.getD_eq_getElem?_getD, List.getElem?_append_left (by omega)]
theorem tg_r {t : List Int} {w j : Int} (h : j = (t.length : Int)) : tg (t ++ [w]) j = w := by
  unfold tg
  rw [h, List.getD_eq_getElem?_getD, show ((t.length : Nat) : Int).toNat = t.length from rfl, List.getElem?_append_right (Nat.le_refl _), Nat.sub_self]
  rfl
/-- the tape and the row together hold the text -/
def CT (H : Heap) (tp m : Nat) (F k : Int) (txt : List Int) : Prop := 0 ≤ F ∧ 0 ≤ k ∧ (txt.length : Int) = F + k ∧ (∀ j : Int, 0 ≤ j → j < F → aI H tp j = tg txt j) ∧ ∀ j : Int, 0 ≤ j → j < k → aI H m j = tg txt (F + j)
def LT (X : xW) (H : Heap) (ra tp m : Nat) (txt : List Int) : Prop := ∃ F k : Int, CT H tp m F k txt ∧ (sI H ra (X.1.2 4 1)).toInt = F ∧ F % 20 = 0 ∧ k ≤ 19 ∧ aI H m 20 = k ∧ aI H m 21 = F + k
section CTS
variable {X : xW} {Γ : Nat → Option Nat} {H Hb H1 : Heap} {ra tp m a j : Nat} {F F' k k' n n' z w : Int} {txt : List Int} {i x : Int32} {u : Value} {gs : List Nat}
theorem CT.put (h : CT H tp m F k txt) (U : Up H H1 m i.toNatClampNeg (.int x)) (hi : i.toInt = z) (hx : x.toInt = w) (hz : z = k) (hn : tp ≠ m) : CT H1 tp m F (k + 1) (txt ++ [w]) := by
  obtain ⟨h0, h1, h2, h3, h4⟩ := h
  refine ⟨h0, by omega, by rw [List.length_append]; show ((txt.length + 1 : Nat) : Int) = _; omega, fun j j0 j1 => ?_, fun j j0 j1 => ?_⟩
  · rw [aI_ne U hn.symm, h3 j j0 j1, tg_l j0 (by omega)]
  · by_cases e : j = k
    · rw [e, ← hz, aI_up U hi hx, tg_r (by omega)]
    · rw [aI_un U hi ⟨by omega, by omega, by omega⟩, h4 j j0 (by omega), tg_l (by omega) (by omega)]
theorem CT.ne (h : CT H tp m F k txt) (U : Up H H1 a j u) (h1 : a ≠ tp) (h2 : a ≠ m) : CT H1 tp m F k txt :=
  ⟨h.1, h.2.1, h.2.2.1, fun z j0 j1 => (aI_ne U h1).trans (h.2.2.2.1 z j0 j1), fun z j0 j1 => (aI_ne U h2).trans (h.2.2.2.2 z j0 j1)⟩
theorem CT.mm (h : CT H tp m F k txt) (U : Up H H1 m i.toNatClampNeg u) (hi : i.toInt = z) (hz : 0 ≤ z ∧ k ≤ z) (hn : tp ≠ m) : CT H1 tp m F k txt :=
  ⟨h.1, h.2.1, h.2.2.1, fun y j0 j1 => (aI_ne U hn.symm).trans (h.2.2.2.1 y j0 j1), fun y j0 j1 => (aI_un U hi ⟨by omega, j0, by omega⟩).trans (h.2.2.2.2 y j0 j1)⟩
theorem CT.kp (h : CT H tp m F k txt) (hk : Kp X Γ gs H H1) (gt : Γ tp = some 25) (gm : Γ m = some 90) (h29 : gs.contains 29 = true) (h70 : gs.contains 70 = true) : CT H1 tp m F k txt :=
  ⟨h.1, h.2.1, h.2.2.1, fun y j0 j1 => (aI_kp hk gt rfl (gs_any h29 rfl)).trans (h.2.2.2.1 y j0 j1), fun y j0 j1 => (aI_kp hk gm rfl (gs_any h70 rfl)).trans (h.2.2.2.2 y j0 j1)⟩
theorem CT.pad0 (h : CT H tp m F k txt) : CT H tp m F k (txt ++ pad 0) := by
  rw [show pad 0 = [] from rfl, List.append_nil]
  exact h
theorem CT.nil (h : CT H tp m F k (txt ++ pad n)) (hn : n ≤ 0) : CT H tp m F k txt := by
  rw [show pad n = [] by unfold pad; rw [show n.toNat = 0 by omega]; rfl, List.append_nil] at h
  exact h
theorem CT.pads (h : CT H tp m F k ((txt ++ pad n) ++ [32])) (hn : 0 ≤ n) : CT H tp m F k (txt ++ pad (n + 1)) := by
  rw [pad_s hn, ← List.append_assoc]
  exact h
theorem CT.cast (h : CT H tp m F k (txt ++ pad n)) (e1 : k = k') (e2 : n = n') : CT H tp m F k' (txt ++ pad n') := by
  subst e1 e2
  exact h
theorem tg_pad {j : Int} (h0 : 0 ≤ j) (h1 : j < (txt.length : Int)) : tg (txt ++ pad n) j = tg txt j := tg_l h0 h1
theorem APP.four {A : Heap} {x0 x1 x2 x3 : Int32} (h : APP H A tp F (F + 4) (fo4 x0 x1 x2 x3)) (h0 : 0 ≤ F) (b0 : 0 ≤ x0.toInt ∧ x0.toInt ≤ 127) (b1 : 0 ≤ x1.toInt ∧ x1.toInt ≤ 127) (b2 : 0 ≤ x2.toInt ∧ x2.toInt ≤ 127) (b3 : 0 ≤ x3.toInt ∧ x3.toInt ≤ 127) : aI A tp F = x0.toInt ∧ aI A tp (F + 1) = x1.toInt ∧ aI A tp (F + 2) = x2.toInt ∧ aI A tp (F + 3) = x3.toInt ∧ ∀ j : Int, 0 ≤ j → (j < F ∨ F + 4 ≤ j) → aI A tp j = aI H tp j := by
  obtain ⟨c0, c1, c2, c3⟩ := bt_fo b0 b1 b2 b3
  refine ⟨?_, ?_, ?_, ?_, fun j j0 j1 => ?_⟩
  · unfold aI
    rw [h F.toNat, if_pos (by omega), show (24 : Int) - 8 * (((F.toNat : Nat) : Int) - F) = 24 by omega, c0]
  · unfold aI
    rw [h (F + 1).toNat, if_pos (by omega), show (24 : Int) - 8 * ((((F + 1).toNat : Nat) : Int) - F) = 16 by omega, c1]
  · unfold aI
    rw [h (F + 2).toNat, if_pos (by omega), show (24 : Int) - 8 * ((((F + 2).toNat : Nat) : Int) - F) = 8 by omega, c2]
  · unfold aI
    rw [h (F + 3).toNat, if_pos (by omega), show (24 : Int) - 8 * ((((F + 3).toNat : Nat) : Int) - F) = 0 by omega, c3]
  · unfold aI
    rw [h j.toNat, if_neg (by omega)]
theorem CT.fed {p1 p2 p3 p4 p5 : Int32} (h : CT Hb tp m F 20 txt) (hfd : FDR Hb H tp F' p1 p2 p3 p4 p5) (hF : F' = F) (hF8 : F ≤ 880) (hm : ∀ j : Int, aI H m j = aI Hb m j) (hb : ∀ j : Int, 0 ≤ j → j ≤ 19 → 0 ≤ aI Hb m j ∧ aI Hb m j ≤ 127)
    (e1 : p1 = fo4 (sI Hb m (0 : Int).toNat) (sI Hb m (0 + 1 : Int).toNat) (sI Hb m (0 + 2 : Int).toNat) (sI Hb m (0 + 3 : Int).toNat)) (e2 : p2 = fo4 (sI Hb m (4 : Int).toNat) (sI Hb m (4 + 1 : Int).toNat) (sI Hb m (4 + 2 : Int).toNat) (sI Hb m (4 + 3 : Int).toNat)) (e3 : p3 = fo4 (sI Hb m (8 : Int).toNat) (sI Hb m (8 + 1 : Int).toNat) (sI Hb m (8 + 2 : Int).toNat) (sI Hb m (8 + 3 : Int).toNat)) (e4 : p4 = fo4 (sI Hb m (12 : Int).toNat) (sI Hb m (12 + 1 : Int).toNat) (sI Hb m (12 + 2 : Int).toNat) (sI Hb m (12 + 3 : Int).toNat)) (e5 : p5 = fo4 (sI Hb m (16 : Int).toNat) (sI Hb m (16 + 1 : Int).toNat) (sI Hb m (16 + 2 : Int).toNat) (sI Hb m (16 + 3 : Int).toNat)) : CT H tp m (F + 20) 0 txt := by
  obtain ⟨h0, -, h2, h3, h4⟩ := h
  subst hF e1 e2 e3 e4 e5
  rcases hfd with ⟨q, -⟩ | ⟨-, A, B, C, D, f1, f2, f3, f4, f5⟩
  · omega
  have bd : ∀ j : Nat, j ≤ 19 → 0 ≤ (sI Hb m j).toInt ∧ (sI Hb m j).toInt ≤ 127 := fun j hj => hb j (by omega) (by omega)
  have g1 := f1.four h0 (bd _ (by decide)) (bd _ (by decide)) (bd _ (by decide)) (bd _ (by decide))
  have g2 := APP.four (F := F' + 4) (f2.cast rfl (by omega)) (by omega) (bd _ (by decide)) (bd _ (by decide)) (bd _ (by decide)) (bd _ (by decide))
  have g3 := APP.four (F := F' + 8) (f3.cast rfl (by omega)) (by omega) (bd _ (by decide)) (bd _ (by decide)) (bd _ (by decide)) (bd _ (by decide))
  have g4 := APP.four (F := F' + 12) (f4.cast rfl (by omega)) (by omega) (bd _ (by decide)) (bd _ (by decide)) (bd _ (by decide)) (bd _ (by decide))
  have g5 := APP.four (F := F' + 16) (f5.cast rfl (by omega)) (by omega) (bd _ (by decide)) (bd _ (by decide)) (bd _ (by decide)) (bd _ (by decide))
  have eq : ∀ j : Int, 0 ≤ j → j < F' + 20 → aI H tp j = tg txt j := by
    intro j j0 j1
    by_cases c0 : j < F'
    · rw [g5.2.2.2.2 j j0 (by omega), g4.2.2.2.2 j j0 (by omega), g3.2.2.2.2 j j0 (by omega), g2.2.2.2.2 j j0 (by omega), g1.2.2.2.2 j j0 (by omega)]
      exact h3 j j0 c0
    · have hq : ∀ q : Int, 0 ≤ q → q < 20 → j = F' + q → tg txt j = aI Hb m q := fun q q0 q1 e => by rw [e]; exact (h4 q q0 q1).symm
      by_cases c1 : j < F' + 4
      · rw [g5.2.2.2.2 j j0 (by omega), g4.2.2.2.2 j j0 (by omega), g3.2.2.2.2 j j0 (by omega), g2.2.2.2.2 j j0 (by omega)]
        rcases (show j = F' ∨ j = F' + 1 ∨ j = F' + 2 ∨ j = F' + 3 by omega) with e | e | e | e
        · rw [hq 0 (by omega) (by omega) (by omega), e]; exact g1.1
        · rw [hq 1 (by omega) (by omega) (by omega), e]; exact g1.2.1
        · rw [hq 2 (by omega) (by omega) (by omega), e]; exact g1.2.2.1
        · rw [hq 3 (by omega) (by omega) (by omega), e]; exact g1.2.2.2.1
      by_cases c2 : j < F' + 8
      · rw [g5.2.2.2.2 j j0 (by omega), g4.2.2.2.2 j j0 (by omega), g3.2.2.2.2 j j0 (by omega)]
        rcases (show j = F' + 4 ∨ j = F' + 4 + 1 ∨ j = F' + 4 + 2 ∨ j = F' + 4 + 3 by omega) with e | e | e | e
        · rw [hq 4 (by omega) (by omega) (by omega), e]; exact g2.1
        · rw [hq 5 (by omega) (by omega) (by omega), e]; exact g2.2.1
        · rw [hq 6 (by omega) (by omega) (by omega), e]; exact g2.2.2.1
        · rw [hq 7 (by omega) (by omega) (by omega), e]; exact g2.2.2.2.1
      by_cases c3 : j < F' + 12
      · rw [g5.2.2.2.2 j j0 (by omega), g4.2.2.2.2 j j0 (by omega)]
        rcases (show j = F' + 8 ∨ j = F' + 8 + 1 ∨ j = F' + 8 + 2 ∨ j = F' + 8 + 3 by omega) with e | e | e | e
        · rw [hq 8 (by omega) (by omega) (by omega), e]; exact g3.1
        · rw [hq 9 (by omega) (by omega) (by omega), e]; exact g3.2.1
        · rw [hq 10 (by omega) (by omega) (by omega), e]; exact g3.2.2.1
        · rw [hq 11 (by omega) (by omega) (by omega), e]; exact g3.2.2.2.1
      by_cases c4 : j < F' + 16
      · rw [g5.2.2.2.2 j j0 (by omega)]
        rcases (show j = F' + 12 ∨ j = F' + 12 + 1 ∨ j = F' + 12 + 2 ∨ j = F' + 12 + 3 by omega) with e | e | e | e
        · rw [hq 12 (by omega) (by omega) (by omega), e]; exact g4.1
        · rw [hq 13 (by omega) (by omega) (by omega), e]; exact g4.2.1
        · rw [hq 14 (by omega) (by omega) (by omega), e]; exact g4.2.2.1
        · rw [hq 15 (by omega) (by omega) (by omega), e]; exact g4.2.2.2.1
      · rcases (show j = F' + 16 ∨ j = F' + 16 + 1 ∨ j = F' + 16 + 2 ∨ j = F' + 16 + 3 by omega) with e | e | e | e
        · rw [hq 16 (by omega) (by omega) (by omega), e]; exact g5.1
        · rw [hq 17 (by omega) (by omega) (by omega), e]; exact g5.2.1
        · rw [hq 18 (by omega) (by omega) (by omega), e]; exact g5.2.2.1
        · rw [hq 19 (by omega) (by omega) (by omega), e]; exact g5.2.2.2.1
  exact ⟨by omega, Int.le_refl _, by omega, eq, fun j j0 j1 => by omega⟩
theorem m_bd (hC : Conf X Γ H) (g : Γ m = some 90) : ∀ z : Int, 0 ≤ z → z ≤ 19 → 0 ≤ aI H m z ∧ aI H m z ≤ 127 := by
  intro z z0 z1
  obtain ⟨zz, k1, k2⟩ := (hC m 90 g).arr rfl rfl
  have hlt : z.toNat < 24 := by omega
  have k3 := k2 z.toNat hlt
  rw [rg_90_0 z0 z1] at k3
  obtain ⟨v, hv, l1, l2⟩ := k3
  have e : sI H m z.toNat = v := by
    unfold sI sv
    rw [k1, Option.bind_some, arrV_read _ _ hlt, hv]
  unfold aI
  rw [e]
  exact ⟨l1, l2⟩
theorem LT.m21 (h : LT X H ra tp m txt) : aI H m 21 = (txt.length : Int) := by
  obtain ⟨F, k, h1, -, -, -, -, h6⟩ := h
  rw [h6, h1.2.2.1]
theorem LT.m22 (h : LT X H ra tp m txt) (U : Up H H1 m i.toNatClampNeg u) (hi : i.toInt = z) (hz : z = 22) (hn : m ≠ tp) (hr : m ≠ ra) : LT X H1 ra tp m txt := by
  obtain ⟨F, k, h1, h2, h3, h4, h5, h6⟩ := h
  have hk := h1.2.1
  exact ⟨F, k, h1.mm U hi (by omega) hn.symm, by rw [up_nI U (fun q => hr q.1.symm)]; exact h2, h3, h4, by rw [aI_un U hi (by omega)]; exact h5, by rw [aI_un U hi (by omega)]; exact h6⟩
theorem LT.take {q : Nat} (h : LT X H ra tp m ((txt ++ (lit q).take z.toNat) ++ [w])) (hq : q < 15) (h0 : 0 ≤ z) (h1 : z < lnI q) (e : w = tg (lit q) z) : LT X H ra tp m (txt ++ (lit q).take (z + 1).toNat) := by
  have hl := lit_len hq
  rw [show (z + 1).toNat = z.toNat + 1 by omega, tk1 _ _ (by omega), ← List.append_assoc]
  rw [e] at h
  exact h
theorem LT.lit {q : Nat} (h : LT X H ra tp m (txt ++ (lit q).take z.toNat)) (hq : q < 15) (h1 : lnI q ≤ z) : LT X H ra tp m (txt ++ lit q) := by
  have hl := lit_len hq
  rw [List.take_of_length_le (by omega)] at h
  exact h
end CTS
/-- a number's digits; a blank and they; a row of the text -/
def dg (v : Int) : List Int := (if 9 < v then [48 + v / 10 % 10] else []) ++ [48 + v % 10]
def nuB (v : Int) : List Int := 32 :: ((if 9 < v then [48 + v / 10 % 10] else []) ++ [48 + v % 10])
def rwB (a : Nat) (c : Int) (b : Nat) (v : Int) : List Int := if v = 0 then [] else lit a ++ (nuB (c % 6) ++ (nuB (c / 6) ++ (lit b ++ (nuB v ++ lit 2))))
/-- the parse's start; a yard just read, in its place -/
def Si0 (vl : Nat → Int) : YSt := (vl 1, vl 3, 0, 0, (fun _ _ => 0), fun _ => -1)
theorem Si0_eq {kd vl : Nat → Int} {S1 : YSt} (hg : gHead kd vl S1.1 S1.2.1) (hS : S1.2.2 = (0, 0, (fun _ _ => 0), fun _ => -1)) : S1 = Si0 vl := by
  obtain ⟨a, b, c⟩ := S1
  have ha : a = vl 1 := hg.2.2.2.2.2.2.1
  have hb : b = vl 3 := hg.2.2.2.2.2.2.2
  have hc : c = (0, 0, (fun _ _ => 0), fun _ => -1) := hS
  subst ha hb hc
  rfl
def YD0 (X : xW) (Γ : Nat → Option Nat) (H : Heap) (x1 : Nat) (w h sc : Int) : Prop := ∃ y sn wl su lw ic kn hd us br ar fi : Nat, sR H x1 (X.1.2 10 5) = some y ∧ Γ y = some 5 ∧ YN X Γ H y sn wl su lw ic kn hd us br ar fi ∧ (sI H y (X.1.2 8 0)).toInt = w ∧ (sI H y (X.1.2 8 1)).toInt = h ∧ (sI H y (X.1.2 8 2)).toInt = sc ∧ (sI H y (X.1.2 8 3)).toInt = 0 ∧ (sI H y (X.1.2 8 4)).toInt = 0 ∧ (sI H y (X.1.2 8 5)).toInt = 0 ∧ (sI H y (X.1.2 8 6)).toInt = 0 ∧ aI H us 0 = 0 ∧ aI H us 1 = 0 ∧ aI H br 0 = 0 ∧ aI H br 1 = 0
