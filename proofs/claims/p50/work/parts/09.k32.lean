-- p50: trace
def cst (ht p : Int → Int) : Nat → Int
  | 0 => 0
  | n + 1 => cst ht p n + stp (if n = 0 then 0 else ht (p ((n : Int) - 1))) (ht (p n))
/-- the way as it is told: n cells, what it costs in all -/
def PTH (w h : Int) (ht p : Int → Int) (n W : Int) : Prop := 1 ≤ n ∧ n ≤ 36 ∧ (∀ j : Int, 0 ≤ j → j < n → HC w h (p j)) ∧ p 0 % 6 = 0 ∧ (∀ j : Int, 0 ≤ j → j + 1 < n → adj (p j) (p (j + 1))) ∧ p (n - 1) % 6 = w - 1 ∧ W = cst ht p n.toNat + stp (ht (p (n - 1))) 0
/-- trace's loop: k cells told, c the next -/
def TRC (w h : Int) (ht wt p : Int → Int) (b c k : Int) : Prop := 0 ≤ k ∧ (∀ j : Int, 0 ≤ j → j < k → HC w h (p j)) ∧ (0 < k → p 0 % 6 = 0) ∧ (∀ j : Int, 0 ≤ j → j + 1 < k → adj (p j) (p (j + 1))) ∧
  ((c = -1 ∧ 0 < k ∧ k ≤ 36 ∧ p (k - 1) % 6 = w - 1 ∧ stp 0 (ht b) * 64 + wt b = 64 * (cst ht p k.toNat + stp (ht (p (k - 1))) 0) + k) ∨
   (HC w h c ∧ (k = 0 → c % 6 = 0) ∧ (0 < k → adj (p (k - 1)) c) ∧ stp 0 (ht b) * 64 + wt b = 64 * (cst ht p k.toNat + stp (if k = 0 then 0 else ht (p (k - 1))) (ht c)) + k + wt c ∧ k + wt c % 64 = wt b % 64))
section TRA
variable {w h b c k v : Int} {ht wt p p' : Int → Int}
theorem cst_congr : ∀ n : Nat, (∀ j : Int, 0 ≤ j → j < n → p' j = p j) → cst ht p' n = cst ht p n
  | 0, _ => rfl
  | n + 1, hj => by
    show cst ht p' n + stp (if n = 0 then 0 else ht (p' ((n : Int) - 1))) (ht (p' n)) = cst ht p n + stp (if n = 0 then 0 else ht (p ((n : Int) - 1))) (ht (p n))
    rw [cst_congr n fun j h0 h1 => hj j h0 (by omega), hj n (by omega) (by omega)]
    by_cases e : n = 0
    · rw [if_pos e, if_pos e]
    · rw [if_neg e, if_neg e, hj ((n : Int) - 1) (by omega) (by omega)]
theorem WIT.mod (q : WIT w h ht wt c) : 1 ≤ wt c % 64 ∧ wt c % 64 ≤ 36 := by
  obtain ⟨L, hk, hn, e, -⟩ := q
  obtain ⟨K, h0, e2⟩ := wtL_len (ht := ht) _ hk
  have h1 := okL_len hk hn
  have e3 : (c :: L).length = L.length + 1 := rfl
  omega
theorem CR.wit (q1 : WS w h ht wt) (q2 : ∀ z, FPW w h ht wt z) (hb : ∀ z, 0 ≤ z → z < 36 → 0 ≤ ht z ∧ ht z ≤ 198) (hw : w ≤ 6) (z : Int) (hz : HC w h z) : WIT w h ht wt z := by
  have hz2 : 0 ≤ z ∧ z < 36 ∧ z % 6 < w ∧ z / 6 < h := hz
  have h1 := CR.way q1 q2 hb hw (w - 1 - z % 6).toNat z hz (by omega)
  rcases q1 z hz.1 hz.2.1 with e | e
  · omega
  · exact e
theorem TRC.hc (q : TRC w h ht wt p b c k) (h0 : 0 ≤ c) : HC w h c := by
  rcases q.2.2.2.2 with ⟨e, -⟩ | ⟨e, -⟩
  · omega
  · exact e
theorem TRC.start (hb : HC w h b) (h0 : b % 6 = 0) : TRC w h ht wt p b b 0 :=
  ⟨Int.le_refl _, fun j _ _ => by omega, fun q => absurd q (Int.lt_irrefl _), fun j _ _ => by omega, Or.inr ⟨hb, fun _ => h0, fun q => absurd q (Int.lt_irrefl _), by
    show stp 0 (ht b) * 64 + wt b = 64 * (0 + stp (if (0 : Int) = 0 then 0 else ht (p (0 - 1))) (ht b)) + 0 + wt b
    rw [if_pos rfl]
    omega, by omega⟩⟩
theorem TRC.step (q : TRC w h ht wt p b c k) (hc0 : 0 ≤ c) (hW : ∀ z, HC w h z → WIT w h ht wt z) (hF : ∀ z, FPW w h ht wt z) (hk : k < 36) (e1 : p' k = c) (e2 : ∀ j, 0 ≤ j → j ≠ k → p' j = p j) (hv : CBR w h ht wt c v) : TRC w h ht wt p' b v (k + 1) := by
  obtain ⟨q0, q1, q2, q3, q4⟩ := q
  rcases q4 with ⟨e, -⟩ | ⟨hc, r1, r2, r3, r4⟩
  · omega
  · have hp : ∀ j : Int, 0 ≤ j → j < k → p' j = p j := fun j h0 h1 => e2 j h0 (by omega)
    have hcs : cst ht p' (k + 1).toNat = cst ht p k.toNat + stp (if k = 0 then 0 else ht (p (k - 1))) (ht c) := by
      rw [show (k + 1).toNat = k.toNat + 1 by omega]
      show cst ht p' k.toNat + stp (if k.toNat = 0 then 0 else ht (p' ((k.toNat : Int) - 1))) (ht (p' (k.toNat : Int))) = _
      rw [cst_congr k.toNat fun j h0 h1 => hp j h0 (by omega), show ((k.toNat : Nat) : Int) = k by omega, e1]
      by_cases e : k = 0
      · rw [if_pos e, if_pos (by omega)]
      · rw [if_neg e, if_neg (by omega), hp (k - 1) (by omega) (by omega)]
    have a1 : ∀ j : Int, 0 ≤ j → j < k + 1 → HC w h (p' j) := fun j h0 h1 => by
      by_cases e : j = k
      · rw [e, e1]; exact hc
      · rw [hp j h0 (by omega)]; exact q1 j h0 (by omega)
    have a2 : p' 0 % 6 = 0 := by
      by_cases e : k = 0
      · have e3 := e1
        rw [e] at e3
        rw [e3]; exact r1 e
      · rw [hp 0 (by omega) (by omega)]; exact q2 (by omega)
    have a3 : ∀ j : Int, 0 ≤ j → j + 1 < k + 1 → adj (p' j) (p' (j + 1)) := fun j h0 h1 => by
      rw [hp j h0 (by omega)]
      by_cases e : j + 1 = k
      · rw [e, e1, show j = k - 1 by omega]; exact r2 (by omega)
      · rw [hp (j + 1) (by omega) (by omega)]; exact q3 j h0 (by omega)
    have mc := (hW c hc).mod
    refine ⟨by omega, a1, fun _ => a2, a3, ?_⟩
    rw [hcs, show k + 1 - 1 = k by omega, e1]
    rcases (hW c hc).next hF with ⟨n1, n2, n3⟩ | ⟨n1, d, n2, n3, n4⟩
    · rcases hv with ⟨v1, -⟩ | ⟨-, -, v3, -⟩
      · exact Or.inl ⟨v1, by omega, by omega, n2, by omega⟩
      · exact absurd n1 v3
    · rcases hv with ⟨-, v2⟩ | ⟨v1, v2, v3, v4⟩
      · rcases v2 with v2 | v2
        · exact absurd v2 n1
        · exact absurd n4 (v2 d n2 n3)
      · have mv := (hW v v1).mod
        refine Or.inr ⟨v1, fun e => by omega, fun _ => v2, ?_, by omega⟩
        rw [if_neg (show ¬ k + 1 = 0 by omega)]
        omega
theorem TRC.fin (q : TRC w h ht wt p b c k) (hW : ∀ z, HC w h z → WIT w h ht wt z) (hb : HC w h b) (he : 36 ≤ k ∨ c < 0 ∨ 35 < c) {W : Int} (hc : W = (stp 0 (ht b) * 64 + wt b) / 64) : PTH w h ht p k W := by
  obtain ⟨q0, q1, q2, q3, q4⟩ := q
  have mb := (hW b hb).mod
  rcases q4 with ⟨-, r1, r2, r3, r4⟩ | ⟨r1, -, -, -, r4⟩
  · exact ⟨by omega, r2, q1, q2 r1, q3, r3, by omega⟩
  · have mc := (hW c r1).mod
    unfold HC at r1
    exfalso
    omega
/-- the way climbs at least as high as it comes -/
theorem cst_up (ht p : Int → Int) : ∀ n : Nat, 0 < n → ht (p ((n : Int) - 1)) ≤ cst ht p n
  | 0, hn => absurd hn (Nat.lt_irrefl _)
  | n + 1, _ => by
    rw [show ((n + 1 : Nat) : Int) - 1 = n by omega]
    show ht (p n) ≤ cst ht p n + stp (if n = 0 then 0 else ht (p ((n : Int) - 1))) (ht (p n))
    by_cases e : n = 0
    · rw [if_pos e]
      subst e
      have := stp_up (a := 0) (b := ht (p ((0 : Nat) : Int)))
      show _ ≤ (0 : Int) + _
      omega
    · rw [if_neg e]
      have h1 := cst_up ht p n (Nat.pos_of_ne_zero e)
      have h2 := stp_up (a := ht (p ((n : Int) - 1))) (b := ht (p n))
      omega
theorem cst_mono (ht p : Int → Int) (n : Nat) : ∀ m : Nat, cst ht p n ≤ cst ht p (n + m)
  | 0 => Int.le_refl _
  | m + 1 => by
    have h1 := cst_mono ht p n m
    have h2 := stp_nn (a := if n + m = 0 then 0 else ht (p (((n + m : Nat) : Int) - 1))) (b := ht (p ((n + m : Nat) : Int)))
    show cst ht p n ≤ cst ht p (n + m) + stp (if n + m = 0 then 0 else ht (p (((n + m : Nat) : Int) - 1))) (ht (p ((n + m : Nat) : Int)))
    omega
/-- each column has a cell of the way, and it is no higher than the way costs -/
theorem PTH.col {n W x : Int} (q : PTH w h ht p n W) (h0 : 0 ≤ x) (h1 : x < w) : ∃ c, HC w h c ∧ c % 6 = x ∧ ht c ≤ W := by
  obtain ⟨q0, q00, q1, q2, q3, q4, q5⟩ := q
  have key : ∀ m : Nat, (m : Int) < n → (∀ j : Int, 0 ≤ j → j ≤ m → p j % 6 < x) ∨ ∃ j : Int, 0 ≤ j ∧ j ≤ m ∧ p j % 6 = x := by
    intro m
    induction m with
    | zero =>
      intro _
      by_cases e : x = 0
      · exact Or.inr ⟨0, by omega, by omega, by rw [q2, e]⟩
      · exact Or.inl fun j j0 j1 => by rw [show j = 0 by omega]; omega
    | succ m ih =>
      intro hm
      rcases ih (by omega) with hh | ⟨j, j0, j1, j2⟩
      · have ha := q3 m (by omega) (by omega)
        have hl := hh m (by omega) (by omega)
        by_cases e : p ((m : Int) + 1) % 6 = x
        · exact Or.inr ⟨(m : Int) + 1, by omega, by omega, e⟩
        · refine Or.inl fun j j0 j1 => ?_
          by_cases e2 : j = (m : Int) + 1
          · rw [e2]
            unfold adj at ha
            omega
          · exact hh j j0 (by omega)
      · exact Or.inr ⟨j, j0, by omega, j2⟩
  rcases key (n - 1).toNat (by omega) with hh | ⟨j, j0, j1, j2⟩
  · have := hh (n - 1) (by omega) (by omega)
    omega
  · refine ⟨p j, q1 j j0 (by omega), j2, ?_⟩
    have e1 := cst_up ht p (j.toNat + 1) (Nat.succ_pos _)
    have e2 := cst_mono ht p (j.toNat + 1) (n.toNat - (j.toNat + 1))
    rw [show j.toNat + 1 + (n.toNat - (j.toNat + 1)) = n.toNat by omega] at e2
    rw [show ((j.toNat + 1 : Nat) : Int) - 1 = j by omega] at e1
    have e3 := stp_nn (a := ht (p (n - 1))) (b := 0)
    omega
end TRA
