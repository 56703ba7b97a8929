theorem f_bd {X : xW} {Γ : Nat → Option Nat} {H : Heap} {a r ci k : Nat} {fts : List xT} {lo hi : Int} (hC : Conf X Γ H) (ha : Γ a = some r) (hr : kO r = some (ci, fts)) (hk : fts[k]? = some (0, lo, hi)) : lo ≤ (sI H a (X.1.2 ci k)).toInt ∧ (sI H a (X.1.2 ci k)).toInt ≤ hi := by
  obtain ⟨cell, v, h1, h2, h3, h5, h6⟩ := (hC a r ha).obj hr hk
  obtain ⟨i, rfl, h7, h8⟩ := h6
  have e : sI H a (X.1.2 ci k) = i := by simp [sI, sv, h1, h5]
  rw [e]
  exact ⟨h7, h8⟩
