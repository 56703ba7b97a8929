theorem f_bd {X : xW} {Γ : Nat → Option Nat} {H : Heap} {a r ci k : Nat} {fts : List xT} {lo hi : Int} (hC : Conf X Γ H) (ha : Γ a = some r) (hr : kO r = some (ci, fts)) (hk : fts[k]? = some (0, lo, hi)) : lo ≤ (sI H a (X.1.2 ci k)).toInt ∧ (sI H a (X.1.2 ci k)).toInt ≤ hi := by
  obtain ⟨cell, v, h1, h2, h3, h5, h6⟩ := (hC a r ha).obj hr hk
  obtain ⟨i, rfl, h7, h8⟩ := h6
  have e : sI H a (X.1.2 ci k) = i := by simp [sI, sv, h1, h5]
  rw [e]
  exact ⟨h7, h8⟩
section FRU
variable {p : Program} {l : Launch} {e : Env} {R : Room} {s : State} {m : MethodId} {args : Array Value} {below : List Frame} {meth : Method} {c : Code} {H H0 : Heap} {locs : List Loc} {Q : State → Prop}
variable {cc : ByteArray} {pc mL : Nat} {own : String} {ret : Option FieldType} {ls : Array Slot} {rest : List Value} {X : xW} {Γ : Nat → Option Nat}
theorem q_getU (E : Ev p s m args meth c cc mL own ret X Γ H0) (hC : Conf X Γ H) {a r ci k index ca q0 : Nat} {hi : Int} (ha : Γ a = some r) (hf : FA own index r ci k (q0 + 2, 0, hi)) (uc : ∀ a, Γ a = some q0 → a = ca) (hdg : decode cc pc = .ok (.getfield index, 3))
    (kk : W p l e R s m args below meth c H locs 0 0 Q (F0 m (pc + 3) ls (.ref ca :: rest))) : W p l e R s m args below meth c H locs 0 0 Q (F0 m pc ls (.ref a :: rest)) :=
  q_getR E hC ha hf hdg (fun q _ hq => by rw [uc q hq]; exact kk)
end FRU

