/-- locals that are forgotten -/
def fgL (ks : List Nat) : Nat → List Value → List Value
  | _, [] => []
  | i, v :: L => (if ks.contains i then .retAddr 0 else v) :: fgL ks (i + 1) L
theorem fgL_len (ks : List Nat) : ∀ (L : List Value) (i : Nat), (fgL ks i L).length = L.length
  | [], _ => rfl
  | _ :: L, i => by show (fgL ks (i + 1) L).length + 1 = L.length + 1; rw [fgL_len ks L]
theorem fgL_get (ks : List Nat) {v : Value} (hv : ∀ z, v ≠ .retAddr z) : ∀ (L : List Value) (i k : Nat), (fgL ks i L)[k]? = some v → L[k]? = some v
  | [], _, _, h => by simp [fgL] at h
  | w :: L, i, k, h => by
    cases k with
    | zero =>
      rw [fgL, List.getElem?_cons_zero] at h
      rw [List.getElem?_cons_zero]
      by_cases hk : ks.contains i = true
      · rw [if_pos hk] at h; cases h; exact absurd rfl (hv 0)
      · rw [if_neg hk] at h; exact h
    | succ k =>
      rw [fgL, List.getElem?_cons_succ] at h
      rw [List.getElem?_cons_succ]
      exact fgL_get ks hv L (i + 1) k h
theorem s_fg {E : EV} {M : MD} {κ : Option Value → HP → Prop} {pc : Nat} {L L' st : List Value} {h : HP} {cs ss : Nat} (ks : List Nat) (hL : fgL ks 0 L = L') (k : SP E M κ pc L' st h cs ss) : SP E M κ pc L st h cs ss := by
  subst hL
  intro p l e s m args below meth c lo D ca H locs ls C g1 g2 g3 g4 g5 g6
  refine k p l e s m args below meth c lo D ca H locs ls C g1 g2 g3 g4 g5 ⟨by rw [fgL_len]; exact g6.1, g6.2.mono (fun q hq => ?_)⟩
  obtain ⟨i, v, e1, e2, e3⟩ := lvl_of _ 0 q hq
  rw [e1]
  exact lvl_mem e3 L 0 i (fgL_get ks e3 L 0 i e2)
