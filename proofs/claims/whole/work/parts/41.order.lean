theorem hB_g {D : Nat → Nat → Int32} {nv nr ns r : Nat} {x : Int32} {g g' : Nat → Int64} (hW : DW D nv nr ns) (hr : r < nr) (h : ∀ o, o < nv → 2 < D 69 r → D 70 r = nI o → g o = g' o) : hB D x g r = hB D x g' r := by
  have hn := hW.nv
  rcases (hW.2.1 r hr).2.2.1 with e | ⟨e | e, -⟩ | ⟨e | e, -, o, h1, h2⟩
  · simp [hB, e]
  · simp [hB, e]
  · simp [hB, e]
  · rw [hB_3 e, hB_3 e, h2, nI_clamp (by omega), h o h1 (by rw [e]; decide) h2]
  · rw [hB_4 e, hB_4 e, h2, nI_clamp (by omega), h o h1 (by rw [e]; decide) h2]
theorem thr_g {D : Nat → Nat → Int32} {nv nr ns : Nat} {x : Int32} {g g' : Nat → Int64} (hW : DW D nv nr ns) : ∀ k, k ≤ nr → thr D x g nr k = thr D x g' nr k
  | 0, _ => rfl
  | k + 1, hk => by
    have ih := thr_g (x := x) (g := g) (g' := g') hW k (by omega)
    have hr : nr - (k + 1) < nr := by omega
    unfold thr
    rw [ih]
    by_cases h4 : D 60 (nr - (k + 1)) = 4
    · have e : hB D x g (nr - (k + 1)) = hB D x g' (nr - (k + 1)) := hB_g hW hr (fun o ho h2 _ => by
        exfalso
        rcases (hW.2.1 _ hr).2.2.1 with e | ⟨e | e, -⟩ | ⟨-, e, -⟩
        · rw [e] at h2; exact absurd h2 (by decide)
        · rw [e] at h2; exact absurd h2 (by decide)
        · rw [e] at h2; exact absurd h2 (by decide)
        · exact e h4)
      rw [e]
    · rw [if_neg (fun z => h4 z.1), if_neg (fun z => h4 z.1)]
/-- which rules are there on the sheet x -/
def thS (D : Nat → Nat → Int32) (x : Int32) (nr : Nat) : Int32 := thr D x (fun _ => 0) nr nr
theorem rb_bits {D : Nat → Nat → Int32} {nv nr ns r u : Nat} (hW : DW D nv nr ns) (hr : r < nr) (hu : u < 32) : bt (rb D r) u = true ↔ (2 < D 69 r ∧ D 70 r = nI u) ∨ D 67 r = nI u := by
  have hn := hW.nv
  unfold rb
  rw [b_or, Bool.or_eq_true]
  have h1 : bt (if 2 < D 69 r then (1 : Int32) <<< (D 70 r &&& 31) else 0) u = true ↔ (2 < D 69 r ∧ D 70 r = nI u) := by
    by_cases c : 2 < D 69 r
    · rw [if_pos c]
      obtain ⟨o, h1, h2⟩ := hW.ofv2 hr (DA.rf (I := D)) c
      rw [h2, bt_one (by omega) hu, decide_eq_true_eq]
      exact ⟨fun e => ⟨c, by rw [e]⟩, fun e => ((nI_eq (by omega) (by omega)).mp e.2).symm⟩
    · rw [if_neg c]
      exact ⟨(fun e => by rw [b_0] at e; cases e), fun e => absurd e.1 c⟩
  have h2 : bt (if D 67 r < 0 then 0 else (1 : Int32) <<< (D 67 r &&& 31)) u = true ↔ D 67 r = nI u := by
    by_cases c : D 67 r < 0
    · rw [if_pos c]
      exact ⟨(fun e => by rw [b_0] at e; cases e), fun e => by rw [e] at c; exact absurd c (nI_pos (by omega))⟩
    · rw [if_neg c]
      obtain ⟨o, h1, h2, -⟩ := hW.byv hr (DA.rf (I := D)) c
      rw [h2, bt_one (by omega) hu, decide_eq_true_eq]
      exact ⟨fun e => by rw [e], fun e => ((nI_eq (by omega) (by omega)).mp e).symm⟩
  exact or_congr h1 h2
theorem nd_mem {D : Nat → Nat → Int32} {r v u : Nat} (h : D 60 r ≤ 3 ∧ D 61 r = nI v) (hb : bt (rb D r) u = true) : ∀ k, r < k → bt (nd D k v) u = true
  | 0, hk => by omega
  | k + 1, hk => by
    by_cases e : r = k
    · subst e; rw [nd_s1 h, b_or, hb, Bool.or_true]
    · have ih := nd_mem h hb k (by omega)
      by_cases c : D 60 k ≤ 3 ∧ D 61 k = nI v
      · rw [nd_s1 c, b_or, ih]; rfl
      · rw [nd_s0 c]; exact ih
theorem nd_lt {D : Nat → Nat → Int32} {nv nr ns v u : Nat} (hW : DW D nv nr ns) (hu : u < 32) : ∀ k, k ≤ nr → bt (nd D k v) u = true → u < nv
  | 0, _, h => by rw [nd, b_0] at h; cases h
  | k + 1, hk, h => by
    have hn := hW.nv
    by_cases c : D 60 k ≤ 3 ∧ D 61 k = nI v
    · rw [nd_s1 c, b_or, Bool.or_eq_true] at h
      rcases h with h | h
      · exact nd_lt hW hu k (by omega) h
      · rcases (rb_bits hW (show k < nr by omega) hu).mp h with ⟨h1, h2⟩ | h2
        · obtain ⟨o, g1, g2⟩ := hW.ofv2 (show k < nr by omega) (DA.rf (I := D)) h1
          rw [g2] at h2; have := (nI_eq (by omega) (by omega)).mp h2; omega
        · have c67 : ¬ D 67 k < 0 := by rw [h2]; exact nI_pos (by omega)
          obtain ⟨o, g1, g2, -⟩ := hW.byv (show k < nr by omega) (DA.rf (I := D)) c67
          rw [g2] at h2; have := (nI_eq (by omega) (by omega)).mp h2; omega
    · rw [nd_s0 c] at h; exact nd_lt hW hu k (by omega) h
theorem AG_of {D : Nat → Nat → Int32} {nv nr ns vj : Nat} {x : Int32} {g g' : Nat → Int64} (hW : DW D nv nr ns) (h : ∀ u, u < nv → bt (nd D nr vj) u = true → g u = g' u) : AG D x (nI vj) nr g g' := by
  intro r hr hk
  have hn := hW.nv
  have hk2 : D 60 r ≤ 3 ∧ D 61 r = nI vj := by simpa only [kvB, Bool.and_eq_true, decide_eq_true_eq] using hk
  refine ⟨hB_g hW hr (fun o ho h1 h2 => h o ho (nd_mem hk2 ((rb_bits hW hr (by omega)).mpr (Or.inl ⟨h1, h2⟩)) nr hr)), ?_⟩
  by_cases c : D 67 r < 0
  · rw [amt_0 c, amt_0 c]
  · obtain ⟨o, h1, h2, -⟩ := hW.byv hr (DA.rf (I := D)) c
    rw [amt_1 c, amt_1 c, h2, nI_clamp (by omega), h o h1 (nd_mem hk2 ((rb_bits hW hr (by omega)).mpr (Or.inr h2)) nr hr)]
/-- no value needs itself, also through others -/
def AC (D : Nat → Nat → Int32) (nv nr : Nat) : Prop := ∃ rk : Nat → Nat, ∀ v, v < nv → ∀ u, u < nv → bt (nd D nr v) u = true → rk u < rk v
/-- the numbers of a sheet -/
def FX (D : Nat → Nat → Int32) (x th : Int32) (nv nr ns : Nat) (g : Nat → Int64) : Prop := ∀ v, v < nv → g v = numF D x g th v nr ns
theorem FX.uniq {D : Nat → Nat → Int32} {nv nr ns : Nat} {x th : Int32} {g g' : Nat → Int64} (hW : DW D nv nr ns) (hA : AC D nv nr) (h : FX D x th nv nr ns g) (h' : FX D x th nv nr ns g') : ∀ v, v < nv → g v = g' v := by
  obtain ⟨rnk, hA⟩ := hA
  have key : ∀ n v, v < nv → rnk v < n → g v = g' v := by
    intro n
    induction n with
    | zero => intro v _ h; omega
    | succ n ih =>
      intro v hv hn
      rw [h v hv, h' v hv]
      exact (AG_of hW (fun u hu hb => ih u hu (by have := hA v hv u hu hb; omega))).numF
  exact fun v hv => key (rnk v + 1) v hv (by omega)
def cntB (p : Nat → Bool) : Nat → Nat
  | 0 => 0
  | n + 1 => cntB p n + (if p n = true then 1 else 0)
theorem cntB_le (p : Nat → Bool) : ∀ n, cntB p n ≤ n
  | 0 => Nat.le_refl 0
  | n + 1 => by have := cntB_le p n; unfold cntB; split <;> omega
theorem cntB_all {p : Nat → Bool} : ∀ n, cntB p n = n → ∀ i, i < n → p i = true
  | 0, _, i, h => by omega
  | n + 1, h, i, hi => by
    have h1 := cntB_le p n
    unfold cntB at h
    by_cases hp : p n = true
    · rw [if_pos hp] at h
      by_cases e : i = n
      · rw [e]; exact hp
      · exact cntB_all n (by omega) i (by omega)
    · rw [if_neg hp] at h; omega
theorem cntB_ex {p : Nat → Bool} : ∀ n, cntB p n < n → ∃ i, i < n ∧ p i = false
  | 0, h => by omega
  | n + 1, h => by
    unfold cntB at h
    by_cases hp : p n = true
    · rw [if_pos hp] at h
      obtain ⟨i, h1, h2⟩ := cntB_ex (p := p) n (by omega)
      exact ⟨i, by omega, h2⟩
    · exact ⟨n, by omega, by simpa using hp⟩
theorem cntB_add {p q : Nat → Bool} {v : Nat} (hq : ∀ i, q i = (p i || decide (i = v))) (hp : p v = false) : ∀ n, cntB q n = cntB p n + (if v < n then 1 else 0)
  | 0 => by simp [cntB]
  | n + 1 => by
    have ih := cntB_add hq hp n
    unfold cntB
    rw [ih, hq n]
    by_cases e : n = v
    · subst e; simp [hp]
    · by_cases hpn : p n = true
      · by_cases hv : v < n
        · simp [hpn, hv, show v < n + 1 by omega] <;> omega
        · simp [hpn, hv, show ¬ v < n + 1 by omega]
      · by_cases hv : v < n
        · simp [hpn, e, hv, show v < n + 1 by omega]
        · simp [hpn, e, hv, show ¬ v < n + 1 by omega]
theorem next_val {D : Nat → Nat → Int32} {nv nr : Nat} {kn : Nat → Bool} (hA : AC D nv nr) (h : ∃ v, v < nv ∧ kn v = false) : ∃ v, v < nv ∧ kn v = false ∧ ∀ u, u < nv → bt (nd D nr v) u = true → kn u = true := by
  obtain ⟨rnk, hA⟩ := hA
  obtain ⟨v0, h1, h2⟩ := h
  obtain ⟨n, ⟨v, a1, a2, a3⟩, hmin⟩ := pk_least (fun n => ∃ v, v < nv ∧ kn v = false ∧ rnk v = n) ⟨_, v0, h1, h2, rfl⟩
  refine ⟨v, a1, a2, fun u hu hb => ?_⟩
  cases hk : kn u with
  | true => rfl
  | false => exact absurd ⟨u, hu, hk, rfl⟩ (hmin (rnk u) (by rw [← a3]; exact hA v a1 u hu hb))
