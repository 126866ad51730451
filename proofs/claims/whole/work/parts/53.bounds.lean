/-! ===== how large numbers get ===== -/
def nb (x : Int64) (m : Nat) : Prop := x.toInt.natAbs ≤ m
theorem nb.mono {x : Int64} {m n : Nat} (h : nb x m) (hn : m ≤ n) : nb x n := Nat.le_trans h hn
theorem nb_add {a b : Int64} {m n : Nat} (h1 : nb a m) (h2 : nb b n) (h : m + n < 2 ^ 63) : nb (a + b) (m + n) := by
  unfold nb at *
  rw [Int64.toInt_add, Int.bmod_eq_of_le (by omega) (by omega)]
  omega
theorem nb_sub {a b : Int64} {m n : Nat} (h1 : nb a m) (h2 : nb b n) (h : m + n < 2 ^ 63) : nb (a - b) (m + n) := by
  unfold nb at *
  rw [Int64.toInt_sub, Int.bmod_eq_of_le (by omega) (by omega)]
  omega
theorem nb_mul {a b : Int64} {m n : Nat} (h1 : nb a m) (h2 : nb b n) (h : m * n < 2 ^ 63) : nb (a * b) (m * n) := by
  unfold nb at *
  have h3 : (a.toInt * b.toInt).natAbs ≤ m * n := by rw [Int.natAbs_mul]; exact Nat.mul_le_mul h1 h2
  rw [Int64.toInt_mul, Int.bmod_eq_of_le (by omega) (by omega)]
  exact h3
theorem nb_div2 {a : Int64} {m : Nat} (h1 : nb a m) (h : m < 2 ^ 63) : nb (a / 2) (m / 2) := by
  unfold nb at *
  have h2 : (a.toInt.tdiv 2).natAbs ≤ m / 2 := by rw [Int.natAbs_tdiv]; exact Nat.div_le_div_right h1
  rw [Int64.toInt_div, show (2 : Int64).toInt = 2 by decide, Int.bmod_eq_of_le (by omega) (by omega)]
  exact h2
theorem nb_i {x : Int32} {m : Nat} (h : x.toInt.natAbs ≤ m) : nb x.toInt64 m := by unfold nb; rw [Int32.toInt_toInt64]; exact h
theorem nb_0 {m : Nat} : nb 0 m := by unfold nb; rw [Int64.toInt_zero]; omega
theorem nb_1 {m : Nat} (h : 1 ≤ m) : nb 1 m := by unfold nb; rw [show (1 : Int64).toInt = 1 by decide]; omega
theorem nb_min {x : Int64} {m : Nat} (h : nb x m) (hm : m < 2 ^ 63) : x ≠ Int64.minValue := fun e => by
  unfold nb at h; rw [e, show Int64.minValue.toInt = -9223372036854775808 by decide] at h; omega
theorem inR_abs {x : Int32} {a b : Int} {m : Nat} (h : inR x a b) (h1 : -(m : Int) ≤ a) (h2 : b ≤ m) : x.toInt.natAbs ≤ m := by
  have := h.1; have := h.2; omega
section NB
variable {D : Nat → Nat → Int32} {nv nr ns : Nat} {x : Int32} {g : Nat → Int64} {th v : Int32} {M A r : Nat}
theorem amt_nb (hW : DW D nv nr ns) (hr : r < nr) (hM : ∀ o, o < nv → D 67 r = nI o → nb (g o) M) (h : 9 * M + 1000 < 2 ^ 63) : nb (amt D g r) (1000 + 5 * M) := by
  have hn := hW.nv
  obtain ⟨-, -, -, h67, -, -, -, -, h66, f, hf, h68⟩ := hW.2.1 r hr
  have t66 : nb (D 66 r).toInt64 1000 := nb_i (inR_abs h66 (by omega) (by omega))
  by_cases c : D 67 r < 0
  · rw [amt_0 c]
    exact (nb_add t66 (nb_0 (m := 0)) (by omega)).mono (by omega)
  · rcases h67 with e | ⟨o, ho, e⟩
    · rw [e] at c; exact absurd (by decide) c
    · rw [amt_1 c, e, nI_clamp (by omega), h68]
      have q1 : nb (g o) M := hM o ho e
      have q2 : nb (nI f).toInt64 9 := nb_i (by rw [nI_toInt (by omega)]; omega)
      have q3 := nb_div2 (nb_mul q1 q2 (by omega)) (by omega)
      exact (nb_add t66 q3 (by omega)).mono (by omega)
theorem adS_nb (hA : ∀ r, r < nr → kvB D v r = true → nb (amt D g r) A) (h : cntB (kvB D v) nr * A < 2 ^ 63) : ∀ k, k ≤ nr → nb (adS D x g th v nr k) (cntB (fun r => adB D x g th r v) k * A)
  | 0, _ => by show nb 0 _; exact nb_0
  | k + 1, hk => by
    have ih := adS_nb hA h k (by omega)
    have hc := Nat.le_trans (cnt_ex (P := fun r => adB D x g th r v) (P' := kvB D v) (fun r h => adB_kv h) (k + 1)) (cnt_mono (show k + 1 ≤ nr by omega))
    rw [adS]
    cases ha : adB D x g th k v with
    | false =>
      have e : adC D x g th v nr k = 0 := by unfold adC; rw [ha]; rfl
      rw [e, Int64.add_zero, cnt_s0 (P := fun r => adB D x g th r v) ha]; exact ih
    | true =>
      have e1 : cntB (fun r => adB D x g th r v) (k + 1) = cntB (fun r => adB D x g th r v) k + 1 := cnt_s1 (P := fun r => adB D x g th r v) ha
      rw [e1, Nat.add_mul, Nat.one_mul]
      have hlt : (cntB (fun r => adB D x g th r v) k + 1) * A ≤ cntB (kvB D v) nr * A := Nat.mul_le_mul_right A (by rw [← e1]; exact hc)
      rw [Nat.add_mul, Nat.one_mul] at hlt
      refine nb_add ih ?_ (by omega)
      have hm := hA k (by omega) (adB_kv ha)
      unfold adC
      rw [if_pos ha]
      split
      · split
        · exact hm
        · split
          · exact hm
          · exact nb_0
      · exact nb_0
theorem spA_nb (hW : DW D nv nr ns) : ∀ k, k ≤ ns → nb (spA D v 0 k) (20 * k)
  | 0, _ => nb_0
  | k + 1, hk => by
    have hn := hW.ns
    have ih := spA_nb hW k (by omega)
    rw [spA]
    refine (nb_add (n := 20) ih ?_ (by omega)).mono (by omega)
    split
    · exact nb_i (inR_abs (hW.2.2.2.1 k (by omega)).2.1 (by omega) (by omega))
    · exact nb_0
theorem cpS_nb {ls : Int32} {n0 : Int64} {m : Nat} (h0 : nb n0 m) (hA : ∀ r, r < nr → kvB D v r = true → nb (amt D g r) m) : ∀ k, k ≤ nr → nb (cpS D x g th v ls n0 k) m
  | 0, _ => h0
  | k + 1, hk => by
    have ih := cpS_nb (ls := ls) h0 hA k (by omega)
    rw [cpS]
    split
    · rename_i hc
      have ha := hA k (by omega) (wk_kv hc.1 (by decide))
      split
      · split
        · exact ha
        · exact ih
      · split
        · exact ha
        · exact ih
    · exact ih
theorem cnt_lt {P P' : Nat → Bool} {q : Nat} (h : ∀ r, P r = true → P' r = true) (h1 : P' q = true) (h2 : P q = false) : ∀ n, q < n → cntB P n < cntB P' n
  | 0, hq => by omega
  | n + 1, hq => by
    by_cases e : q = n
    · subst e
      have := cnt_ex h q
      rw [cnt_s0 h2, cnt_s1 h1]; omega
    · have ih := cnt_lt h h1 h2 n (by omega)
      cases hp : P n with
      | true => rw [cnt_s1 hp, cnt_s1 (h n hp)]; omega
      | false => rw [cnt_s0 hp]; have := cnt_mono (P := P') (show n ≤ n + 1 by omega); omega
theorem numF_nb {vj : Nat} (hW : DW D nv nr ns) (hv : vj < nv) (hM : ∀ r, r < nr → kvB D (nI vj) r = true → ∀ o, o < nv → D 67 r = nI o → nb (g o) M) (h : 640000 + 5 * cntB (kvB D (nI vj)) nr * M < 2 ^ 60) :
    nb (numF D x g th vj nr ns) (640000 + 5 * cntB (kvB D (nI vj)) nr * M) ∧ ∀ r, r < nr → kvB D (nI vj) r = true → nb (amt D g r) (1000 + 5 * M) ∧ 5 * M < 2 ^ 60 := by
  have hn30 := hW.nr
  have hn10 := hW.ns
  have hcn := cntB_le (kvB D (nI vj)) nr
  have hpos : ∀ r, r < nr → kvB D (nI vj) r = true → 1 ≤ cntB (kvB D (nI vj)) nr := fun r hr hk => by
    have h1 := cnt_s1 hk
    have h2 := cnt_mono (P := kvB D (nI vj)) (show r + 1 ≤ nr by omega)
    omega
  have h5 : ∀ r, r < nr → kvB D (nI vj) r = true → 5 * M < 2 ^ 60 := fun r hr hk => by
    have h1 := hpos r hr hk
    have h2 : 5 * 1 * M ≤ 5 * cntB (kvB D (nI vj)) nr * M := Nat.mul_le_mul_right M (Nat.mul_le_mul_left 5 h1)
    omega
  have hA : ∀ r, r < nr → kvB D (nI vj) r = true → nb (amt D g r) (1000 + 5 * M) := fun r hr hk => by
    have := h5 r hr hk
    exact amt_nb hW hr (hM r hr hk) (by omega)
  refine ⟨?_, fun r hr hk => ⟨hA r hr hk, h5 r hr hk⟩⟩
  generalize hn : cntB (kvB D (nI vj)) nr = n at *
  have eA : n * (1000 + 5 * M) = 1000 * n + 5 * n * M := by rw [Nat.mul_add, Nat.mul_comm n 1000, ← Nat.mul_assoc, Nat.mul_comm n 5]
  have hvj := hW.2.2.1 vj hv
  -- the sum of the boons
  have hadle : cntB (fun r => adB D x g th r (nI vj)) nr ≤ n := by rw [← hn]; exact cnt_ex (fun r h => adB_kv h) nr
  have had : nb (adS D x g th (nI vj) nr nr) (cntB (fun r => adB D x g th r (nI vj)) nr * (1000 + 5 * M)) := by
    by_cases h0 : n = 0
    · have hz : ∀ r, r < nr → kvB D (nI vj) r = false := fun r hr => by
        cases hk : kvB D (nI vj) r with
        | false => rfl
        | true => have := hpos r hr hk; omega
      have : ∀ k, k ≤ nr → nb (adS D x g th (nI vj) nr k) 0 := by
        intro k
        induction k with
        | zero => intro _; exact nb_0
        | succ k ih =>
          intro hk
          rw [adS]
          have e : adC D x g th (nI vj) nr k = 0 := by
            unfold adC
            cases ha : adB D x g th k (nI vj) with
            | false => rfl
            | true => have := hz k (by omega); rw [adB_kv ha] at this; cases this
          rw [e, Int64.add_zero]
          exact ih (by omega)
      exact (this nr (Nat.le_refl _)).mono (by omega)
    · obtain ⟨r, hr, hk⟩ : ∃ r, r < nr ∧ kvB D (nI vj) r = true := by
        obtain ⟨r, -, h2, h3, -⟩ := cnt_next (P := kvB D (nI vj)) (n := nr) nr 0 (by omega) (by rw [hn]; simp [cntB]; omega)
        exact ⟨r, h2, h3⟩
      have := h5 r hr hk
      refine adS_nb hA ?_ nr (Nat.le_refl _)
      rw [hn]; omega
  have h0 : nb (num0 D x g th (nI vj) vj nr ns) (299 + n * (1000 + 5 * M)) := by
    unfold num0
    rw [spA_add]
    have hsp : nb (spA D (nI vj) 0 ns) 200 := (spA_nb hW ns (Nat.le_refl _)).mono (by omega)
    cases hb : bsS D x g th (nI vj) nr with
    | none =>
      have hbv : nb (basedV D x g th (nI vj) vj nr) 99 := by unfold basedV; rw [hb]; exact nb_i (inR_abs hvj.2.1 (by omega) (by omega))
      have hle : cntB (fun r => adB D x g th r (nI vj)) nr * (1000 + 5 * M) ≤ n * (1000 + 5 * M) := Nat.mul_le_mul_right _ hadle
      exact (nb_add hbv (nb_add had hsp (by omega)) (by omega)).mono (by omega)
    | some q =>
      have hwq := bsS_wk _ _ hb
      have hq := bsS_lt _ _ hb
      have hlt : cntB (fun r => adB D x g th r (nI vj)) nr < n := by
        rw [← hn]; exact cnt_lt (P := fun r => adB D x g th r (nI vj)) (P' := kvB D (nI vj)) (q := q) (fun r h => adB_kv h) (wk_kv hwq (by decide)) (adB_ex hwq (by decide) (by decide)) nr hq
      have hbv : nb (basedV D x g th (nI vj) vj nr) (1000 + 5 * M) := by unfold basedV; rw [hb]; exact hA q hq (wk_kv hwq (by decide))
      have hle : (cntB (fun r => adB D x g th r (nI vj)) nr + 1) * (1000 + 5 * M) ≤ n * (1000 + 5 * M) := Nat.mul_le_mul_right _ hlt
      rw [Nat.add_mul, Nat.one_mul] at hle
      exact (nb_add hbv (nb_add had hsp (by omega)) (by omega)).mono (by omega)
  have hA2 : ∀ r, r < nr → kvB D (nI vj) r = true → nb (amt D g r) (299 + n * (1000 + 5 * M)) := fun r hr hk => (hA r hr hk).mono (by
    have h1 := hpos r hr hk
    have : 1 * (1000 + 5 * M) ≤ n * (1000 + 5 * M) := Nat.mul_le_mul_right _ h1
    omega)
  have h2 : nb (num2 D x g th (nI vj) vj nr ns) (299 + n * (1000 + 5 * M)) := by
    unfold num2 num1
    exact cpS_nb (cpS_nb h0 hA2 nr (Nat.le_refl _)) hA2 nr (Nat.le_refl _)
  unfold numF finN
  split
  · split
    · exact nb_0
    · exact nb_1 (by omega)
  · split
    · exact (nb_sub h2 (nb_i (inR_abs hvj.2.2.1 (m := 600000) (by omega) (by omega))) (by omega)).mono (by omega)
    · exact h2.mono (by omega)
end NB
/-- the bound M for the first p values, which c rules write -/
def hb (p c M : Nat) : Prop := 3 ^ 30 * M ≤ 640000 * 7 ^ p * 4 ^ c * 3 ^ (30 - c)
theorem hb_key : ∀ n, n ≤ 30 → 3 ^ n * (5 * n + 1) ≤ 7 * 4 ^ n := by decide +kernel
theorem hb_0 {p c : Nat} (hc : c ≤ 30) : 3 ^ 30 * 640000 ≤ 640000 * 7 ^ p * 4 ^ c * 3 ^ (30 - c) := by
  have e : 3 ^ 30 = 3 ^ c * 3 ^ (30 - c) := by rw [← Nat.pow_add]; congr 1; omega
  have h1 : 3 ^ c ≤ 4 ^ c := Nat.pow_le_pow_left (by decide) c
  have h2 : 1 ≤ 7 ^ p := Nat.one_le_pow _ _ (by decide)
  have h3 : 3 ^ 30 ≤ 4 ^ c * 3 ^ (30 - c) := by rw [e]; exact Nat.mul_le_mul_right _ h1
  have h4 : 640000 * (4 ^ c * 3 ^ (30 - c)) ≤ 640000 * 7 ^ p * (4 ^ c * 3 ^ (30 - c)) := Nat.mul_le_mul_right _ (by omega)
  rw [← Nat.mul_assoc (640000 * 7 ^ p)] at h4
  have h5 : 640000 * 3 ^ 30 ≤ 640000 * (4 ^ c * 3 ^ (30 - c)) := Nat.mul_le_mul_left _ h3
  rw [Nat.mul_comm (3 ^ 30)]
  exact Nat.le_trans h5 h4
theorem hb_step {p c n M : Nat} (h : hb p c M) (hc : c + n ≤ 30) : hb (p + 1) (c + n) (640000 + 5 * n * M) ∧ hb (p + 1) (c + n) M := by
  unfold hb at *
  have e30 : 3 ^ (30 - c) = 3 ^ (30 - (c + n)) * 3 ^ n := by rw [← Nat.pow_add]; congr 1; omega
  have h0 := hb_0 (p := p) (c := c) (by omega)
  rw [e30] at h h0
  have ek := hb_key n (by omega)
  have e1 : 640000 * 7 ^ (p + 1) * 4 ^ (c + n) * 3 ^ (30 - (c + n)) = (640000 * 7 ^ p * 4 ^ c * 3 ^ (30 - (c + n))) * (7 * 4 ^ n) := by
    rw [Nat.pow_succ, Nat.pow_add]
    simp only [Nat.mul_assoc, Nat.mul_comm, Nat.mul_left_comm]
  have e2 : 640000 * 7 ^ p * 4 ^ c * (3 ^ (30 - (c + n)) * 3 ^ n) = (640000 * 7 ^ p * 4 ^ c * 3 ^ (30 - (c + n))) * 3 ^ n := by simp only [Nat.mul_assoc]
  rw [e1]
  rw [e2] at h h0
  generalize 640000 * 7 ^ p * 4 ^ c * 3 ^ (30 - (c + n)) = T at *
  have k1 : T * (3 ^ n * (5 * n + 1)) ≤ T * (7 * 4 ^ n) := Nat.mul_le_mul_left T ek
  have k2 : T * (3 ^ n * (5 * n + 1)) = T * 3 ^ n + 5 * n * (T * 3 ^ n) := by
    rw [Nat.mul_add, Nat.mul_one, Nat.mul_add, Nat.add_comm]
    congr 1
    simp only [Nat.mul_assoc, Nat.mul_comm, Nat.mul_left_comm]
  have k3 : 5 * n * (3 ^ 30 * M) ≤ 5 * n * (T * 3 ^ n) := Nat.mul_le_mul_left _ h
  constructor
  · have k4 : 3 ^ 30 * (640000 + 5 * n * M) = 3 ^ 30 * 640000 + 5 * n * (3 ^ 30 * M) := by
      rw [Nat.mul_add]
      congr 1
      simp only [Nat.mul_assoc, Nat.mul_comm, Nat.mul_left_comm]
    rw [k4]
    rw [k2] at k1
    exact Nat.le_trans (Nat.add_le_add h0 k3) k1
  · rw [k2] at k1
    exact Nat.le_trans h (Nat.le_trans (Nat.le_add_right _ _) k1)
theorem hb_lt {p c M : Nat} (h : hb p c M) (hp : p ≤ 10) (hc : c ≤ 30) : M < 2 ^ 60 := by
  unfold hb at h
  have h1 : 7 ^ p ≤ 7 ^ 10 := Nat.pow_le_pow_right (by decide) hp
  have h2 : 4 ^ c * 3 ^ (30 - c) ≤ 4 ^ 30 := by
    have a : 3 ^ (30 - c) ≤ 4 ^ (30 - c) := Nat.pow_le_pow_left (by decide) _
    have b : 4 ^ c * 4 ^ (30 - c) = 4 ^ 30 := by rw [← Nat.pow_add]; congr 1; omega
    rw [← b]; exact Nat.mul_le_mul_left _ a
  have h3 : 640000 * 7 ^ p * 4 ^ c * 3 ^ (30 - c) ≤ 640000 * 7 ^ 10 * 4 ^ 30 := by
    rw [Nat.mul_assoc (640000 * 7 ^ p)]
    exact Nat.mul_le_mul (Nat.mul_le_mul_left _ h1) h2
  have h4 : 640000 * 7 ^ 10 * 4 ^ 30 < 3 ^ 30 * 2 ^ 60 := by decide
  have h5 : 3 ^ 30 * M < 3 ^ 30 * 2 ^ 60 := Nat.lt_of_le_of_lt (Nat.le_trans h h3) h4
  exact Nat.lt_of_mul_lt_mul_left h5
