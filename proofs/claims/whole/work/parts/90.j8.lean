theorem td2 (t : Int) : (0 ≤ t ∧ t.tdiv 2 = t / 2) ∨ (t < 0 ∧ t.tdiv 2 = -((-t) / 2)) := by
  rcases Int.lt_or_le t 0 with z | z
  · refine Or.inr ⟨z, ?_⟩
    have h : t.tdiv 2 = -((-t).tdiv 2) := by rw [Int.neg_tdiv, Int.neg_neg]
    rw [h, Int.tdiv_eq_ediv_of_nonneg (by omega)]
  · exact Or.inl ⟨z, Int.tdiv_eq_ediv_of_nonneg z⟩
theorem di_k : ∀ k, k < 66 → (nI k - nI k / 2 * 2 = 0 ↔ k % 2 = 0) ∧ nI k / 2 = nI (k / 2) ∧ (nI k).toInt64.toInt = k := by decide +kernel
theorem di_t {g : Int64} {k : Nat} (hg : nb g (2 ^ 60)) (hk : k < 66) : ((nI k).toInt64 + 2 * g).toInt = k + 2 * g.toInt := by
  unfold nb at hg
  rw [Int64.toInt_add, Int64.toInt_mul, (di_k k hk).2.2, show (2 : Int64).toInt = 2 by decide, Int.bmod_eq_of_le (n := 2 * g.toInt) (by omega) (by omega), Int.bmod_eq_of_le (by omega) (by omega)]
theorem di_h {g : Int64} {k : Nat} (hg : nb g (2 ^ 60)) (hk : k < 66) : (((nI k).toInt64 + 2 * g) / 2).toInt = (k + 2 * g.toInt).tdiv 2 := by
  rw [Int64.toInt_div, di_t hg hk, show (2 : Int64).toInt = 2 by decide]
  unfold nb at hg
  have td := td2 (k + 2 * g.toInt)
  rw [Int.bmod_eq_of_le (by omega) (by omega)]
theorem di_e {g : Int64} {k : Nat} (hg : nb g (2 ^ 60)) (hk : k < 66) : ((nI k).toInt64 + 2 * g - ((nI k).toInt64 + 2 * g) / 2 * 2 = 0) ↔ k % 2 = 0 := by
  have h1 := di_t hg hk
  have h2 := di_h hg hk
  unfold nb at hg
  have td := td2 (k + 2 * g.toInt)
  rw [← Int64.toInt_inj, Int64.toInt_sub, Int64.toInt_mul, h1, h2, show (2 : Int64).toInt = 2 by decide, show (0 : Int64).toInt = 0 by decide, Int.bmod_eq_of_le (n := (k + 2 * g.toInt).tdiv 2 * 2) (by omega) (by omega), Int.bmod_eq_of_le (by omega) (by omega)]
  omega
theorem di_eq {g : Int64} {a b w : Nat} (hg : nb g (2 ^ 60)) (ha : a ≤ 5) (hb : b ≤ 12) : diM g (nI a) (nI b) w = diS g (nI a) (nI b) w := by
  have hk : a * (b + 1) < 66 := Nat.lt_of_le_of_lt (Nat.mul_le_mul ha (Nat.add_le_add_right hb 1)) (by decide)
  have e : nI a * (nI b + 1) = nI (a * (b + 1)) := by rw [show nI b + 1 = nI (b + 1) from nI_1 b, pk_mul]
  unfold diM diS
  rw [e]
  generalize a * (b + 1) = k at hk
  obtain ⟨q1, q2, q3⟩ := di_k k hk
  have q4 := di_e hg hk
  by_cases h0 : w = 0
  · rw [if_pos h0, if_pos h0, Int64.add_comm]
  · rw [if_neg h0, if_neg h0]
    by_cases h1 : w = 1
    · rw [if_pos h1, if_pos h1, Int64.add_comm]
    · rw [if_neg h1, if_neg h1]
      by_cases hp : k % 2 = 0
      · rw [if_pos (q4.mpr hp), if_pos (q4.mpr hp), if_pos (q1.mpr hp), if_pos (q1.mpr hp)]
        by_cases h2 : w = 2
        · rw [if_pos h2, if_pos h2, q2]
          apply Int64.toInt_inj.mp
          rw [di_h hg hk, Int64.toInt_add, (di_k (k / 2) (by omega)).2.2]
          unfold nb at hg
          have td := td2 (k + 2 * g.toInt)
          rw [Int.bmod_eq_of_le (by omega) (by omega)]
          omega
        · rw [if_neg h2, if_neg h2]
      · rw [if_neg (fun z => hp (q4.mp z)), if_neg (fun z => hp (q4.mp z)), if_neg (fun z => hp (q1.mp z)), if_neg (fun z => hp (q1.mp z))]
        by_cases h2 : w = 2
        · rw [if_pos h2, if_pos h2, Int64.add_comm, Int64.mul_comm]
        · rw [if_neg h2, if_neg h2]
set_option maxHeartbeats 400000 in
theorem j_dice {n : Nat} (hn6 : n < 600) {h : HP} {κ : Option Value → HP → Prop} {x y : Int32} (H : INV n h) (hk : ∀ v h2, JM M_X12_dice [.ref 54, .int x, .int y] n (.long v) h2 → κ (some (.long v)) h2) : CT E1 M_X11_dice [.ref 0, .int x, .int y] h κ := by
  obtain ⟨N, S, I, J, Q⟩ := h
  obtain ⟨D, nv, nr, ns, ad, td, e, H⟩ := H
  replace H : INVd n N S I J Q D nv nr ns ad td e := H
  obtain ⟨md, hm, hmd⟩ := H.md
  have X := H.2.2.1
  have M0 := H.m0
  have hn10 := X.2.1.nv
  have hn30 := X.2.1.nr
  have hs10 := X.2.1.ns
  have he1 := H.2.2.2.1
  have he : e + 1 < 2 ^ 30 := by omega
  refine c_X11_dice X hm hmd (fun b => hk _ _ (fun κ2 h2 => ?_)) (fun v hv ev k55 hin I1 J1 Q1 w1 X1 => hk _ _ (fun κ2 h2 => ?_)) (fun v hv ev k55 q hq eq nbg I1 J1 Q1 w1 X1 => hk _ _ (fun κ2 h2 => ?_))
  · exact c_X12_dice M0 hm hmd (fun _ => h2 _ (H.q WQ.rf X (MQu.rf M0))) (fun v hv ev k55 => absurd k55 (b v hv ev))
  · refine c_X12_dice (H.mod w1) hm hmd (fun _ => h2 _ (H.q w1 X1 (MQu.rf (H.mod w1)))) (fun v2 hv2 ev2 _ q hq eq => absurd (by rw [eq]; exact nI_in2 (n := 3) (by omega) (by decide)) hin)
  · refine c_X12_dice (H.mod w1) hm hmd (fun b => ?_) (fun v2 hv2 ev2 _ q2 hq2 eq2 I2 J2 m2 => ?_)
    · exfalso
      rcases b with z2 | z2
      · exact z2 v hv ev k55
      · exact z2 (by rw [eq]; exact nI_in2 (n := 3) (by omega) (by decide))
    obtain rfl : v2 = v := ixe (ev2.symm.trans ev) (by omega) (by omega)
    obtain rfl : q2 = q := ixe (eq2.symm.trans eq) (by omega) (by omega)
    obtain ⟨a, s, a1, a2, a3, a4, e1, e2⟩ := (X.2.1.2.2.1 v2 hv).2.2.2.1 k55
    rw [e1, e2] at h2 ⊢
    rw [di_eq nbg a2 a4]
    exact h2 _ (H.q w1 X1 m2)
