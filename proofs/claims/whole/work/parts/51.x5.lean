/-! ===== typed rules ===== -/
section BO
variable {D : Nat → Nat → Int32} {x : Int32} {g : Nat → Int64} {th v : Int32} {k t : Nat}
theorem mul_p (a : Int64) : a * (1 : Int32).toInt64 = a := by
  rw [show (1 : Int32).toInt64 = 1 by decide]; exact Int64.mul_one a
theorem mul_m (a : Int64) : a * (-1 : Int32).toInt64 = -a := by
  rw [show (-1 : Int32).toInt64 = -1 by decide, Int64.mul_neg, Int64.mul_one]
theorem neg_toInt {a : Int64} (h : a ≠ Int64.minValue) : (-a).toInt = -a.toInt := by
  have h1 : a.toInt ≠ -9223372036854775808 := fun e => h (Int64.toInt_inj.mp (e.trans (by decide)))
  have h2 := Int64.le_toInt a
  have h3 := Int64.toInt_lt a
  rw [Int64.toInt_neg]
  exact Int.bmod_eq_of_le (by omega) (by omega)
theorem neg_pos {a : Int64} (h : a ≠ Int64.minValue) : 0 < -a ↔ a < 0 := by
  rw [Int64.lt_iff_toInt_lt, Int64.lt_iff_toInt_lt, neg_toInt h, Int64.toInt_zero]; omega
theorem neg_lt {a b : Int64} (h : a ≠ Int64.minValue) (h2 : b ≠ Int64.minValue) : -a < -b ↔ b < a := by
  rw [Int64.lt_iff_toInt_lt, Int64.lt_iff_toInt_lt, neg_toInt h, neg_toInt h2]; omega
theorem boS_ct {t sg : Int32} : ∀ (k q : Nat), boS D x g th v t sg k = some q → ctB D x g th q v = true
  | 0, q, h => by simp [boS] at h
  | k + 1, q, h => by
    by_cases hc : ctB D x g th k v = true ∧ D 60 k = 1 ∧ D 64 k = t ∧ 0 < amt D g k * sg.toInt64
    · cases hb : boS D x g th v t sg k with
      | none => rw [boS_s1 hc hb] at h; rw [← Option.some.inj h]; exact hc.1
      | some z =>
        by_cases hl : amt D g z * sg.toInt64 < amt D g k * sg.toInt64
        · rw [boS_s2 hc hb hl] at h; rw [← Option.some.inj h]; exact hc.1
        · rw [boS_s3 hc hb hl] at h; rw [← Option.some.inj h]; exact boS_ct k z hb
    · rw [boS_s0 hc] at h; exact boS_ct k q h
theorem ct_Pv {r : Nat} (h : ctB D x g th r v = true) : Pv D x g th v r = true := by
  unfold ctB at h; rw [Bool.and_eq_true] at h; exact adB_Pv h.1
theorem boS_skip {t sg : Int32} {k r : Nat} (h : k ≤ r) (hs : ∀ j, k ≤ j → j < r → ctB D x g th j v = false) : boS D x g th v t sg k = boS D x g th v t sg r := by
  induction r with
  | zero => obtain rfl : k = 0 := by omega
            rfl
  | succ r ih =>
    by_cases e : k = r + 1
    · rw [e]
    · rw [boS_s0 (fun z => by rw [hs r (by omega) (by omega)] at z; exact absurd z.1 (by decide))]
      exact ih (by omega) (fun j h1 h2 => hs j h1 (by omega))
theorem bo_p1 (hc : ctB D x g th k v = true) (h1 : D 60 k = 1) (h6 : D 64 k = nI t) (hp : 0 < amt D g k) (hq : ∀ q, boS D x g th v (nI t) 1 k = some q → amt D g q < amt D g k) : boS D x g th v (nI t) 1 (k + 1) = some k := by
  have h : ctB D x g th k v = true ∧ D 60 k = 1 ∧ D 64 k = nI t ∧ 0 < amt D g k * (1 : Int32).toInt64 := ⟨hc, h1, h6, by rw [mul_p]; exact hp⟩
  cases hb : boS D x g th v (nI t) 1 k with
  | none => exact boS_s1 h hb
  | some q => exact boS_s2 h hb (by rw [mul_p, mul_p]; exact hq q hb)
theorem bo_p2 {q : Nat} (hc : ctB D x g th k v = true) (h1 : D 60 k = 1) (h6 : D 64 k = nI t) (hp : 0 < amt D g k) (hb : boS D x g th v (nI t) 1 k = some q) (hq : ¬ amt D g q < amt D g k) : boS D x g th v (nI t) 1 (k + 1) = boS D x g th v (nI t) 1 k := by
  have h : ctB D x g th k v = true ∧ D 60 k = 1 ∧ D 64 k = nI t ∧ 0 < amt D g k * (1 : Int32).toInt64 := ⟨hc, h1, h6, by rw [mul_p]; exact hp⟩
  rw [boS_s3 h hb (by rw [mul_p, mul_p]; exact hq), hb]
theorem bo_p0 (hp : ¬ 0 < amt D g k) : boS D x g th v (nI t) 1 (k + 1) = boS D x g th v (nI t) 1 k := boS_s0 (fun z => hp (by rw [← mul_p (amt D g k)]; exact z.2.2.2))
theorem bo_n1 (hm : amt D g k ≠ Int64.minValue) (hc : ctB D x g th k v = true) (h1 : D 60 k = 1) (h6 : D 64 k = nI t) (hp : amt D g k < 0) (hq : ∀ q, boS D x g th v (nI t) (-1) k = some q → amt D g q ≠ Int64.minValue ∧ amt D g k < amt D g q) : boS D x g th v (nI t) (-1) (k + 1) = some k := by
  have h : ctB D x g th k v = true ∧ D 60 k = 1 ∧ D 64 k = nI t ∧ 0 < amt D g k * (-1 : Int32).toInt64 := ⟨hc, h1, h6, by rw [mul_m, neg_pos hm]; exact hp⟩
  cases hb : boS D x g th v (nI t) (-1) k with
  | none => exact boS_s1 h hb
  | some q => exact boS_s2 h hb (by rw [mul_m, mul_m, neg_lt (hq q hb).1 hm]; exact (hq q hb).2)
theorem bo_n2 {q : Nat} (hm : amt D g k ≠ Int64.minValue) (hm2 : amt D g q ≠ Int64.minValue) (hc : ctB D x g th k v = true) (h1 : D 60 k = 1) (h6 : D 64 k = nI t) (hp : amt D g k < 0) (hb : boS D x g th v (nI t) (-1) k = some q) (hq : ¬ amt D g k < amt D g q) : boS D x g th v (nI t) (-1) (k + 1) = boS D x g th v (nI t) (-1) k := by
  have h : ctB D x g th k v = true ∧ D 60 k = 1 ∧ D 64 k = nI t ∧ 0 < amt D g k * (-1 : Int32).toInt64 := ⟨hc, h1, h6, by rw [mul_m, neg_pos hm]; exact hp⟩
  rw [boS_s3 h hb (by rw [mul_m, mul_m, neg_lt hm2 hm]; exact hq), hb]
theorem bo_n0 (hm : amt D g k ≠ Int64.minValue) (hp : ¬ amt D g k < 0) : boS D x g th v (nI t) (-1) (k + 1) = boS D x g th v (nI t) (-1) k := boS_s0 (fun z => hp (by rw [← neg_pos hm, ← mul_m]; exact z.2.2.2))
theorem bo_t {u : Nat} {sg : Int32} (hu : u < 1000) (ht : t < 1000) (h6 : D 64 k = nI t) (hne : u ≠ t) : boS D x g th v (nI u) sg (k + 1) = boS D x g th v (nI u) sg k := boS_s0 (fun z => hne ((nI_eq (by omega) (by omega)).mp (z.2.2.1.symm.trans h6)))
theorem bo_k {u sg : Int32} (h1 : D 60 k ≠ 1) : boS D x g th v u sg (k + 1) = boS D x g th v u sg k := boS_s0 (fun z => h1 z.2.1)
theorem bo_c {u sg : Int32} (hc : ctB D x g th k v = false) : boS D x g th v u sg (k + 1) = boS D x g th v u sg k := boS_s0 (fun z => by rw [hc] at z; exact absurd z.1 (by decide))
theorem hwA_pl {nr r : Nat} (h : plB D r = true) : hwA D x g th v nr r = hwM D x g th v r ∧ btA D x g th v nr r = btM D x g th v r := by
  unfold hwA hwM btA btM; rw [h]
  constructor
  · split <;> rfl
  · split <;> rfl
theorem hwA_ne {nr r : Nat} (h : foS D x g th r v ≠ r) : hwA D x g th v nr r = hwM D x g th v r ∧ btA D x g th v nr r = btM D x g th v r := by
  unfold hwA hwM btA btM; rw [if_neg h, if_neg h, if_neg h, if_neg h]; exact ⟨rfl, rfl⟩
theorem hwA_me {nr r : Nat} (h : bst D x g th v nr r = some r) : hwA D x g th v nr r = hwM D x g th v r ∧ btA D x g th v nr r = btM D x g th v r := by
  unfold hwA hwM btA btM; rw [h]
  constructor
  · split
    · split <;> simp
    · rfl
  · split
    · split <;> simp
    · rfl
theorem hwA_ot {nr r : Nat} (hf : foS D x g th r v = r) (hp : plB D r = false) (h : bst D x g th v nr r ≠ some r) : hwA D x g th v nr r = 4 ∧ btA D x g th v nr r = ixo (bst D x g th v nr r) := by
  unfold hwA btA; rw [if_pos hf, if_pos hf, hp, if_neg h, if_neg h]; exact ⟨rfl, rfl⟩
theorem hwM_2 {r : Nat} (h : hwM D x g th v r = 2) : foS D x g th r v = r := by
  unfold hwM at h
  by_cases e : foS D x g th r v = r
  · exact e
  · rw [if_neg e] at h; exact absurd h (by decide)
theorem hwM_n {r : Nat} (h : hwM D x g th v r ≠ 2) : foS D x g th r v ≠ r := fun e => h (by unfold hwM; rw [if_pos e])
end BO
theorem ixo_some {o : Option Nat} (h : ixo o ≠ -1) : ∃ q, o = some q := by
  cases o with
  | none => exact absurd rfl h
  | some q => exact ⟨q, rfl⟩
/-- the first loop of beatTyped() -/
def T1 (I I' : Nat → Nat → Int32) (D : Nat → Nat → Int32) (x : Int32) (g : Nat → Int64) (th v : Int32) (k : Nat) : Prop :=
  FH I I' ∧ I' 27 = I 27 ∧ I' 28 = I 28 ∧ I' 24 5 = I 24 5 ∧ ∀ t, 1 ≤ t → t ≤ 5 → I' 34 t = ixo (boS D x g th v (nI t) 1 k) ∧ I' 35 t = ixo (boS D x g th v (nI t) (-1) k)
section T1
variable {I I' : Nat → Nat → Int32} {D : Nat → Nat → Int32} {x : Int32} {g : Nat → Int64} {th v : Int32} {k r t : Nat}
theorem T1.skip (h : T1 I I' D x g th v k) (hk : k ≤ r) (hs : ∀ j, k ≤ j → j < r → ctB D x g th j v = false) : T1 I I' D x g th v r :=
  ⟨h.1, h.2.1, h.2.2.1, h.2.2.2.1, fun t a b => by rw [← boS_skip hk hs, ← boS_skip hk hs]; exact h.2.2.2.2 t a b⟩
theorem T1.same (h : T1 I I' D x g th v k) (hs : ∀ t sg, 1 ≤ t → t ≤ 5 → (sg = 1 ∨ sg = -1) → boS D x g th v (nI t) sg (k + 1) = boS D x g th v (nI t) sg k) : T1 I I' D x g th v (k + 1) :=
  ⟨h.1, h.2.1, h.2.2.1, h.2.2.2.1, fun t a b => by rw [hs t 1 a b (Or.inl rfl), hs t (-1) a b (Or.inr rfl)]; exact h.2.2.2.2 t a b⟩
theorem T1.s34 (h : T1 I I' D x g th v k) (ht : t ≤ 5) (h6 : D 64 k = nI t) (e1 : boS D x g th v (nI t) 1 (k + 1) = some k) (e2 : boS D x g th v (nI t) (-1) (k + 1) = boS D x g th v (nI t) (-1) k) : T1 I (up2 I' 34 t (nI k)) D x g th v (k + 1) :=
  ⟨h.1.up (by decide), (up2_o (by decide)).trans h.2.1, (up2_o (by decide)).trans h.2.2.1, (up2_d (by decide)).trans h.2.2.2.1, fun u a b => by
    by_cases e : u = t
    · subst e; rw [up2_s, e1, up2_d (by decide), e2]; exact ⟨rfl, (h.2.2.2.2 u a b).2⟩
    · rw [up2_e e, up2_d (by decide), bo_t (by omega) (by omega) h6 e, bo_t (by omega) (by omega) h6 e]; exact h.2.2.2.2 u a b⟩
theorem T1.s35 (h : T1 I I' D x g th v k) (ht : t ≤ 5) (h6 : D 64 k = nI t) (e1 : boS D x g th v (nI t) 1 (k + 1) = boS D x g th v (nI t) 1 k) (e2 : boS D x g th v (nI t) (-1) (k + 1) = some k) : T1 I (up2 I' 35 t (nI k)) D x g th v (k + 1) :=
  ⟨h.1.up (by decide), (up2_o (by decide)).trans h.2.1, (up2_o (by decide)).trans h.2.2.1, (up2_d (by decide)).trans h.2.2.2.1, fun u a b => by
    by_cases e : u = t
    · subst e; rw [up2_s, e2, up2_d (by decide), e1]; exact ⟨(h.2.2.2.2 u a b).1, rfl⟩
    · rw [up2_e e, up2_d (by decide), bo_t (by omega) (by omega) h6 e, bo_t (by omega) (by omega) h6 e]; exact h.2.2.2.2 u a b⟩
theorem T1.s0 (h : T1 I I' D x g th v k) (ht : t ≤ 5) (h6 : D 64 k = nI t) (e1 : boS D x g th v (nI t) 1 (k + 1) = boS D x g th v (nI t) 1 k) (e2 : boS D x g th v (nI t) (-1) (k + 1) = boS D x g th v (nI t) (-1) k) : T1 I I' D x g th v (k + 1) :=
  h.same (fun u sg a b hs => by
    by_cases e : u = t
    · subst e
      rcases hs with rfl | rfl
      · exact e1
      · exact e2
    · exact bo_t (by omega) (by omega) h6 e)
end T1
/-- the second loop -/
def T2 (I I' : Nat → Nat → Int32) (D : Nat → Nat → Int32) (x : Int32) (g : Nat → Int64) (th v : Int32) (nr k : Nat) : Prop :=
  FH I I' ∧ RV I I' (fun r => adB D x g th r v) (hwA D x g th v nr) (btA D x g th v nr) k ∧ I' 24 5 = I 24 5 ∧ I' 34 = I 34 ∧ I' 35 = I 35
theorem T2.skip {I I' : Nat → Nat → Int32} {D : Nat → Nat → Int32} {x : Int32} {g : Nat → Int64} {th v : Int32} {nr k r : Nat} (h : T2 I I' D x g th v nr k) (hk : k ≤ r) (hs : ∀ j, k ≤ j → j < r → adB D x g th j v = false) : T2 I I' D x g th v nr r := ⟨h.1, h.2.1.skip hk hs, h.2.2⟩
/-- what beatTyped() leaves -/
def BT (I I' : Nat → Nat → Int32) (D : Nat → Nat → Int32) (x : Int32) (g : Nat → Int64) (th v : Int32) (nr : Nat) : Prop :=
  FH I I' ∧ RV I I' (fun r => adB D x g th r v) (hwA D x g th v nr) (btA D x g th v nr) nr ∧ I' 24 5 = I 24 5
theorem adB_kind {D : Nat → Nat → Int32} {x : Int32} {g : Nat → Int64} {th v : Int32} {r : Nat} (h : adB D x g th r v = true) : D 60 r = 0 ∨ D 60 r = 1 := by
  unfold adB at h
  rw [Bool.or_eq_true] at h
  rcases h with h | h
  · exact Or.inl (wk_inv h).1
  · exact Or.inr (wk_inv h).1
theorem adS_skip {D : Nat → Nat → Int32} {x : Int32} {g : Nat → Int64} {th v : Int32} {nr k r : Nat} (h : k ≤ r) (hs : ∀ j, k ≤ j → j < r → adB D x g th j v = false) : adS D x g th v nr k = adS D x g th v nr r := by
  induction r with
  | zero => obtain rfl : k = 0 := by omega
            rfl
  | succ r ih =>
    by_cases e : k = r + 1
    · rw [e]
    · rw [ih (by omega) (fun j h1 h2 => hs j h1 (by omega)), adS]
      unfold adC
      rw [hs r (by omega) (by omega)]
      simp
theorem adC_2 {D : Nat → Nat → Int32} {x : Int32} {g : Nat → Int64} {th v : Int32} {nr r : Nat} (ha : adB D x g th r v = true) (h : hwA D x g th v nr r = 2) : adC D x g th v nr r = amt D g r := by
  unfold adC; rw [if_pos ha]
  unfold hwA at h
  by_cases e : foS D x g th r v = r
  · rw [if_pos e] at h ⊢
    by_cases p : plB D r = true
    · rw [if_pos p]
    · rw [if_neg p] at h ⊢
      by_cases b : bst D x g th v nr r = some r
      · rw [if_pos b]
      · rw [if_neg b] at h; exact absurd h (by decide)
  · rw [if_neg e] at h; exact absurd h (by decide)
theorem adC_n {D : Nat → Nat → Int32} {x : Int32} {g : Nat → Int64} {th v : Int32} {nr r : Nat} (h : hwA D x g th v nr r ≠ 2) : adC D x g th v nr r = 0 := by
  unfold adC
  unfold hwA at h
  by_cases ha : adB D x g th r v = true
  · rw [if_pos ha]
    by_cases e : foS D x g th r v = r
    · rw [if_pos e] at h ⊢
      by_cases p : plB D r = true
      · rw [if_pos p] at h; exact absurd rfl h
      · rw [if_neg p] at h ⊢
        by_cases b : bst D x g th v nr r = some r
        · rw [if_pos b] at h; exact absurd rfl h
        · rw [if_neg b]
    · rw [if_neg e]
  · rw [if_neg ha]
theorem c_X5_compare {N : Nat} {S : Nat → Nat × Nat} {I : Nat → Nat → Int32} {J : Nat → Nat → Int64} {Q : Nat → Nat → Option Nat} {κ : Option Value → HP → Prop} {D : Nat → Nat → Int32} {ad td : Nat → Nat} {r t : Nat} (R : RO N S I Q D r (ad r) (td r)) (hr : r < 30) (ht1 : D 60 r = 1) (ht2 : D 64 r = nI t) (ht5 : t ≤ 5) {o1 o2 : Option Nat} (hb1 : ∀ q, o1 = some q → q < 30) (hb2 : ∀ q, o2 = some q → q < 30) (h34 : I 34 t = ixo o1) (h35 : I 35 t = ixo o2) (k1 : 0 < J 26 r → (∀ q, o1 = some q → J 26 q < J 26 r) → κ none (N, S, up2 I 34 t (nI r), J, Q)) (k2 : 0 < J 26 r → ∀ q, o1 = some q → ¬ J 26 q < J 26 r → κ none (N, S, I, J, Q)) (k3 : J 26 r < 0 → (∀ q, o2 = some q → J 26 r < J 26 q) → κ none (N, S, up2 I 35 t (nI r), J, Q)) (k4 : J 26 r < 0 → ∀ q, o2 = some q → ¬ J 26 r < J 26 q → κ none (N, S, I, J, Q)) (k5 : ¬ 0 < J 26 r → ¬ J 26 r < 0 → κ none (N, S, I, J, Q)) : CT E1 M_X5_compare [.ref 24, .ref (ad r)] (N, S, I, J, Q) κ := by
  refine ofSP mk_X5_compare (Nat.le_of_ble_eq_true rfl) (L := [.ref 24, .ref _, .retAddr _, .retAddr _, .retAddr _, .retAddr _]) rfl ?_
  refine s_aload_n (pc' := 1) dX5_compare_0 rfl rfl ?_
  refine s_getS (pc' := 4) (b := 26) dX5_compare_1 rfl (by decide) rfl (by decide) fa_X5_15_5 rfl rfl ?_
  refine s_aload_n (pc' := 5) dX5_compare_4 rfl rfl ?_
  refine t_getI (pc' := 8) dX5_compare_5 rfl (kc1 ht1 R.sh) (by decide) fa_X5_177_10 rfl ?_
  refine t_lald (pc' := 9) (q := r) dX5_compare_8 rfl sh_26 R.f1 hr ?_
  refine t_lstore_n (pc' := 10) (L' := [.ref 24, .ref _, .long _, .retAddr _, .retAddr _, .retAddr _]) dX5_compare_9 rfl (Nat.le_of_ble_eq_true rfl) rfl ?_
  refine s_aload_n (pc' := 11) dX5_compare_10 rfl rfl ?_
  refine s_getS (pc' := 14) (b := 34) dX5_compare_11 rfl (by decide) rfl (by decide) fa_X5_56_5 rfl rfl ?_
  refine s_aload_n (pc' := 15) dX5_compare_14 rfl rfl ?_
  refine t_getI (pc' := 18) dX5_compare_15 rfl (kc1 ht1 R.sh) (by decide) fa_X5_185_10 rfl ?_
  refine t_iald (pc' := 19) (q := t) dX5_compare_18 rfl sh_34 (by rw [R.f10 ht1]; exact ht2) (by omega) ?_
  refine t_istore (pc' := 21) (L' := [.ref 24, .ref _, .long _, .retAddr _, .int _, .retAddr _]) dX5_compare_19 rfl (Nat.le_of_ble_eq_true rfl) rfl ?_
  refine s_aload_n (pc' := 22) dX5_compare_21 rfl rfl ?_
  refine s_getS (pc' := 25) (b := 35) dX5_compare_22 rfl (by decide) rfl (by decide) fa_X5_59_5 rfl rfl ?_
  refine s_aload_n (pc' := 26) dX5_compare_25 rfl rfl ?_
  refine t_getI (pc' := 29) dX5_compare_26 rfl (kc1 ht1 R.sh) (by decide) fa_X5_185_10 rfl ?_
  refine t_iald (pc' := 30) (q := t) dX5_compare_29 rfl sh_35 (by rw [R.f10 ht1]; exact ht2) (by omega) ?_
  refine t_istore (pc' := 32) (L' := [.ref 24, .ref _, .long _, .retAddr _, .int _, .int _]) dX5_compare_30 rfl (Nat.le_of_ble_eq_true rfl) rfl ?_
  refine s_lload_n (pc' := 33) dX5_compare_32 rfl rfl ?_
  refine s_lconst (pc' := 34) (v := 0) dX5_compare_33 rfl (by decide) ?_
  refine s_lcmp (pc' := 35) dX5_compare_34 rfl ?_
  refine s_ifle (pc' := 38) (tgt := 69) dX5_compare_35 (by decide) rfl (fun c35 => ?_) (fun c35 => ?_)
  · refine s_lload_n (pc' := 70) dX5_compare_69 rfl rfl ?_
    refine s_lconst (pc' := 71) (v := 0) dX5_compare_70 rfl (by decide) ?_
    refine s_lcmp (pc' := 72) dX5_compare_71 rfl ?_
    refine s_ifge (pc' := 75) (tgt := 106) dX5_compare_72 (by decide) rfl (fun c72 => ?_) (fun c72 => ?_)
    · exact s_vret dX5_compare_106 rfl (by decide) (by decide) (k5 (fun z => Int64.not_lt.mpr ((lg_cmp_le _ _).mp c35) z) (fun z => Int64.not_lt.mpr ((lg_cmp_ge _ _).mp c72) z))
    · refine s_iload (pc' := 77) dX5_compare_75 rfl rfl ?_
      refine s_iconst (pc' := 78) (v := -1) dX5_compare_77 rfl (by decide) ?_
      refine s_icmpeq (pc' := 81) (tgt := 93) dX5_compare_78 (by decide) rfl (fun c78 => ?_) (fun c78 => ?_)
      · refine s_aload_n (pc' := 94) dX5_compare_93 rfl rfl ?_
        refine s_getS (pc' := 97) (b := 35) dX5_compare_94 rfl (by decide) rfl (by decide) fa_X5_59_5 rfl rfl ?_
        refine s_aload_n (pc' := 98) dX5_compare_97 rfl rfl ?_
        refine t_getI (pc' := 101) dX5_compare_98 rfl (kc1 ht1 R.sh) (by decide) fa_X5_185_10 rfl ?_
        refine s_aload_n (pc' := 102) dX5_compare_101 rfl rfl ?_
        refine t_getI (pc' := 105) dX5_compare_102 rfl (kc1 ht1 R.sh) (by decide) fa_X5_177_10 rfl ?_
        rw [R.f1]
        refine t_iast (pc' := 106) (q := t) dX5_compare_105 rfl sh_35 (by rw [R.f10 ht1]; exact ht2) (by omega) ?_
        exact s_vret dX5_compare_106 rfl (by decide) (by decide) (k3 (Int64.not_le.mp (fun z => c72 ((lg_cmp_ge _ _).mpr z))) (fun q hq => by rw [ixo_none (fun q hq => by have := hb2 q hq; omega) (h35.symm.trans c78)] at hq; cases hq))
      · obtain ⟨q2, hq2⟩ := ixo_some (by rw [← h35]; exact c78)
        refine s_lload_n (pc' := 82) dX5_compare_81 rfl rfl ?_
        refine s_aload_n (pc' := 83) dX5_compare_82 rfl rfl ?_
        refine s_getS (pc' := 86) (b := 26) dX5_compare_83 rfl (by decide) rfl (by decide) fa_X5_15_5 rfl rfl ?_
        refine s_iload (pc' := 88) dX5_compare_86 rfl rfl ?_
        refine t_lald (pc' := 89) (q := q2) dX5_compare_88 rfl sh_26 (by rw [h35, hq2]; rfl) (hb2 q2 hq2) ?_
        refine s_lcmp (pc' := 90) dX5_compare_89 rfl ?_
        refine s_ifge (pc' := 93) (tgt := 106) dX5_compare_90 (by decide) rfl (fun c90 => ?_) (fun c90 => ?_)
        · exact s_vret dX5_compare_106 rfl (by decide) (by decide) (k4 (Int64.not_le.mp (fun z => c72 ((lg_cmp_ge _ _).mpr z))) q2 hq2 (fun z => by rw [lg_cmp_ge] at c90; exact Int64.not_le.mpr z c90))
        · refine s_aload_n (pc' := 94) dX5_compare_93 rfl rfl ?_
          refine s_getS (pc' := 97) (b := 35) dX5_compare_94 rfl (by decide) rfl (by decide) fa_X5_59_5 rfl rfl ?_
          refine s_aload_n (pc' := 98) dX5_compare_97 rfl rfl ?_
          refine t_getI (pc' := 101) dX5_compare_98 rfl (kc1 ht1 R.sh) (by decide) fa_X5_185_10 rfl ?_
          refine s_aload_n (pc' := 102) dX5_compare_101 rfl rfl ?_
          refine t_getI (pc' := 105) dX5_compare_102 rfl (kc1 ht1 R.sh) (by decide) fa_X5_177_10 rfl ?_
          rw [R.f1]
          refine t_iast (pc' := 106) (q := t) dX5_compare_105 rfl sh_35 (by rw [R.f10 ht1]; exact ht2) (by omega) ?_
          exact s_vret dX5_compare_106 rfl (by decide) (by decide) (k3 (Int64.not_le.mp (fun z => c72 ((lg_cmp_ge _ _).mpr z))) (fun q hq => by rw [hq2] at hq; rw [← Option.some.inj hq]; rw [lg_cmp_ge] at c90; exact Int64.not_le.mp c90))
  · refine s_iload (pc' := 40) dX5_compare_38 rfl rfl ?_
    refine s_iconst (pc' := 41) (v := -1) dX5_compare_40 rfl (by decide) ?_
    refine s_icmpeq (pc' := 44) (tgt := 56) dX5_compare_41 (by decide) rfl (fun c41 => ?_) (fun c41 => ?_)
    · refine s_aload_n (pc' := 57) dX5_compare_56 rfl rfl ?_
      refine s_getS (pc' := 60) (b := 34) dX5_compare_57 rfl (by decide) rfl (by decide) fa_X5_56_5 rfl rfl ?_
      refine s_aload_n (pc' := 61) dX5_compare_60 rfl rfl ?_
      refine t_getI (pc' := 64) dX5_compare_61 rfl (kc1 ht1 R.sh) (by decide) fa_X5_185_10 rfl ?_
      refine s_aload_n (pc' := 65) dX5_compare_64 rfl rfl ?_
      refine t_getI (pc' := 68) dX5_compare_65 rfl (kc1 ht1 R.sh) (by decide) fa_X5_177_10 rfl ?_
      rw [R.f1]
      refine t_iast (pc' := 69) (q := t) dX5_compare_68 rfl sh_34 (by rw [R.f10 ht1]; exact ht2) (by omega) ?_
      refine s_lload_n (pc' := 70) dX5_compare_69 rfl rfl ?_
      refine s_lconst (pc' := 71) (v := 0) dX5_compare_70 rfl (by decide) ?_
      refine s_lcmp (pc' := 72) dX5_compare_71 rfl ?_
      refine s_ifgeT (tgt := 106) dX5_compare_72 (by decide) ((lg_cmp_ge _ _).mpr (Int64.le_of_lt (Int64.not_le.mp (fun z => c35 ((lg_cmp_le _ _).mpr z))))) ?_
      exact s_vret dX5_compare_106 rfl (by decide) (by decide) (k1 (Int64.not_le.mp (fun z => c35 ((lg_cmp_le _ _).mpr z))) (fun q hq => by rw [ixo_none (fun q hq => by have := hb1 q hq; omega) (h34.symm.trans c41)] at hq; cases hq))
    · obtain ⟨q1, hq1⟩ := ixo_some (by rw [← h34]; exact c41)
      refine s_lload_n (pc' := 45) dX5_compare_44 rfl rfl ?_
      refine s_aload_n (pc' := 46) dX5_compare_45 rfl rfl ?_
      refine s_getS (pc' := 49) (b := 26) dX5_compare_46 rfl (by decide) rfl (by decide) fa_X5_15_5 rfl rfl ?_
      refine s_iload (pc' := 51) dX5_compare_49 rfl rfl ?_
      refine t_lald (pc' := 52) (q := q1) dX5_compare_51 rfl sh_26 (by rw [h34, hq1]; rfl) (hb1 q1 hq1) ?_
      refine s_lcmp (pc' := 53) dX5_compare_52 rfl ?_
      refine s_ifle (pc' := 56) (tgt := 69) dX5_compare_53 (by decide) rfl (fun c53 => ?_) (fun c53 => ?_)
      · refine s_lload_n (pc' := 70) dX5_compare_69 rfl rfl ?_
        refine s_lconst (pc' := 71) (v := 0) dX5_compare_70 rfl (by decide) ?_
        refine s_lcmp (pc' := 72) dX5_compare_71 rfl ?_
        refine s_ifgeT (tgt := 106) dX5_compare_72 (by decide) ((lg_cmp_ge _ _).mpr (Int64.le_of_lt (Int64.not_le.mp (fun z => c35 ((lg_cmp_le _ _).mpr z))))) ?_
        exact s_vret dX5_compare_106 rfl (by decide) (by decide) (k2 (Int64.not_le.mp (fun z => c35 ((lg_cmp_le _ _).mpr z))) q1 hq1 (fun z => by rw [lg_cmp_le] at c53; exact Int64.not_le.mpr z c53))
      · refine s_aload_n (pc' := 57) dX5_compare_56 rfl rfl ?_
        refine s_getS (pc' := 60) (b := 34) dX5_compare_57 rfl (by decide) rfl (by decide) fa_X5_56_5 rfl rfl ?_
        refine s_aload_n (pc' := 61) dX5_compare_60 rfl rfl ?_
        refine t_getI (pc' := 64) dX5_compare_61 rfl (kc1 ht1 R.sh) (by decide) fa_X5_185_10 rfl ?_
        refine s_aload_n (pc' := 65) dX5_compare_64 rfl rfl ?_
        refine t_getI (pc' := 68) dX5_compare_65 rfl (kc1 ht1 R.sh) (by decide) fa_X5_177_10 rfl ?_
        rw [R.f1]
        refine t_iast (pc' := 69) (q := t) dX5_compare_68 rfl sh_34 (by rw [R.f10 ht1]; exact ht2) (by omega) ?_
        refine s_lload_n (pc' := 70) dX5_compare_69 rfl rfl ?_
        refine s_lconst (pc' := 71) (v := 0) dX5_compare_70 rfl (by decide) ?_
        refine s_lcmp (pc' := 72) dX5_compare_71 rfl ?_
        refine s_ifgeT (tgt := 106) dX5_compare_72 (by decide) ((lg_cmp_ge _ _).mpr (Int64.le_of_lt (Int64.not_le.mp (fun z => c35 ((lg_cmp_le _ _).mpr z))))) ?_
        exact s_vret dX5_compare_106 rfl (by decide) (by decide) (k1 (Int64.not_le.mp (fun z => c35 ((lg_cmp_le _ _).mpr z))) (fun q hq => by rw [hq1] at hq; rw [← Option.some.inj hq]; rw [lg_cmp_le] at c53; exact Int64.not_le.mp c53))
theorem c_X5_bestLike {N : Nat} {S : Nat → Nat × Nat} {I : Nat → Nat → Int32} {J : Nat → Nat → Int64} {Q : Nat → Nat → Option Nat} {κ : Option Value → HP → Prop} {D : Nat → Nat → Int32} {ad td : Nat → Nat} {r t : Nat} (R : RO N S I Q D r (ad r) (td r)) (hr : r < 30) (ht1 : D 60 r = 1) (ht2 : D 64 r = nI t) (ht5 : t ≤ 5) (k0 : J 26 r = 0 → κ (some (.int (-1))) (N, S, I, J, Q)) (k1 : 0 < J 26 r → κ (some (.int (I 34 t))) (N, S, I, J, Q)) (k2 : J 26 r < 0 → κ (some (.int (I 35 t))) (N, S, I, J, Q)) : CT E1 M_X5_bestLike [.ref 24, .ref (ad r)] (N, S, I, J, Q) κ := by
  refine ofSP mk_X5_bestLike (Nat.le_of_ble_eq_true rfl) (L := [.ref 24, .ref _, .retAddr _, .retAddr _]) rfl ?_
  refine s_aload_n (pc' := 1) dX5_bestLike_0 rfl rfl ?_
  refine s_getS (pc' := 4) (b := 26) dX5_bestLike_1 rfl (by decide) rfl (by decide) fa_X5_15_5 rfl rfl ?_
  refine s_aload_n (pc' := 5) dX5_bestLike_4 rfl rfl ?_
  refine t_getI (pc' := 8) dX5_bestLike_5 rfl (kc1 ht1 R.sh) (by decide) fa_X5_177_10 rfl ?_
  refine t_lald (pc' := 9) (q := r) dX5_bestLike_8 rfl sh_26 R.f1 hr ?_
  refine t_lstore_n (pc' := 10) (L' := [.ref 24, .ref _, .long _, .retAddr _]) dX5_bestLike_9 rfl (Nat.le_of_ble_eq_true rfl) rfl ?_
  refine s_lload_n (pc' := 11) dX5_bestLike_10 rfl rfl ?_
  refine s_lconst (pc' := 12) (v := 0) dX5_bestLike_11 rfl (by decide) ?_
  refine s_lcmp (pc' := 13) dX5_bestLike_12 rfl ?_
  refine s_ifne (pc' := 16) (tgt := 18) dX5_bestLike_13 (by decide) rfl (fun c13 => ?_) (fun c13 => ?_)
  · refine s_lload_n (pc' := 19) dX5_bestLike_18 rfl rfl ?_
    refine s_lconst (pc' := 20) (v := 0) dX5_bestLike_19 rfl (by decide) ?_
    refine s_lcmp (pc' := 21) dX5_bestLike_20 rfl ?_
    refine s_ifle (pc' := 24) (tgt := 36) dX5_bestLike_21 (by decide) rfl (fun c21 => ?_) (fun c21 => ?_)
    · refine s_aload_n (pc' := 37) dX5_bestLike_36 rfl rfl ?_
      refine s_getS (pc' := 40) (b := 35) dX5_bestLike_37 rfl (by decide) rfl (by decide) fa_X5_59_5 rfl rfl ?_
      refine s_aload_n (pc' := 41) dX5_bestLike_40 rfl rfl ?_
      refine t_getI (pc' := 44) dX5_bestLike_41 rfl (kc1 ht1 R.sh) (by decide) fa_X5_185_10 rfl ?_
      refine t_iald (pc' := 45) (q := t) dX5_bestLike_44 rfl sh_35 (by rw [R.f10 ht1]; exact ht2) (by omega) ?_
      exact s_iret dX5_bestLike_45 rfl (by decide) (by decide) (k2 (by rw [lg_cmp_le] at c21; exact Int64.lt_of_le_of_ne c21 (fun z => c13 (by rw [lg_cmp_eq]; exact z))))
    · refine s_aload_n (pc' := 25) dX5_bestLike_24 rfl rfl ?_
      refine s_getS (pc' := 28) (b := 34) dX5_bestLike_25 rfl (by decide) rfl (by decide) fa_X5_56_5 rfl rfl ?_
      refine s_aload_n (pc' := 29) dX5_bestLike_28 rfl rfl ?_
      refine t_getI (pc' := 32) dX5_bestLike_29 rfl (kc1 ht1 R.sh) (by decide) fa_X5_185_10 rfl ?_
      refine t_iald (pc' := 33) (q := t) dX5_bestLike_32 rfl sh_34 (by rw [R.f10 ht1]; exact ht2) (by omega) ?_
      refine s_goto (tgt := 45) dX5_bestLike_33 (by decide) ?_
      exact s_iret dX5_bestLike_45 rfl (by decide) (by decide) (k1 (by rw [lg_cmp_le] at c21; exact Int64.not_le.mp c21))
  · refine s_iconst (pc' := 17) (v := -1) dX5_bestLike_16 rfl (by decide) ?_
    exact s_iret dX5_bestLike_17 rfl (by decide) (by decide) (k0 (by rw [lg_cmp_eq] at c13; simpa using c13))
theorem l_X5_beatTyped1 {N : Nat} {S : Nat → Nat × Nat} {I : Nat → Nat → Int32} {J : Nat → Nat → Int64} {Q : Nat → Nat → Option Nat} {κ : Option Value → HP → Prop} {D : Nat → Nat → Int32} {nv nr ns : Nat} {ad td : Nat → Nat} (X : XS N S I Q D nv nr ns ad td 0) (hW : DW D nv nr ns) {v : Nat} {x th : Int32} (hv : v < nv) (G : GS I Q D x (J 25) th (nI v) nr ad) (hA : ∀ r, r < nr → Pv D x (J 25) th (nI v) r = true → J 26 r = amt D (J 25) r) (hM : ∀ r, r < nr → adB D x (J 25) th r (nI v) = true → I 27 r = hwM D x (J 25) th (nI v) r ∧ I 28 r = btM D x (J 25) th (nI v) r) (hmin : ∀ r, r < nr → Pv D x (J 25) th (nI v) r = true → amt D (J 25) r ≠ Int64.minValue) (hk : ∀ I', T1 I I' D x (J 25) th (nI v) nr → SP E1 M_X5_beatTyped κ 72 [.ref 24, .ref 1, .retAddr 0, .retAddr 0, .retAddr 0] [] (N, S, I', J, Q) 0 0) : ∀ d : Nat, ∀ k I', k ≤ nr → cntB (Pv D x (J 25) th (nI v)) k + d = cntB (Pv D x (J 25) th (nI v)) nr → T1 I I' D x (J 25) th (nI v) k → SP E1 M_X5_beatTyped κ 18 [.ref 24, .ref 1, .int (nI (cntB (Pv D x (J 25) th (nI v)) k)), .retAddr 0, .retAddr 0] [] (N, S, I', J, Q) 0 0 := by
  intro d
  induction d with
  | zero =>
    intro k I' hk2 hd hP
    have hn30 := hW.nr
    have G2 := G.fh hP.1
    replace hP := hP.skip hk2 (fun j a b => by unfold ctB; rw [adB_nP (cnt_end (nr - k) k (by omega) (by omega) j a b)]; rfl)
    refine s_iload_n (pc' := 19) dX5_beatTyped_18 rfl rfl ?_
    refine s_aload_n (pc' := 20) dX5_beatTyped_19 rfl rfl ?_
    refine t_getI (pc' := 23) dX5_beatTyped_20 rfl sh_24 (by decide) fa_X5_50_5 rfl ?_
    refine s_icmpgeT (tgt := 72) dX5_beatTyped_23 (by decide) (by rw [G2.1]; exact nI_le (by omega) (by have := cntB_le (Pv D x (J 25) th (nI v)) nr; omega)) ?_
    exact s_fg [2] rfl (hk I' hP)
  | succ d ih =>
    intro k I' hk2 hd hP
    have hn30 := hW.nr
    have G2 := G.fh hP.1
    have X2 := X.fr hP.1.fr
    obtain ⟨r, hr1, hr, hpr, hrc, hsk, hq32, hc1, hcl, hcn⟩ := G2.next hk2 hd
    have R := X2.ro hr
    have h94 := R.ge
    replace hP := hP.skip hr1 (fun j a b => by unfold ctB; rw [adB_nP (hsk j a b)]; rfl)
    rw [hrc]
    refine s_iload_n (pc' := 19) dX5_beatTyped_18 rfl rfl ?_
    refine s_aload_n (pc' := 20) dX5_beatTyped_19 rfl rfl ?_
    refine t_getI (pc' := 23) dX5_beatTyped_20 rfl sh_24 (by decide) fa_X5_50_5 rfl ?_
    refine s_icmpgeF (pc' := 26) (tgt := 72) dX5_beatTyped_23 (by decide) rfl (by rw [G2.1]; exact nI_ge (by omega) (by omega)) ?_
    refine s_aload_n (pc' := 27) dX5_beatTyped_26 rfl rfl ?_
    refine s_getS (pc' := 30) (b := 32) dX5_beatTyped_27 rfl (by decide) rfl (by decide) fa_X5_46_5 rfl rfl ?_
    refine s_iload_n (pc' := 31) dX5_beatTyped_30 rfl rfl ?_
    refine t_aald (pc' := 32) dX5_beatTyped_31 rfl (Or.inl rfl) sh_32 rfl (by omega) hq32 ?_
    refine t_astore (pc' := 34) (L' := [.ref 24, .ref 1, .int _, .retAddr _, .ref _]) dX5_beatTyped_32 rfl (Nat.le_of_ble_eq_true rfl) rfl ?_
    refine s_aload (pc' := 36) dX5_beatTyped_34 rfl rfl ?_
    refine i_typed (pc' := 39) dX5_beatTyped_36 rfl R.sh cl_X5_175 (fun k36 => ?_) (fun k36 => ?_)
    · refine s_ifeqF (pc' := 42) (tgt := 66) dX5_beatTyped_39 (by decide) rfl (by decide) ?_
      have ha : adB D x (J 25) th r (nI v) = true := by unfold adB; rw [Pv_wk hpr (c := 1) k36, Bool.or_true]
      obtain ⟨t, ht5, ht2, ht1⟩ := (hW.2.1 r hr).2.2.2.2.2.2.1
      replace ht1 := ht1 k36
      refine s_aload (pc' := 44) dX5_beatTyped_42 rfl rfl ?_
      refine i_castT (pc' := 47) dX5_beatTyped_44 rfl (kc1 k36 R.sh) cl_X5_175 ?_
      refine t_astore_n (pc' := 48) (L' := [.ref 24, .ref 1, .int _, .ref _, .ref _]) dX5_beatTyped_47 rfl (Nat.le_of_ble_eq_true rfl) rfl ?_
      refine s_aload_n (pc' := 49) dX5_beatTyped_48 rfl rfl ?_
      refine s_getS (pc' := 52) (b := 27) dX5_beatTyped_49 rfl (by decide) rfl (by decide) fa_X5_18_5 rfl rfl ?_
      refine s_aload_n (pc' := 53) dX5_beatTyped_52 rfl rfl ?_
      refine t_getI (pc' := 56) dX5_beatTyped_53 rfl (kc1 k36 R.sh) (by decide) fa_X5_177_10 rfl ?_
      refine t_iald (pc' := 57) (q := r) dX5_beatTyped_56 rfl sh_27 R.f1 (by omega) ?_
      refine s_iconst (pc' := 58) (v := 2) dX5_beatTyped_57 rfl (by decide) ?_
      refine s_icmpne (pc' := 61) (tgt := 66) dX5_beatTyped_58 (by decide) rfl (fun c58 => ?_) (fun c58 => ?_)
      · refine t_iinc (pc' := 69) (v := nI (cntB (Pv D x (J 25) th (nI v)) r + 1)) (L' := [.ref 24, .ref 1, .int _, .ref _, .ref _]) dX5_beatTyped_66 rfl rfl (nI_inc _) rfl ?_
        refine s_goto (tgt := 18) dX5_beatTyped_69 (by decide) ?_
        rw [hP.2.1, (hM r hr ha).1] at c58
        exact s_fg [3, 4] (by rw [hc1]; rfl) (ih (r + 1) _ (by omega) (by rw [hc1]; omega) (hP.same (fun _ _ _ _ _ => bo_c (by unfold ctB; rw [decide_eq_false (hwM_n c58), Bool.and_false]))))
      · rw [hP.2.1, (hM r hr ha).1] at c58
        have hf := hwM_2 (by simpa using c58)
        have ct : ctB D x (J 25) th r (nI v) = true := by unfold ctB; rw [ha, decide_eq_true hf]; rfl
        refine s_aload_n (pc' := 62) dX5_beatTyped_61 rfl rfl ?_
        refine s_aload_n (pc' := 63) dX5_beatTyped_62 rfl rfl ?_
        refine s_callV (pc' := 66) (As := [.ref _]) dX5_beatTyped_63 rfl mk_X5_compare ml_X5_178 im_X5_compare se_X5_X5_X5_compare sh_24 (by decide) rfl rfl rfl ⟨Nat.le_of_ble_eq_true rfl, Nat.le_of_ble_eq_true rfl, Nat.le_of_ble_eq_true rfl, Nat.le_of_ble_eq_true rfl⟩ (Nat.le_of_ble_eq_true rfl) (c_X5_compare R (by omega) k36 ht2 ht5 (o1 := boS D x (J 25) th (nI v) (nI t) 1 r) (o2 := boS D x (J 25) th (nI v) (nI t) (-1) r) (fun q hq => by have := boS_lt _ _ hq; omega) (fun q hq => by have := boS_lt _ _ hq; omega) (hP.2.2.2.2 t ht1 ht5).1 (hP.2.2.2.2 t ht1 ht5).2 (fun g63 e63 => ?_) (fun g63 q63 e63 f63 => ?_) (fun g63 e63 => ?_) (fun g63 q63 e63 f63 => ?_) (fun g63 e63 => ?_))
        · refine t_iinc (pc' := 69) (v := nI (cntB (Pv D x (J 25) th (nI v)) r + 1)) (L' := [.ref 24, .ref 1, .int _, .ref _, .ref _]) dX5_beatTyped_66 rfl rfl (nI_inc _) rfl ?_
          refine s_goto (tgt := 18) dX5_beatTyped_69 (by decide) ?_
          rw [hA r hr hpr] at g63
          exact s_fg [3, 4] (by rw [hc1]; rfl) (ih (r + 1) _ (by omega) (by rw [hc1]; omega) (hP.s34 ht5 ht2 (bo_p1 ct k36 ht2 g63 (fun q hq => by have z := e63 q hq; rw [hA q (by have := boS_lt _ _ hq; omega) (ct_Pv (boS_ct _ _ hq))] at z; exact (by rw [hA r hr hpr] at z; exact z))) (bo_n0 (hmin r hr hpr) (fun z => Int64.lt_irrefl (Int64.lt_trans z g63)))))
        · refine t_iinc (pc' := 69) (v := nI (cntB (Pv D x (J 25) th (nI v)) r + 1)) (L' := [.ref 24, .ref 1, .int _, .ref _, .ref _]) dX5_beatTyped_66 rfl rfl (nI_inc _) rfl ?_
          refine s_goto (tgt := 18) dX5_beatTyped_69 (by decide) ?_
          rw [hA r hr hpr] at g63
          rw [hA r hr hpr, hA q63 (by have := boS_lt _ _ e63; omega) (ct_Pv (boS_ct _ _ e63))] at f63
          exact s_fg [3, 4] (by rw [hc1]; rfl) (ih (r + 1) _ (by omega) (by rw [hc1]; omega) (hP.s0 ht5 ht2 (bo_p2 ct k36 ht2 g63 e63 f63) (bo_n0 (hmin r hr hpr) (fun z => Int64.lt_irrefl (Int64.lt_trans z g63)))))
        · refine t_iinc (pc' := 69) (v := nI (cntB (Pv D x (J 25) th (nI v)) r + 1)) (L' := [.ref 24, .ref 1, .int _, .ref _, .ref _]) dX5_beatTyped_66 rfl rfl (nI_inc _) rfl ?_
          refine s_goto (tgt := 18) dX5_beatTyped_69 (by decide) ?_
          rw [hA r hr hpr] at g63
          exact s_fg [3, 4] (by rw [hc1]; rfl) (ih (r + 1) _ (by omega) (by rw [hc1]; omega) (hP.s35 ht5 ht2 (bo_p0 (fun z => Int64.lt_irrefl (Int64.lt_trans z g63))) (bo_n1 (hmin r hr hpr) ct k36 ht2 g63 (fun q hq => ⟨hmin q (by have := boS_lt _ _ hq; omega) (ct_Pv (boS_ct _ _ hq)), by have z := e63 q hq; rw [hA r hr hpr, hA q (by have := boS_lt _ _ hq; omega) (ct_Pv (boS_ct _ _ hq))] at z; exact z⟩))))
        · refine t_iinc (pc' := 69) (v := nI (cntB (Pv D x (J 25) th (nI v)) r + 1)) (L' := [.ref 24, .ref 1, .int _, .ref _, .ref _]) dX5_beatTyped_66 rfl rfl (nI_inc _) rfl ?_
          refine s_goto (tgt := 18) dX5_beatTyped_69 (by decide) ?_
          rw [hA r hr hpr] at g63
          rw [hA r hr hpr, hA q63 (by have := boS_lt _ _ e63; omega) (ct_Pv (boS_ct _ _ e63))] at f63
          exact s_fg [3, 4] (by rw [hc1]; rfl) (ih (r + 1) _ (by omega) (by rw [hc1]; omega) (hP.s0 ht5 ht2 (bo_p0 (fun z => Int64.lt_irrefl (Int64.lt_trans z g63))) (bo_n2 (hmin r hr hpr) (hmin q63 (by have := boS_lt _ _ e63; omega) (ct_Pv (boS_ct _ _ e63))) ct k36 ht2 g63 e63 f63)))
        · refine t_iinc (pc' := 69) (v := nI (cntB (Pv D x (J 25) th (nI v)) r + 1)) (L' := [.ref 24, .ref 1, .int _, .ref _, .ref _]) dX5_beatTyped_66 rfl rfl (nI_inc _) rfl ?_
          refine s_goto (tgt := 18) dX5_beatTyped_69 (by decide) ?_
          rw [hA r hr hpr] at g63
          rw [hA r hr hpr] at e63
          exact s_fg [3, 4] (by rw [hc1]; rfl) (ih (r + 1) _ (by omega) (by rw [hc1]; omega) (hP.s0 ht5 ht2 (bo_p0 g63) (bo_n0 (hmin r hr hpr) e63)))
    · refine s_ifeqT (tgt := 66) dX5_beatTyped_39 (by decide) (by decide) ?_
      refine t_iinc (pc' := 69) (v := nI (cntB (Pv D x (J 25) th (nI v)) r + 1)) (L' := [.ref 24, .ref 1, .int _, .retAddr _, .ref _]) dX5_beatTyped_66 rfl rfl (nI_inc _) rfl ?_
      refine s_goto (tgt := 18) dX5_beatTyped_69 (by decide) ?_
      exact s_fg [3, 4] (by rw [hc1]; rfl) (ih (r + 1) _ (by omega) (by rw [hc1]; omega) (hP.same (fun _ _ _ _ _ => bo_k k36)))
theorem l_X5_beatTyped2 {N : Nat} {S : Nat → Nat × Nat} {I : Nat → Nat → Int32} {J : Nat → Nat → Int64} {Q : Nat → Nat → Option Nat} {κ : Option Value → HP → Prop} {D : Nat → Nat → Int32} {nv nr ns : Nat} {ad td : Nat → Nat} (X : XS N S I Q D nv nr ns ad td 0) (hW : DW D nv nr ns) {v : Nat} {x th : Int32} (hv : v < nv) (G : GS I Q D x (J 25) th (nI v) nr ad) (hA : ∀ r, r < nr → Pv D x (J 25) th (nI v) r = true → J 26 r = amt D (J 25) r) (hM : ∀ r, r < nr → adB D x (J 25) th r (nI v) = true → I 27 r = hwM D x (J 25) th (nI v) r ∧ I 28 r = btM D x (J 25) th (nI v) r) (hT : ∀ t, 1 ≤ t → t ≤ 5 → I 34 t = ixo (boS D x (J 25) th (nI v) (nI t) 1 nr) ∧ I 35 t = ixo (boS D x (J 25) th (nI v) (nI t) (-1) nr)) (hk : ∀ I', BT I I' D x (J 25) th (nI v) nr → κ none (N, S, I', J, Q)) : ∀ d : Nat, ∀ k I', k ≤ nr → cntB (Pv D x (J 25) th (nI v)) k + d = cntB (Pv D x (J 25) th (nI v)) nr → T2 I I' D x (J 25) th (nI v) nr k → SP E1 M_X5_beatTyped κ 74 [.ref 24, .ref 1, .int (nI (cntB (Pv D x (J 25) th (nI v)) k)), .retAddr 0, .retAddr 0] [] (N, S, I', J, Q) 0 0 := by
  intro d
  induction d with
  | zero =>
    intro k I' hk2 hd hP
    have hn30 := hW.nr
    have G2 := G.fh hP.1
    replace hP := hP.skip hk2 (fun j a b => adB_nP (cnt_end (nr - k) k (by omega) (by omega) j a b))
    refine s_iload_n (pc' := 75) dX5_beatTyped_74 rfl rfl ?_
    refine s_aload_n (pc' := 76) dX5_beatTyped_75 rfl rfl ?_
    refine t_getI (pc' := 79) dX5_beatTyped_76 rfl sh_24 (by decide) fa_X5_50_5 rfl ?_
    refine s_icmpgeT (tgt := 164) dX5_beatTyped_79 (by decide) (by rw [G2.1]; exact nI_le (by omega) (by have := cntB_le (Pv D x (J 25) th (nI v)) nr; omega)) ?_
    exact s_vret dX5_beatTyped_164 rfl (by decide) (by decide) (hk I' ⟨hP.1, hP.2.1, hP.2.2.1⟩)
  | succ d ih =>
    intro k I' hk2 hd hP
    have hn30 := hW.nr
    have G2 := G.fh hP.1
    have X2 := X.fr hP.1.fr
    obtain ⟨r, hr1, hr, hpr, hrc, hsk, hq32, hc1, hcl, hcn⟩ := G2.next hk2 hd
    have R := X2.ro hr
    have h94 := R.ge
    replace hP := hP.skip hr1 (fun j a b => adB_nP (hsk j a b))
    rw [hrc]
    refine s_iload_n (pc' := 75) dX5_beatTyped_74 rfl rfl ?_
    refine s_aload_n (pc' := 76) dX5_beatTyped_75 rfl rfl ?_
    refine t_getI (pc' := 79) dX5_beatTyped_76 rfl sh_24 (by decide) fa_X5_50_5 rfl ?_
    refine s_icmpgeF (pc' := 82) (tgt := 164) dX5_beatTyped_79 (by decide) rfl (by rw [G2.1]; exact nI_ge (by omega) (by omega)) ?_
    refine s_aload_n (pc' := 83) dX5_beatTyped_82 rfl rfl ?_
    refine s_getS (pc' := 86) (b := 32) dX5_beatTyped_83 rfl (by decide) rfl (by decide) fa_X5_46_5 rfl rfl ?_
    refine s_iload_n (pc' := 87) dX5_beatTyped_86 rfl rfl ?_
    refine t_aald (pc' := 88) dX5_beatTyped_87 rfl (Or.inl rfl) sh_32 rfl (by omega) hq32 ?_
    refine t_astore (pc' := 90) (L' := [.ref 24, .ref 1, .int _, .retAddr _, .ref _]) dX5_beatTyped_88 rfl (Nat.le_of_ble_eq_true rfl) rfl ?_
    refine s_aload (pc' := 92) dX5_beatTyped_90 rfl rfl ?_
    refine i_typed (pc' := 95) dX5_beatTyped_92 rfl R.sh cl_X5_175 (fun k92 => ?_) (fun k92 => ?_)
    · refine s_ifeqF (pc' := 98) (tgt := 158) dX5_beatTyped_95 (by decide) rfl (by decide) ?_
      have ha : adB D x (J 25) th r (nI v) = true := by unfold adB; rw [Pv_wk hpr (c := 1) k92, Bool.or_true]
      obtain ⟨t, ht5, ht2, ht1⟩ := (hW.2.1 r hr).2.2.2.2.2.2.1
      replace ht1 := ht1 k92
      refine s_aload (pc' := 100) dX5_beatTyped_98 rfl rfl ?_
      refine i_castT (pc' := 103) dX5_beatTyped_100 rfl (kc1 k92 R.sh) cl_X5_175 ?_
      refine t_astore_n (pc' := 104) (L' := [.ref 24, .ref 1, .int _, .ref _, .ref _]) dX5_beatTyped_103 rfl (Nat.le_of_ble_eq_true rfl) rfl ?_
      refine s_aload_n (pc' := 105) dX5_beatTyped_104 rfl rfl ?_
      refine s_getS (pc' := 108) (b := 27) dX5_beatTyped_105 rfl (by decide) rfl (by decide) fa_X5_18_5 rfl rfl ?_
      refine s_aload_n (pc' := 109) dX5_beatTyped_108 rfl rfl ?_
      refine t_getI (pc' := 112) dX5_beatTyped_109 rfl (kc1 k92 R.sh) (by decide) fa_X5_177_10 rfl ?_
      refine t_iald (pc' := 113) (q := r) dX5_beatTyped_112 rfl sh_27 R.f1 (by omega) ?_
      refine s_iconst (pc' := 114) (v := 2) dX5_beatTyped_113 rfl (by decide) ?_
      refine s_icmpne (pc' := 117) (tgt := 158) dX5_beatTyped_114 (by decide) rfl (fun c114 => ?_) (fun c114 => ?_)
      · refine t_iinc (pc' := 161) (v := nI (cntB (Pv D x (J 25) th (nI v)) r + 1)) (L' := [.ref 24, .ref 1, .int _, .ref _, .ref _]) dX5_beatTyped_158 rfl rfl (nI_inc _) rfl ?_
        refine s_goto (tgt := 74) dX5_beatTyped_161 (by decide) ?_
        rw [(hP.2.1.2 r (Or.inl (Nat.le_refl r))).1, (hM r hr ha).1] at c114
        have e := hwA_ne (nr := nr) (hwM_n c114)
        exact s_fg [3, 4] (by rw [hc1]; rfl) (ih (r + 1) _ (by omega) (by rw [hc1]; omega) ⟨hP.1, hP.2.1.same (by rw [(hM r hr ha).1, e.1]) (by rw [(hM r hr ha).2, e.2]), hP.2.2⟩)
      · rw [(hP.2.1.2 r (Or.inl (Nat.le_refl r))).1, (hM r hr ha).1] at c114
        have hf := hwM_2 (by simpa using c114)
        refine s_aload_n (pc' := 118) dX5_beatTyped_117 rfl rfl ?_
        refine t_getI (pc' := 121) dX5_beatTyped_118 rfl sh_1 (by decide) fa_X5_182_8 rfl ?_
        refine s_aload_n (pc' := 122) dX5_beatTyped_121 rfl rfl ?_
        refine t_getI (pc' := 125) dX5_beatTyped_122 rfl (kc1 k92 R.sh) (by decide) fa_X5_185_10 rfl ?_
        refine s_callSN (pc' := 128) (As := [.int _, .int _]) dX5_beatTyped_125 rfl mk_X11_hasBit mn_X5_132 sm_X11_hasBit rfl rfl ⟨Nat.le_of_ble_eq_true rfl, Nat.le_of_ble_eq_true rfl, Nat.le_of_ble_eq_true rfl, Nat.le_of_ble_eq_true rfl⟩ (Nat.le_of_ble_eq_true rfl) (e_hasBit (j := t) (by rw [R.f10 k92]; exact ht2) (by omega) (fun b125 => ?_) (fun b125 => ?_))
        · refine s_ifneT (tgt := 158) dX5_beatTyped_128 (by decide) (by decide) ?_
          refine t_iinc (pc' := 161) (v := nI (cntB (Pv D x (J 25) th (nI v)) r + 1)) (L' := [.ref 24, .ref 1, .int _, .ref _, .ref _]) dX5_beatTyped_158 rfl rfl (nI_inc _) rfl ?_
          refine s_goto (tgt := 74) dX5_beatTyped_161 (by decide) ?_
          have e := hwA_pl (x := x) (g := J 25) (th := th) (v := nI v) (nr := nr) (r := r) (show plB D r = true by unfold plB; rw [ht2, decide_eq_true ((bitI_1 (by omega)).mpr (by rw [← X2.sk]; exact b125)), Bool.or_true])
          exact s_fg [3, 4] (by rw [hc1]; rfl) (ih (r + 1) _ (by omega) (by rw [hc1]; omega) ⟨hP.1, hP.2.1.same (by rw [(hM r hr ha).1, e.1]) (by rw [(hM r hr ha).2, e.2]), hP.2.2⟩)
        · refine s_ifneF (pc' := 131) (tgt := 158) dX5_beatTyped_128 (by decide) rfl (by decide) ?_
          refine s_aload_n (pc' := 132) dX5_beatTyped_131 rfl rfl ?_
          refine s_aload_n (pc' := 133) dX5_beatTyped_132 rfl rfl ?_
          refine s_callV (pc' := 136) (As := [.ref _]) dX5_beatTyped_133 rfl mk_X5_bestLike ml_X5_188 im_X5_bestLike se_X5_X5_X5_bestLike sh_24 (by decide) rfl rfl rfl ⟨Nat.le_of_ble_eq_true rfl, Nat.le_of_ble_eq_true rfl, Nat.le_of_ble_eq_true rfl, Nat.le_of_ble_eq_true rfl⟩ (Nat.le_of_ble_eq_true rfl) (c_X5_bestLike R (by omega) k92 ht2 ht5 (fun g133 => ?_) (fun g133 => ?_) (fun g133 => ?_))
          · refine t_istore (pc' := 138) (L' := [.ref 24, .ref 1, .int _, .ref _, .int _]) dX5_beatTyped_136 rfl (Nat.le_of_ble_eq_true rfl) rfl ?_
            refine s_iload (pc' := 140) dX5_beatTyped_138 rfl rfl ?_
            refine s_aload_n (pc' := 141) dX5_beatTyped_140 rfl rfl ?_
            refine t_getI (pc' := 144) dX5_beatTyped_141 rfl (kc1 k92 R.sh) (by decide) fa_X5_177_10 rfl ?_
            refine s_icmpeq (pc' := 147) (tgt := 158) dX5_beatTyped_144 (by decide) rfl (fun c144 => ?_) (fun c144 => ?_)
            · refine t_iinc (pc' := 161) (v := nI (cntB (Pv D x (J 25) th (nI v)) r + 1)) (L' := [.ref 24, .ref 1, .int _, .ref _, .int _]) dX5_beatTyped_158 rfl rfl (nI_inc _) rfl ?_
              refine s_goto (tgt := 74) dX5_beatTyped_161 (by decide) ?_
              rw [hA r hr hpr] at g133
              have hbs : bst D x (J 25) th (nI v) nr r = none := by unfold bst; rw [if_pos g133]
              have hval : (-1 : Int32) = ixo (bst D x (J 25) th (nI v) nr r) := by rw [hbs]; rfl
              rw [hval, R.f1] at c144
              have e := hwA_me ((ixo_eq (fun q hq => by have := bst_lt hq; omega) (by omega)).mp c144)
              exact s_fg [3, 4] (by rw [hc1]; rfl) (ih (r + 1) _ (by omega) (by rw [hc1]; omega) ⟨hP.1, hP.2.1.same (by rw [(hM r hr ha).1, e.1]) (by rw [(hM r hr ha).2, e.2]), hP.2.2⟩)
            · refine s_aload_n (pc' := 148) dX5_beatTyped_147 rfl rfl ?_
              refine s_aload_n (pc' := 149) dX5_beatTyped_148 rfl rfl ?_
              refine t_getI (pc' := 152) dX5_beatTyped_149 rfl (kc1 k92 R.sh) (by decide) fa_X5_177_10 rfl ?_
              rw [R.f1]
              refine s_iconst (pc' := 153) (v := 4) dX5_beatTyped_152 rfl (by decide) ?_
              refine s_iload (pc' := 155) dX5_beatTyped_153 rfl rfl ?_
              refine s_callV (pc' := 158) (As := [.int _, .int _, .int _]) dX5_beatTyped_155 rfl mk_X5_beat ml_X5_162 im_X5_beat se_X5_X5_X5_beat sh_24 (by decide) rfl rfl rfl ⟨Nat.le_of_ble_eq_true rfl, Nat.le_of_ble_eq_true rfl, Nat.le_of_ble_eq_true rfl, Nat.le_of_ble_eq_true rfl⟩ (Nat.le_of_ble_eq_true rfl) (c_X5_beat (r := r) (by omega) ?_)
              refine t_iinc (pc' := 161) (v := nI (cntB (Pv D x (J 25) th (nI v)) r + 1)) (L' := [.ref 24, .ref 1, .int _, .ref _, .int _]) dX5_beatTyped_158 rfl rfl (nI_inc _) rfl ?_
              refine s_goto (tgt := 74) dX5_beatTyped_161 (by decide) ?_
              rw [hA r hr hpr] at g133
              have hbs : bst D x (J 25) th (nI v) nr r = none := by unfold bst; rw [if_pos g133]
              have hval : (-1 : Int32) = ixo (bst D x (J 25) th (nI v) nr r) := by rw [hbs]; rfl
              rw [hval, R.f1] at c144
              have e := hwA_ot hf (show plB D r = false by unfold plB; rw [decide_eq_false (show ¬ D 60 r = 0 by rw [k92]; decide), ht2, decide_eq_false (show ¬ bitI (D 75 5) (nI t) = 1 from fun z => by have q := (bitI_1 (by omega)).mp z; rw [← X2.sk, b125] at q; cases q)]; rfl) (fun z => c144 ((ixo_eq (fun q hq => by have := bst_lt hq; omega) (by omega)).mpr z))
              exact s_fg [3, 4] (by rw [hc1]; rfl) (ih (r + 1) _ (by omega) (by rw [hc1]; omega) ⟨(hP.1.up (by decide)).up (by decide), hP.2.1.st ha e.1.symm (by rw [hval]; exact e.2.symm), by rw [up2_d (by decide), up2_d (by decide)]; exact hP.2.2.1, by rw [up2_o (by decide), up2_o (by decide)]; exact hP.2.2.2.1, by rw [up2_o (by decide), up2_o (by decide)]; exact hP.2.2.2.2⟩)
          · refine t_istore (pc' := 138) (L' := [.ref 24, .ref 1, .int _, .ref _, .int _]) dX5_beatTyped_136 rfl (Nat.le_of_ble_eq_true rfl) rfl ?_
            refine s_iload (pc' := 140) dX5_beatTyped_138 rfl rfl ?_
            refine s_aload_n (pc' := 141) dX5_beatTyped_140 rfl rfl ?_
            refine t_getI (pc' := 144) dX5_beatTyped_141 rfl (kc1 k92 R.sh) (by decide) fa_X5_177_10 rfl ?_
            refine s_icmpeq (pc' := 147) (tgt := 158) dX5_beatTyped_144 (by decide) rfl (fun c144 => ?_) (fun c144 => ?_)
            · refine t_iinc (pc' := 161) (v := nI (cntB (Pv D x (J 25) th (nI v)) r + 1)) (L' := [.ref 24, .ref 1, .int _, .ref _, .int _]) dX5_beatTyped_158 rfl rfl (nI_inc _) rfl ?_
              refine s_goto (tgt := 74) dX5_beatTyped_161 (by decide) ?_
              rw [hA r hr hpr] at g133
              have hbs : bst D x (J 25) th (nI v) nr r = boS D x (J 25) th (nI v) (nI t) 1 nr := by unfold bst; rw [if_neg (fun z => by rw [z] at g133; exact Int64.lt_irrefl g133), if_pos g133, ht2]
              have hval : I' 34 t = ixo (bst D x (J 25) th (nI v) nr r) := by rw [hbs, hP.2.2.2.1]; exact (hT t ht1 ht5).1
              rw [hval, R.f1] at c144
              have e := hwA_me ((ixo_eq (fun q hq => by have := bst_lt hq; omega) (by omega)).mp c144)
              exact s_fg [3, 4] (by rw [hc1]; rfl) (ih (r + 1) _ (by omega) (by rw [hc1]; omega) ⟨hP.1, hP.2.1.same (by rw [(hM r hr ha).1, e.1]) (by rw [(hM r hr ha).2, e.2]), hP.2.2⟩)
            · refine s_aload_n (pc' := 148) dX5_beatTyped_147 rfl rfl ?_
              refine s_aload_n (pc' := 149) dX5_beatTyped_148 rfl rfl ?_
              refine t_getI (pc' := 152) dX5_beatTyped_149 rfl (kc1 k92 R.sh) (by decide) fa_X5_177_10 rfl ?_
              rw [R.f1]
              refine s_iconst (pc' := 153) (v := 4) dX5_beatTyped_152 rfl (by decide) ?_
              refine s_iload (pc' := 155) dX5_beatTyped_153 rfl rfl ?_
              refine s_callV (pc' := 158) (As := [.int _, .int _, .int _]) dX5_beatTyped_155 rfl mk_X5_beat ml_X5_162 im_X5_beat se_X5_X5_X5_beat sh_24 (by decide) rfl rfl rfl ⟨Nat.le_of_ble_eq_true rfl, Nat.le_of_ble_eq_true rfl, Nat.le_of_ble_eq_true rfl, Nat.le_of_ble_eq_true rfl⟩ (Nat.le_of_ble_eq_true rfl) (c_X5_beat (r := r) (by omega) ?_)
              refine t_iinc (pc' := 161) (v := nI (cntB (Pv D x (J 25) th (nI v)) r + 1)) (L' := [.ref 24, .ref 1, .int _, .ref _, .int _]) dX5_beatTyped_158 rfl rfl (nI_inc _) rfl ?_
              refine s_goto (tgt := 74) dX5_beatTyped_161 (by decide) ?_
              rw [hA r hr hpr] at g133
              have hbs : bst D x (J 25) th (nI v) nr r = boS D x (J 25) th (nI v) (nI t) 1 nr := by unfold bst; rw [if_neg (fun z => by rw [z] at g133; exact Int64.lt_irrefl g133), if_pos g133, ht2]
              have hval : I' 34 t = ixo (bst D x (J 25) th (nI v) nr r) := by rw [hbs, hP.2.2.2.1]; exact (hT t ht1 ht5).1
              rw [hval, R.f1] at c144
              have e := hwA_ot hf (show plB D r = false by unfold plB; rw [decide_eq_false (show ¬ D 60 r = 0 by rw [k92]; decide), ht2, decide_eq_false (show ¬ bitI (D 75 5) (nI t) = 1 from fun z => by have q := (bitI_1 (by omega)).mp z; rw [← X2.sk, b125] at q; cases q)]; rfl) (fun z => c144 ((ixo_eq (fun q hq => by have := bst_lt hq; omega) (by omega)).mpr z))
              exact s_fg [3, 4] (by rw [hc1]; rfl) (ih (r + 1) _ (by omega) (by rw [hc1]; omega) ⟨(hP.1.up (by decide)).up (by decide), hP.2.1.st ha e.1.symm (by rw [hval]; exact e.2.symm), by rw [up2_d (by decide), up2_d (by decide)]; exact hP.2.2.1, by rw [up2_o (by decide), up2_o (by decide)]; exact hP.2.2.2.1, by rw [up2_o (by decide), up2_o (by decide)]; exact hP.2.2.2.2⟩)
          · refine t_istore (pc' := 138) (L' := [.ref 24, .ref 1, .int _, .ref _, .int _]) dX5_beatTyped_136 rfl (Nat.le_of_ble_eq_true rfl) rfl ?_
            refine s_iload (pc' := 140) dX5_beatTyped_138 rfl rfl ?_
            refine s_aload_n (pc' := 141) dX5_beatTyped_140 rfl rfl ?_
            refine t_getI (pc' := 144) dX5_beatTyped_141 rfl (kc1 k92 R.sh) (by decide) fa_X5_177_10 rfl ?_
            refine s_icmpeq (pc' := 147) (tgt := 158) dX5_beatTyped_144 (by decide) rfl (fun c144 => ?_) (fun c144 => ?_)
            · refine t_iinc (pc' := 161) (v := nI (cntB (Pv D x (J 25) th (nI v)) r + 1)) (L' := [.ref 24, .ref 1, .int _, .ref _, .int _]) dX5_beatTyped_158 rfl rfl (nI_inc _) rfl ?_
              refine s_goto (tgt := 74) dX5_beatTyped_161 (by decide) ?_
              rw [hA r hr hpr] at g133
              have hbs : bst D x (J 25) th (nI v) nr r = boS D x (J 25) th (nI v) (nI t) (-1) nr := by unfold bst; rw [if_neg (fun z => by rw [z] at g133; exact Int64.lt_irrefl g133), if_neg (fun z => Int64.lt_irrefl (Int64.lt_trans z g133)), ht2]
              have hval : I' 35 t = ixo (bst D x (J 25) th (nI v) nr r) := by rw [hbs, hP.2.2.2.2]; exact (hT t ht1 ht5).2
              rw [hval, R.f1] at c144
              have e := hwA_me ((ixo_eq (fun q hq => by have := bst_lt hq; omega) (by omega)).mp c144)
              exact s_fg [3, 4] (by rw [hc1]; rfl) (ih (r + 1) _ (by omega) (by rw [hc1]; omega) ⟨hP.1, hP.2.1.same (by rw [(hM r hr ha).1, e.1]) (by rw [(hM r hr ha).2, e.2]), hP.2.2⟩)
            · refine s_aload_n (pc' := 148) dX5_beatTyped_147 rfl rfl ?_
              refine s_aload_n (pc' := 149) dX5_beatTyped_148 rfl rfl ?_
              refine t_getI (pc' := 152) dX5_beatTyped_149 rfl (kc1 k92 R.sh) (by decide) fa_X5_177_10 rfl ?_
              rw [R.f1]
              refine s_iconst (pc' := 153) (v := 4) dX5_beatTyped_152 rfl (by decide) ?_
              refine s_iload (pc' := 155) dX5_beatTyped_153 rfl rfl ?_
              refine s_callV (pc' := 158) (As := [.int _, .int _, .int _]) dX5_beatTyped_155 rfl mk_X5_beat ml_X5_162 im_X5_beat se_X5_X5_X5_beat sh_24 (by decide) rfl rfl rfl ⟨Nat.le_of_ble_eq_true rfl, Nat.le_of_ble_eq_true rfl, Nat.le_of_ble_eq_true rfl, Nat.le_of_ble_eq_true rfl⟩ (Nat.le_of_ble_eq_true rfl) (c_X5_beat (r := r) (by omega) ?_)
              refine t_iinc (pc' := 161) (v := nI (cntB (Pv D x (J 25) th (nI v)) r + 1)) (L' := [.ref 24, .ref 1, .int _, .ref _, .int _]) dX5_beatTyped_158 rfl rfl (nI_inc _) rfl ?_
              refine s_goto (tgt := 74) dX5_beatTyped_161 (by decide) ?_
              rw [hA r hr hpr] at g133
              have hbs : bst D x (J 25) th (nI v) nr r = boS D x (J 25) th (nI v) (nI t) (-1) nr := by unfold bst; rw [if_neg (fun z => by rw [z] at g133; exact Int64.lt_irrefl g133), if_neg (fun z => Int64.lt_irrefl (Int64.lt_trans z g133)), ht2]
              have hval : I' 35 t = ixo (bst D x (J 25) th (nI v) nr r) := by rw [hbs, hP.2.2.2.2]; exact (hT t ht1 ht5).2
              rw [hval, R.f1] at c144
              have e := hwA_ot hf (show plB D r = false by unfold plB; rw [decide_eq_false (show ¬ D 60 r = 0 by rw [k92]; decide), ht2, decide_eq_false (show ¬ bitI (D 75 5) (nI t) = 1 from fun z => by have q := (bitI_1 (by omega)).mp z; rw [← X2.sk, b125] at q; cases q)]; rfl) (fun z => c144 ((ixo_eq (fun q hq => by have := bst_lt hq; omega) (by omega)).mpr z))
              exact s_fg [3, 4] (by rw [hc1]; rfl) (ih (r + 1) _ (by omega) (by rw [hc1]; omega) ⟨(hP.1.up (by decide)).up (by decide), hP.2.1.st ha e.1.symm (by rw [hval]; exact e.2.symm), by rw [up2_d (by decide), up2_d (by decide)]; exact hP.2.2.1, by rw [up2_o (by decide), up2_o (by decide)]; exact hP.2.2.2.1, by rw [up2_o (by decide), up2_o (by decide)]; exact hP.2.2.2.2⟩)
    · refine s_ifeqT (tgt := 158) dX5_beatTyped_95 (by decide) (by decide) ?_
      refine t_iinc (pc' := 161) (v := nI (cntB (Pv D x (J 25) th (nI v)) r + 1)) (L' := [.ref 24, .ref 1, .int _, .retAddr _, .ref _]) dX5_beatTyped_158 rfl rfl (nI_inc _) rfl ?_
      refine s_goto (tgt := 74) dX5_beatTyped_161 (by decide) ?_
      cases ha : adB D x (J 25) th r (nI v) with
      | false => exact s_fg [3, 4] (by rw [hc1]; rfl) (ih (r + 1) _ (by omega) (by rw [hc1]; omega) ⟨hP.1, hP.2.1.sk ha, hP.2.2⟩)
      | true =>
        have e := hwA_pl (x := x) (g := J 25) (th := th) (v := nI v) (nr := nr) (r := r) (show plB D r = true by unfold plB; rw [decide_eq_true ((adB_kind ha).resolve_right k92)]; rfl)
        exact s_fg [3, 4] (by rw [hc1]; rfl) (ih (r + 1) _ (by omega) (by rw [hc1]; omega) ⟨hP.1, hP.2.1.same (by rw [(hM r hr ha).1, e.1]) (by rw [(hM r hr ha).2, e.2]), hP.2.2⟩)
theorem c_X5_beatTyped {N : Nat} {S : Nat → Nat × Nat} {I : Nat → Nat → Int32} {J : Nat → Nat → Int64} {Q : Nat → Nat → Option Nat} {κ : Option Value → HP → Prop} {D : Nat → Nat → Int32} {nv nr ns : Nat} {ad td : Nat → Nat} (X : XS N S I Q D nv nr ns ad td 0) (hW : DW D nv nr ns) {v : Nat} {x th : Int32} (hv : v < nv) (G : GS I Q D x (J 25) th (nI v) nr ad) (hA : ∀ r, r < nr → Pv D x (J 25) th (nI v) r = true → J 26 r = amt D (J 25) r) (hM : ∀ r, r < nr → adB D x (J 25) th r (nI v) = true → I 27 r = hwM D x (J 25) th (nI v) r ∧ I 28 r = btM D x (J 25) th (nI v) r) (hmin : ∀ r, r < nr → Pv D x (J 25) th (nI v) r = true → amt D (J 25) r ≠ Int64.minValue) (hk : ∀ I', BT I I' D x (J 25) th (nI v) nr → κ none (N, S, I', J, Q)) : CT E1 M_X5_beatTyped [.ref 24, .ref 1] (N, S, I, J, Q) κ := by
  refine ofSP mk_X5_beatTyped (Nat.le_of_ble_eq_true rfl) (L := [.ref 24, .ref 1, .retAddr _, .retAddr _, .retAddr _]) rfl ?_
  refine s_aload_n (pc' := 1) dX5_beatTyped_0 rfl rfl ?_
  refine s_getS (pc' := 4) (b := 34) dX5_beatTyped_1 rfl (by decide) rfl (by decide) fa_X5_56_5 rfl rfl ?_
  refine s_iconst (pc' := 5) (v := -1) dX5_beatTyped_4 rfl (by decide) ?_
  refine s_callS (pc' := 8) (As := [.ref 34, .int _]) dX5_beatTyped_5 rfl mk_J7_fill_53178 ml_X5_166 sm_J7_fill_53178 rfl rfl ⟨Nat.le_of_ble_eq_true rfl, Nat.le_of_ble_eq_true rfl, Nat.le_of_ble_eq_true rfl, Nat.le_of_ble_eq_true rfl⟩ (Nat.le_of_ble_eq_true rfl) (c_J7_fill_53178 (by decide) (fun {_ _ _} => sh_34) ?_)
  refine s_aload_n (pc' := 9) dX5_beatTyped_8 rfl rfl ?_
  refine s_getS (pc' := 12) (b := 35) dX5_beatTyped_9 rfl (by decide) rfl (by decide) fa_X5_59_5 rfl rfl ?_
  refine s_iconst (pc' := 13) (v := -1) dX5_beatTyped_12 rfl (by decide) ?_
  refine s_callS (pc' := 16) (As := [.ref 35, .int _]) dX5_beatTyped_13 rfl mk_J7_fill_53178 ml_X5_166 sm_J7_fill_53178 rfl rfl ⟨Nat.le_of_ble_eq_true rfl, Nat.le_of_ble_eq_true rfl, Nat.le_of_ble_eq_true rfl, Nat.le_of_ble_eq_true rfl⟩ (Nat.le_of_ble_eq_true rfl) (c_J7_fill_53178 (by decide) (fun {_ _ _} => sh_35) ?_)
  refine s_iconst (pc' := 17) (v := 0) dX5_beatTyped_16 rfl (by decide) ?_
  refine t_istore_n (pc' := 18) (L' := [.ref 24, .ref 1, .int _, .retAddr _, .retAddr _]) dX5_beatTyped_17 rfl (Nat.le_of_ble_eq_true rfl) rfl ?_
  refine l_X5_beatTyped1 X hW hv G hA hM hmin (fun I' hP => ?_) (cntB (Pv D x (J 25) th (nI v)) nr) 0 _ (Nat.zero_le _) (by simp [cntB]) ⟨(FH.rf.fl (by decide)).fl (by decide), by rw [fl_o (by decide), fl_o (by decide)], by rw [fl_o (by decide), fl_o (by decide)], by rw [fl_o (by decide), fl_o (by decide)], fun t a b => ⟨by rw [fl_o (by decide), fl_i (by omega)]; rfl, by rw [fl_i (by omega)]; rfl⟩⟩
  refine s_iconst (pc' := 73) (v := 0) dX5_beatTyped_72 rfl (by decide) ?_
  refine t_istore_n (pc' := 74) (L' := [.ref 24, .ref 1, .int _, .retAddr _, .retAddr _]) dX5_beatTyped_73 rfl (Nat.le_of_ble_eq_true rfl) rfl ?_
  exact l_X5_beatTyped2 (X.fr hP.1.fr) hW hv (G.fh hP.1) hA (fun r hr ha => by rw [hP.2.1, hP.2.2.1]; exact hM r hr ha) hP.2.2.2.2 (fun I2 h2 => hk I2 ⟨hP.1.tr h2.1, ⟨h2.2.1.1, fun q hq => by rw [← hP.2.1, ← hP.2.2.1]; exact h2.2.1.2 q hq⟩, h2.2.2.trans hP.2.2.2.1⟩) (cntB (Pv D x (J 25) th (nI v)) nr) 0 I' (Nat.zero_le _) (by simp [cntB]) ⟨FH.rf, RV.rf, rfl, rfl, rfl⟩
theorem l_X5_boons {N : Nat} {S : Nat → Nat × Nat} {I : Nat → Nat → Int32} {J : Nat → Nat → Int64} {Q : Nat → Nat → Option Nat} {κ : Option Value → HP → Prop} {D : Nat → Nat → Int32} {nv nr ns : Nat} {ad td : Nat → Nat} (X : XS N S I Q D nv nr ns ad td 0) (hW : DW D nv nr ns) {v : Nat} {x th : Int32} (hv : v < nv) (G : GS I Q D x (J 25) th (nI v) nr ad) (hA : ∀ r, r < nr → Pv D x (J 25) th (nI v) r = true → J 26 r = amt D (J 25) r) (hH : ∀ r, r < nr → adB D x (J 25) th r (nI v) = true → I 27 r = hwA D x (J 25) th (nI v) nr r) (hk : κ (some (.long (adS D x (J 25) th (nI v) nr nr))) (N, S, I, J, Q)) : ∀ d : Nat, ∀ k, k ≤ nr → cntB (Pv D x (J 25) th (nI v)) k + d = cntB (Pv D x (J 25) th (nI v)) nr → SP E1 M_X5_boons κ 4 [.ref 24, .long (adS D x (J 25) th (nI v) nr k), .retAddr 0, .int (nI (cntB (Pv D x (J 25) th (nI v)) k)), .retAddr 0] [] (N, S, I, J, Q) 0 0 := by
  intro d
  induction d with
  | zero =>
    intro k hk2 hd
    have hn30 := hW.nr
    have G2 := G
    rw [adS_skip hk2 (fun j a b => adB_nP (cnt_end (nr - k) k (by omega) (by omega) j a b))]
    refine s_iload_n (pc' := 5) dX5_boons_4 rfl rfl ?_
    refine s_aload_n (pc' := 6) dX5_boons_5 rfl rfl ?_
    refine t_getI (pc' := 9) dX5_boons_6 rfl sh_24 (by decide) fa_X5_50_5 rfl ?_
    refine s_icmpgeT (tgt := 62) dX5_boons_9 (by decide) (by rw [G2.1]; exact nI_le (by omega) (by have := cntB_le (Pv D x (J 25) th (nI v)) nr; omega)) ?_
    refine s_lload_n (pc' := 63) dX5_boons_62 rfl rfl ?_
    exact s_lret dX5_boons_63 rfl (by decide) (by decide) hk
  | succ d ih =>
    intro k hk2 hd
    have hn30 := hW.nr
    have G2 := G
    have X2 := X
    obtain ⟨r, hr1, hr, hpr, hrc, hsk, hq32, hc1, hcl, hcn⟩ := G2.next hk2 hd
    have R := X2.ro hr
    have h94 := R.ge
    rw [hrc, adS_skip hr1 (fun j a b => adB_nP (hsk j a b))]
    refine s_iload_n (pc' := 5) dX5_boons_4 rfl rfl ?_
    refine s_aload_n (pc' := 6) dX5_boons_5 rfl rfl ?_
    refine t_getI (pc' := 9) dX5_boons_6 rfl sh_24 (by decide) fa_X5_50_5 rfl ?_
    refine s_icmpgeF (pc' := 12) (tgt := 62) dX5_boons_9 (by decide) rfl (by rw [G2.1]; exact nI_ge (by omega) (by omega)) ?_
    refine s_aload_n (pc' := 13) dX5_boons_12 rfl rfl ?_
    refine s_getS (pc' := 16) (b := 32) dX5_boons_13 rfl (by decide) rfl (by decide) fa_X5_46_5 rfl rfl ?_
    refine s_iload_n (pc' := 17) dX5_boons_16 rfl rfl ?_
    refine t_aald (pc' := 18) dX5_boons_17 rfl (Or.inl rfl) sh_32 rfl (by omega) hq32 ?_
    refine t_astore (pc' := 20) (L' := [.ref 24, .long _, .retAddr _, .int _, .ref _]) dX5_boons_18 rfl (Nat.le_of_ble_eq_true rfl) rfl ?_
    refine s_aload (pc' := 22) dX5_boons_20 rfl rfl ?_
    refine t_getI (pc' := 25) (j := 0) dX5_boons_22 rfl R.sh (rk_lt (kc_rk _)) (fr_X5_129 (kc_rk _)) (by rw [rk_ft (kc_rk _) (by decide)]; rfl) ?_
    refine s_iconst (pc' := 26) (v := 1) dX5_boons_25 rfl (by decide) ?_
    refine s_icmpgt (pc' := 29) (tgt := 56) dX5_boons_26 (by decide) rfl (fun c26 => ?_) (fun c26 => ?_)
    · refine t_iinc (pc' := 59) (v := nI (cntB (Pv D x (J 25) th (nI v)) r + 1)) (L' := [.ref 24, .long _, .retAddr _, .int _, .ref _]) dX5_boons_56 rfl rfl (nI_inc _) rfl ?_
      refine s_goto (tgt := 4) dX5_boons_59 (by decide) ?_
      rw [R.f0] at c26
      have ha : adB D x (J 25) th r (nI v) = false := by unfold adB; rw [wk_1 (fun z => by rw [z] at c26; exact absurd c26 (by decide)), wk_1 (fun z => by rw [z] at c26; exact absurd c26 (by decide))]; rfl
      refine s_fg [4] ?_ (ih (r + 1) (by omega) (by rw [hc1]; omega))
      rw [hc1, adS, show adC D x (J 25) th (nI v) nr r = 0 by unfold adC; rw [ha]; rfl, Int64.add_zero]; rfl
    · refine s_aload_n (pc' := 30) dX5_boons_29 rfl rfl ?_
      refine s_getS (pc' := 33) (b := 27) dX5_boons_30 rfl (by decide) rfl (by decide) fa_X5_18_5 rfl rfl ?_
      refine s_aload (pc' := 35) dX5_boons_33 rfl rfl ?_
      refine t_getI (pc' := 38) (j := 1) dX5_boons_35 rfl R.sh (rk_lt (kc_rk _)) (fr_X5_159 (kc_rk _)) (by rw [rk_ft (kc_rk _) (by decide)]; rfl) ?_
      refine t_iald (pc' := 39) (q := r) dX5_boons_38 rfl sh_27 R.f1 (by omega) ?_
      refine s_iconst (pc' := 40) (v := 2) dX5_boons_39 rfl (by decide) ?_
      refine s_icmpne (pc' := 43) (tgt := 56) dX5_boons_40 (by decide) rfl (fun c40 => ?_) (fun c40 => ?_)
      · refine t_iinc (pc' := 59) (v := nI (cntB (Pv D x (J 25) th (nI v)) r + 1)) (L' := [.ref 24, .long _, .retAddr _, .int _, .ref _]) dX5_boons_56 rfl rfl (nI_inc _) rfl ?_
        refine s_goto (tgt := 4) dX5_boons_59 (by decide) ?_
        have ha : adB D x (J 25) th r (nI v) = true := adB_le hW hr hpr (by rw [← R.f0]; exact Int32.not_lt.mp c26)
        rw [hH r hr ha] at c40
        refine s_fg [4] ?_ (ih (r + 1) (by omega) (by rw [hc1]; omega))
        rw [hc1, adS, adC_n c40, Int64.add_zero]; rfl
      · refine s_lload_n (pc' := 44) dX5_boons_43 rfl rfl ?_
        refine s_aload_n (pc' := 45) dX5_boons_44 rfl rfl ?_
        refine s_getS (pc' := 48) (b := 26) dX5_boons_45 rfl (by decide) rfl (by decide) fa_X5_15_5 rfl rfl ?_
        refine s_aload (pc' := 50) dX5_boons_48 rfl rfl ?_
        refine t_getI (pc' := 53) (j := 1) dX5_boons_50 rfl R.sh (rk_lt (kc_rk _)) (fr_X5_159 (kc_rk _)) (by rw [rk_ft (kc_rk _) (by decide)]; rfl) ?_
        refine t_lald (pc' := 54) (q := r) dX5_boons_53 rfl sh_26 R.f1 (by omega) ?_
        refine s_ladd (pc' := 55) dX5_boons_54 rfl ?_
        refine t_lstore_n (pc' := 56) (L' := [.ref 24, .long _, .retAddr _, .int _, .ref _]) dX5_boons_55 rfl (Nat.le_of_ble_eq_true rfl) rfl ?_
        refine t_iinc (pc' := 59) (v := nI (cntB (Pv D x (J 25) th (nI v)) r + 1)) (L' := [.ref 24, .long _, .retAddr _, .int _, .ref _]) dX5_boons_56 rfl rfl (nI_inc _) rfl ?_
        refine s_goto (tgt := 4) dX5_boons_59 (by decide) ?_
        have ha : adB D x (J 25) th r (nI v) = true := adB_le hW hr hpr (by rw [← R.f0]; exact Int32.not_lt.mp c26)
        rw [hH r hr ha] at c40
        refine s_fg [4] ?_ (ih (r + 1) (by omega) (by rw [hc1]; omega))
        rw [hc1, adS, adC_2 ha (by simpa using c40), ← hA r hr hpr]; rfl
theorem c_X5_boons {N : Nat} {S : Nat → Nat × Nat} {I : Nat → Nat → Int32} {J : Nat → Nat → Int64} {Q : Nat → Nat → Option Nat} {κ : Option Value → HP → Prop} {D : Nat → Nat → Int32} {nv nr ns : Nat} {ad td : Nat → Nat} (X : XS N S I Q D nv nr ns ad td 0) (hW : DW D nv nr ns) {v : Nat} {x th : Int32} (hv : v < nv) (G : GS I Q D x (J 25) th (nI v) nr ad) (hA : ∀ r, r < nr → Pv D x (J 25) th (nI v) r = true → J 26 r = amt D (J 25) r) (hH : ∀ r, r < nr → adB D x (J 25) th r (nI v) = true → I 27 r = hwA D x (J 25) th (nI v) nr r) (hk : κ (some (.long (adS D x (J 25) th (nI v) nr nr))) (N, S, I, J, Q)) : CT E1 M_X5_boons [.ref 24] (N, S, I, J, Q) κ := by
  refine ofSP mk_X5_boons (Nat.le_of_ble_eq_true rfl) (L := [.ref 24, .retAddr _, .retAddr _, .retAddr _, .retAddr _]) rfl ?_
  refine s_lconst (pc' := 1) (v := 0) dX5_boons_0 rfl (by decide) ?_
  refine t_lstore_n (pc' := 2) (L' := [.ref 24, .long _, .retAddr _, .retAddr _, .retAddr _]) dX5_boons_1 rfl (Nat.le_of_ble_eq_true rfl) rfl ?_
  refine s_iconst (pc' := 3) (v := 0) dX5_boons_2 rfl (by decide) ?_
  refine t_istore_n (pc' := 4) (L' := [.ref 24, .long _, .retAddr _, .int _, .retAddr _]) dX5_boons_3 rfl (Nat.le_of_ble_eq_true rfl) rfl ?_
  exact l_X5_boons X hW hv G hA hH hk (cntB (Pv D x (J 25) th (nI v)) nr) 0 (Nat.zero_le _) (by simp [cntB])
