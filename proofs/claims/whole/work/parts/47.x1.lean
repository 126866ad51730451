/-! ===== the class: its small methods ===== -/
theorem int_le {a b : Int32} : a ≤ b ↔ a.toInt ≤ b.toInt := Int32.le_iff_toInt_le
theorem int_lt {a b : Int32} : a < b ↔ a.toInt < b.toInt := Int32.lt_iff_toInt_lt
theorem neg_nI {m : Nat} (hm : m < 100000) : (-(nI m)).toInt = -(m : Int) := by
  rw [Int32.toInt_neg, nI_toInt (by omega)]
  exact Int.bmod_eq_of_le (by omega) (by omega)
theorem within_in {n : Int32} {m : Nat} (hm : m < 100000) (h1 : ¬ n < -(nI m)) (h2 : ¬ nI m < n) : inR n (-(m : Int)) m := by
  rw [int_lt, neg_nI hm] at h1
  rw [int_lt, nI_toInt (by omega)] at h2
  exact ⟨by omega, by omega⟩
theorem within_o1 {n : Int32} {m : Nat} (hm : m < 100000) (h1 : n < -(nI m)) : ¬ inR n (-(m : Int)) m := by
  rw [int_lt, neg_nI hm] at h1
  intro z; have := z.1; omega
theorem within_o2 {n : Int32} {m : Nat} (hm : m < 100000) (h1 : nI m < n) : ¬ inR n (-(m : Int)) m := by
  rw [int_lt, nI_toInt (by omega)] at h1
  intro z; have := z.2; omega
theorem in_15 {v : Int32} (h1 : ¬ v < 1) (h2 : ¬ 5 < v) : inR v 1 5 := by
  rw [int_lt] at h1 h2
  have e1 : (1 : Int32).toInt = 1 := by decide
  have e2 : (5 : Int32).toInt = 5 := by decide
  exact ⟨by omega, by omega⟩
theorem in_15a {v : Int32} (h1 : v < 1) : ¬ inR v 1 5 := by
  rw [int_lt] at h1
  have e1 : (1 : Int32).toInt = 1 := by decide
  intro z; have := z.1; omega
theorem in_15b {v : Int32} (h1 : 5 < v) : ¬ inR v 1 5 := by
  rw [int_lt] at h1
  have e1 : (5 : Int32).toInt = 5 := by decide
  intro z; have := z.2; omega
theorem in_02 {v : Int32} (h1 : ¬ v < 0) (h2 : ¬ 2 < v) : inR v 0 2 := by
  rw [int_lt] at h1 h2
  have e1 : (0 : Int32).toInt = 0 := by decide
  have e2 : (2 : Int32).toInt = 2 := by decide
  exact ⟨by omega, by omega⟩
theorem in_02a {v : Int32} (h1 : v < 0) : ¬ inR v 0 2 := by
  rw [int_lt] at h1
  have e1 : (0 : Int32).toInt = 0 := by decide
  intro z; have := z.1; omega
theorem in_02b {v : Int32} (h1 : 2 < v) : ¬ inR v 0 2 := by
  rw [int_lt] at h1
  have e1 : (2 : Int32).toInt = 2 := by decide
  intro z; have := z.2; omega
/-- the low three bits, and the rest, of a number that is not below 0 -/
theorem and7 {m : Nat} (hm : m < 2 ^ 31) : nI m &&& 7 = nI (m % 8) := pk_andN (by omega) 3 (by decide)
theorem shr3 {m : Nat} (hm : m < 2 ^ 31) : nI m >>> ((3 : Int32) &&& 31) = nI (m / 8) := pk_shrN hm _ 3 (by decide)
theorem and15 {m : Nat} (hm : m < 2 ^ 31) : nI m &&& 15 = nI (m % 16) := pk_andN (by omega) 4 (by decide)
theorem shr4 {m : Nat} (hm : m < 2 ^ 31) : nI m >>> ((4 : Int32) &&& 31) = nI (m / 16) := pk_shrN hm _ 4 (by decide)
theorem shr3_neg {x : Int32} (h : x < 0) : x >>> ((3 : Int32) &&& 31) < 0 := by
  rw [int_lt, pk_shr x _ 3 (by decide), Int32.toInt_zero]
  rw [int_lt, Int32.toInt_zero] at h
  rw [Int.shiftRight_eq_div_pow]
  omega
theorem shr4_neg {x : Int32} (h : x < 0) : x >>> ((4 : Int32) &&& 31) < 0 := by
  rw [int_lt, pk_shr x _ 4 (by decide), Int32.toInt_zero]
  rw [int_lt, Int32.toInt_zero] at h
  rw [Int.shiftRight_eq_div_pow]
  omega
theorem dice_ok {more : Int32} (h1 : ¬ more &&& 7 < 1) (h2 : ¬ 5 < more &&& 7) (h3 : ¬ more >>> ((3 : Int32) &&& 31) < 2) (h4 : ¬ 12 < more >>> ((3 : Int32) &&& 31)) : dOk more := by
  by_cases h0 : more < 0
  · exfalso
    have := shr3_neg h0
    rw [int_lt] at this h3
    have e1 : (0 : Int32).toInt = 0 := by decide
    have e2 : (2 : Int32).toInt = 2 := by decide
    omega
  · obtain ⟨m, hm, rfl⟩ := nI_of h0
    rw [and7 hm] at h1 h2
    rw [shr3 hm] at h3 h4
    have a1 : ¬ m % 8 < 1 := fun z => h1 (nI_lt (b := 1) z (by decide))
    have a2 : ¬ 5 < m % 8 := fun z => h2 (nI_lt (a := 5) z (by omega))
    have a3 : ¬ m / 8 < 2 := fun z => h3 (nI_lt (b := 2) z (by decide))
    have a4 : ¬ 12 < m / 8 := fun z => h4 (nI_lt (a := 12) z (by omega))
    exact ⟨m % 8, m / 8, by omega, by omega, by omega, by omega, by congr 1; omega⟩
theorem dice_bits {more : Int32} (h : dOk more) : ¬ more &&& 7 < 1 ∧ ¬ 5 < more &&& 7 ∧ ¬ more >>> ((3 : Int32) &&& 31) < 2 ∧ ¬ 12 < more >>> ((3 : Int32) &&& 31) := by
  obtain ⟨c, s, h1, h2, h3, h4, rfl⟩ := h
  have hm : c + 8 * s < 2 ^ 31 := by omega
  rw [and7 hm, shr3 hm, show (c + 8 * s) % 8 = c by omega, show (c + 8 * s) / 8 = s by omega]
  exact ⟨nI_nlt (b := 1) h1 (by omega), nI_nlt (a := 5) h2 (by decide), nI_nlt (b := 2) h3 (by omega), nI_nlt (a := 12) h4 (by decide)⟩
theorem bitI_b {x : Int32} {j : Nat} (hj : j < 31) (h : ¬ bitI x (nI j) = 0) : bt x j = true := by
  cases hb : bt x j with
  | true => rfl
  | false => exact absurd ((bitI_0 hj).mpr hb) h
theorem c_X11_refused {N : Nat} {S : Nat → Nat × Nat} {I : Nat → Nat → Int32} {J : Nat → Nat → Int64} {Q : Nat → Nat → Option Nat} {κ : Option Value → HP → Prop} {w : Int32} (hk : κ (some (.int (-1))) (N, S, up2 I 0 5 w, J, Q)) : CT E1 M_X11_refused [.ref 0, .int w] (N, S, I, J, Q) κ := by
  refine ofSP mk_X11_refused (Nat.le_of_ble_eq_true rfl) (L := [.ref 0, .int _]) rfl ?_
  refine s_aload_n (pc' := 1) dX11_refused_0 rfl rfl ?_
  refine s_iload_n (pc' := 2) dX11_refused_1 rfl rfl ?_
  refine t_putI (pc' := 5) dX11_refused_2 rfl sh_0 (by decide) fa_X11_36_11 (Or.inl rfl) rfl rfl rfl ?_
  refine s_iconst (pc' := 6) (v := -1) dX11_refused_5 rfl (by decide) ?_
  exact s_iret dX11_refused_6 rfl (by decide) (by decide) hk
theorem c_X11_done {N : Nat} {S : Nat → Nat × Nat} {I : Nat → Nat → Int32} {J : Nat → Nat → Int64} {Q : Nat → Nat → Option Nat} {κ : Option Value → HP → Prop} {w : Int32} (hk : κ (some (.int w)) (N, S, up2 I 0 5 0, J, Q)) : CT E1 M_X11_done [.ref 0, .int w] (N, S, I, J, Q) κ := by
  refine ofSP mk_X11_done (Nat.le_of_ble_eq_true rfl) (L := [.ref 0, .int _]) rfl ?_
  refine s_aload_n (pc' := 1) dX11_done_0 rfl rfl ?_
  refine s_iconst (pc' := 2) (v := 0) dX11_done_1 rfl (by decide) ?_
  refine t_putI (pc' := 5) dX11_done_2 rfl sh_0 (by decide) fa_X11_36_11 (Or.inl rfl) rfl rfl rfl ?_
  refine s_iload_n (pc' := 6) dX11_done_5 rfl rfl ?_
  exact s_iret dX11_done_6 rfl (by decide) (by decide) hk
theorem c_X11_isWithin {N : Nat} {S : Nat → Nat × Nat} {I : Nat → Nat → Int32} {J : Nat → Nat → Int64} {Q : Nat → Nat → Option Nat} {κ : Option Value → HP → Prop} {n : Int32} {m : Nat} (hm : m < 100000) (ht : inR n (-(m : Int)) m → κ (some (.int 1)) (N, S, I, J, Q)) (hf : ¬ inR n (-(m : Int)) m → κ (some (.int 0)) (N, S, I, J, Q)) : CT E1 M_X11_isWithin [.int n, .int (nI m)] (N, S, I, J, Q) κ := by
  refine ofSP mk_X11_isWithin (Nat.le_of_ble_eq_true rfl) (L := [.int _, .int _]) rfl ?_
  refine s_iload_n (pc' := 1) dX11_isWithin_0 rfl rfl ?_
  refine s_iload_n (pc' := 2) dX11_isWithin_1 rfl rfl ?_
  refine s_ineg (pc' := 3) dX11_isWithin_2 rfl ?_
  refine s_icmplt (pc' := 6) (tgt := 15) dX11_isWithin_3 (by decide) rfl (fun c3 => ?_) (fun c3 => ?_)
  · refine s_iconst (pc' := 16) (v := 0) dX11_isWithin_15 rfl (by decide) ?_
    exact s_zret dX11_isWithin_16 rfl rfl (by decide) (by decide) (hf (within_o1 hm c3))
  · refine s_iload_n (pc' := 7) dX11_isWithin_6 rfl rfl ?_
    refine s_iload_n (pc' := 8) dX11_isWithin_7 rfl rfl ?_
    refine s_icmpgt (pc' := 11) (tgt := 15) dX11_isWithin_8 (by decide) rfl (fun c8 => ?_) (fun c8 => ?_)
    · refine s_iconst (pc' := 16) (v := 0) dX11_isWithin_15 rfl (by decide) ?_
      exact s_zret dX11_isWithin_16 rfl rfl (by decide) (by decide) (hf (within_o2 hm c8))
    · refine s_iconst (pc' := 12) (v := 1) dX11_isWithin_11 rfl (by decide) ?_
      refine s_goto (tgt := 16) dX11_isWithin_12 (by decide) ?_
      exact s_zret dX11_isWithin_16 rfl rfl (by decide) (by decide) (ht (within_in hm c3 c8))
theorem c_X11_isChoice {N : Nat} {S : Nat → Nat × Nat} {I : Nat → Nat → Int32} {J : Nat → Nat → Int64} {Q : Nat → Nat → Option Nat} {κ : Option Value → HP → Prop} {v : Int32} (ht : ∀ j, j < 8 → v = nI j → κ (some (.int 1)) (N, S, I, J, Q)) (hf : (∀ j, j < 8 → v ≠ nI j) → κ (some (.int 0)) (N, S, I, J, Q)) : CT E1 M_X11_isChoice [.int v] (N, S, I, J, Q) κ := by
  refine ofSP mk_X11_isChoice (Nat.le_of_ble_eq_true rfl) (L := [.int _]) rfl ?_
  refine s_iload_n (pc' := 1) dX11_isChoice_0 rfl rfl ?_
  refine s_iflt (pc' := 4) (tgt := 14) dX11_isChoice_1 (by decide) rfl (fun c1 => ?_) (fun c1 => ?_)
  · refine s_iconst (pc' := 15) (v := 0) dX11_isChoice_14 rfl (by decide) ?_
    exact s_zret dX11_isChoice_15 rfl rfl (by decide) (by decide) (hf (fun j hj e => nI_pos (n := j) (by omega) (e ▸ c1)))
  · refine s_iload_n (pc' := 5) dX11_isChoice_4 rfl rfl ?_
    refine s_bipush (pc' := 7) (v := 8) dX11_isChoice_5 rfl (by decide) ?_
    refine s_icmpge (pc' := 10) (tgt := 14) dX11_isChoice_7 (by decide) rfl (fun c7 => ?_) (fun c7 => ?_)
    · refine s_iconst (pc' := 15) (v := 0) dX11_isChoice_14 rfl (by decide) ?_
      exact s_zret dX11_isChoice_15 rfl rfl (by decide) (by decide) (hf (fun j hj e => nI_ge hj (by decide) (by rw [e] at c7; exact c7)))
    · refine s_iconst (pc' := 11) (v := 1) dX11_isChoice_10 rfl (by decide) ?_
      refine s_goto (tgt := 15) dX11_isChoice_11 (by decide) ?_
      exact s_zret dX11_isChoice_15 rfl rfl (by decide) (by decide) (by obtain ⟨j, hj, e⟩ := ix_in c1 (show ¬ nI 8 ≤ v from c7) (by decide); exact ht j hj e)
theorem c_X11_isSet {N : Nat} {S : Nat → Nat × Nat} {I : Nat → Nat → Int32} {J : Nat → Nat → Int64} {Q : Nat → Nat → Option Nat} {κ : Option Value → HP → Prop} {v : Int32} (ht : ∀ j, j < 256 → v = nI j → κ (some (.int 1)) (N, S, I, J, Q)) (hf : (∀ j, j < 256 → v ≠ nI j) → κ (some (.int 0)) (N, S, I, J, Q)) : CT E1 M_X11_isSet [.int v] (N, S, I, J, Q) κ := by
  refine ofSP mk_X11_isSet (Nat.le_of_ble_eq_true rfl) (L := [.int _]) rfl ?_
  refine s_iload_n (pc' := 1) dX11_isSet_0 rfl rfl ?_
  refine s_iflt (pc' := 4) (tgt := 15) dX11_isSet_1 (by decide) rfl (fun c1 => ?_) (fun c1 => ?_)
  · refine s_iconst (pc' := 16) (v := 0) dX11_isSet_15 rfl (by decide) ?_
    exact s_zret dX11_isSet_16 rfl rfl (by decide) (by decide) (hf (fun j hj e => nI_pos (n := j) (by omega) (e ▸ c1)))
  · refine s_iload_n (pc' := 5) dX11_isSet_4 rfl rfl ?_
    refine s_sipush (pc' := 8) (v := 256) dX11_isSet_5 rfl (by decide) ?_
    refine s_icmpge (pc' := 11) (tgt := 15) dX11_isSet_8 (by decide) rfl (fun c8 => ?_) (fun c8 => ?_)
    · refine s_iconst (pc' := 16) (v := 0) dX11_isSet_15 rfl (by decide) ?_
      exact s_zret dX11_isSet_16 rfl rfl (by decide) (by decide) (hf (fun j hj e => nI_ge hj (by decide) (by rw [e] at c8; exact c8)))
    · refine s_iconst (pc' := 12) (v := 1) dX11_isSet_11 rfl (by decide) ?_
      refine s_goto (tgt := 16) dX11_isSet_12 (by decide) ?_
      exact s_zret dX11_isSet_16 rfl rfl (by decide) (by decide) (by obtain ⟨j, hj, e⟩ := ix_in c1 (show ¬ nI 256 ≤ v from c8) (by decide); exact ht j hj e)
theorem c_X11_isRow {N : Nat} {S : Nat → Nat × Nat} {I : Nat → Nat → Int32} {J : Nat → Nat → Int64} {Q : Nat → Nat → Option Nat} {κ : Option Value → HP → Prop} {v : Int32} (ht : ∀ j, j < 4 → v = nI j → κ (some (.int 1)) (N, S, I, J, Q)) (hf : (∀ j, j < 4 → v ≠ nI j) → κ (some (.int 0)) (N, S, I, J, Q)) : CT E1 M_X11_isRow [.int v] (N, S, I, J, Q) κ := by
  refine ofSP mk_X11_isRow (Nat.le_of_ble_eq_true rfl) (L := [.int _]) rfl ?_
  refine s_iload_n (pc' := 1) dX11_isRow_0 rfl rfl ?_
  refine s_iflt (pc' := 4) (tgt := 13) dX11_isRow_1 (by decide) rfl (fun c1 => ?_) (fun c1 => ?_)
  · refine s_iconst (pc' := 14) (v := 0) dX11_isRow_13 rfl (by decide) ?_
    exact s_zret dX11_isRow_14 rfl rfl (by decide) (by decide) (hf (fun j hj e => nI_pos (n := j) (by omega) (e ▸ c1)))
  · refine s_iload_n (pc' := 5) dX11_isRow_4 rfl rfl ?_
    refine s_iconst (pc' := 6) (v := 4) dX11_isRow_5 rfl (by decide) ?_
    refine s_icmpge (pc' := 9) (tgt := 13) dX11_isRow_6 (by decide) rfl (fun c6 => ?_) (fun c6 => ?_)
    · refine s_iconst (pc' := 14) (v := 0) dX11_isRow_13 rfl (by decide) ?_
      exact s_zret dX11_isRow_14 rfl rfl (by decide) (by decide) (hf (fun j hj e => nI_ge hj (by decide) (by rw [e] at c6; exact c6)))
    · refine s_iconst (pc' := 10) (v := 1) dX11_isRow_9 rfl (by decide) ?_
      refine s_goto (tgt := 14) dX11_isRow_10 (by decide) ?_
      exact s_zret dX11_isRow_14 rfl rfl (by decide) (by decide) (by obtain ⟨j, hj, e⟩ := ix_in c1 (show ¬ nI 4 ≤ v from c6) (by decide); exact ht j hj e)
theorem c_X11_isSetOrMade {N : Nat} {S : Nat → Nat × Nat} {I : Nat → Nat → Int32} {J : Nat → Nat → Int64} {Q : Nat → Nat → Option Nat} {κ : Option Value → HP → Prop} {v : Int32} (ht : v = -1 → κ (some (.int 1)) (N, S, I, J, Q)) (ht2 : v ≠ -1 → ∀ j, j < 256 → v = nI j → κ (some (.int 1)) (N, S, I, J, Q)) (hf : v ≠ -1 → (∀ j, j < 256 → v ≠ nI j) → κ (some (.int 0)) (N, S, I, J, Q)) : CT E1 M_X11_isSetOrMade [.int v] (N, S, I, J, Q) κ := by
  refine ofSP mk_X11_isSetOrMade (Nat.le_of_ble_eq_true rfl) (L := [.int _]) rfl ?_
  refine s_iload_n (pc' := 1) dX11_isSetOrMade_0 rfl rfl ?_
  refine s_iconst (pc' := 2) (v := -1) dX11_isSetOrMade_1 rfl (by decide) ?_
  refine s_icmpeq (pc' := 5) (tgt := 12) dX11_isSetOrMade_2 (by decide) rfl (fun c2 => ?_) (fun c2 => ?_)
  · refine s_iconst (pc' := 13) (v := 1) dX11_isSetOrMade_12 rfl (by decide) ?_
    refine s_goto (tgt := 17) dX11_isSetOrMade_13 (by decide) ?_
    exact s_zret dX11_isSetOrMade_17 rfl rfl (by decide) (by decide) (ht c2)
  · refine s_iload_n (pc' := 6) dX11_isSetOrMade_5 rfl rfl ?_
    refine s_callS (pc' := 9) (As := [.int _]) dX11_isSetOrMade_6 rfl mk_X11_isSet ml_X11_282 sm_X11_isSet rfl rfl ⟨Nat.le_of_ble_eq_true rfl, Nat.le_of_ble_eq_true rfl, Nat.le_of_ble_eq_true rfl, Nat.le_of_ble_eq_true rfl⟩ (Nat.le_of_ble_eq_true rfl) (c_X11_isSet (fun j6 hj6 e6 => ?_) (fun n6 => ?_))
    · refine s_ifeqF (pc' := 12) (tgt := 16) dX11_isSetOrMade_9 (by decide) rfl (by decide) ?_
      refine s_iconst (pc' := 13) (v := 1) dX11_isSetOrMade_12 rfl (by decide) ?_
      refine s_goto (tgt := 17) dX11_isSetOrMade_13 (by decide) ?_
      exact s_zret dX11_isSetOrMade_17 rfl rfl (by decide) (by decide) (ht2 c2 j6 hj6 e6)
    · refine s_ifeqT (tgt := 16) dX11_isSetOrMade_9 (by decide) (by decide) ?_
      refine s_iconst (pc' := 17) (v := 0) dX11_isSetOrMade_16 rfl (by decide) ?_
      exact s_zret dX11_isSetOrMade_17 rfl rfl (by decide) (by decide) (hf c2 n6)
theorem c_X11_madeOr {N : Nat} {S : Nat → Nat × Nat} {I : Nat → Nat → Int32} {J : Nat → Nat → Int64} {Q : Nat → Nat → Option Nat} {κ : Option Value → HP → Prop} {v : Int32} (h1 : v = -1 → κ (some (.int (I 1 14))) (N, S, I, J, Q)) (h2 : v ≠ -1 → κ (some (.int v)) (N, S, I, J, Q)) : CT E1 M_X11_madeOr [.ref 0, .int v] (N, S, I, J, Q) κ := by
  refine ofSP mk_X11_madeOr (Nat.le_of_ble_eq_true rfl) (L := [.ref 0, .int _]) rfl ?_
  refine s_iload_n (pc' := 1) dX11_madeOr_0 rfl rfl ?_
  refine s_iconst (pc' := 2) (v := -1) dX11_madeOr_1 rfl (by decide) ?_
  refine s_icmpne (pc' := 5) (tgt := 15) dX11_madeOr_2 (by decide) rfl (fun c2 => ?_) (fun c2 => ?_)
  · refine s_iload_n (pc' := 16) dX11_madeOr_15 rfl rfl ?_
    exact s_iret dX11_madeOr_16 rfl (by decide) (by decide) (h2 c2)
  · refine s_aload_n (pc' := 6) dX11_madeOr_5 rfl rfl ?_
    refine s_getS (pc' := 9) (b := 1) dX11_madeOr_6 rfl (by decide) rfl (by decide) fa_X11_10_11 rfl rfl ?_
    refine t_getI (pc' := 12) dX11_madeOr_9 rfl sh_1 (by decide) fa_X11_142_8 rfl ?_
    refine s_goto (tgt := 16) dX11_madeOr_12 (by decide) ?_
    exact s_iret dX11_madeOr_16 rfl (by decide) (by decide) (h1 (by simpa using c2))
theorem c_X11_isType {N : Nat} {S : Nat → Nat × Nat} {I : Nat → Nat → Int32} {J : Nat → Nat → Int64} {Q : Nat → Nat → Option Nat} {κ : Option Value → HP → Prop} {v : Int32} (ht : inR v 1 5 → κ (some (.int 1)) (N, S, I, J, Q)) (hf : ¬ inR v 1 5 → κ (some (.int 0)) (N, S, I, J, Q)) : CT E1 M_X11_isType [.int v] (N, S, I, J, Q) κ := by
  refine ofSP mk_X11_isType (Nat.le_of_ble_eq_true rfl) (L := [.int _]) rfl ?_
  refine s_iload_n (pc' := 1) dX11_isType_0 rfl rfl ?_
  refine s_iconst (pc' := 2) (v := 1) dX11_isType_1 rfl (by decide) ?_
  refine s_icmplt (pc' := 5) (tgt := 14) dX11_isType_2 (by decide) rfl (fun c2 => ?_) (fun c2 => ?_)
  · refine s_iconst (pc' := 15) (v := 0) dX11_isType_14 rfl (by decide) ?_
    exact s_zret dX11_isType_15 rfl rfl (by decide) (by decide) (hf (in_15a c2))
  · refine s_iload_n (pc' := 6) dX11_isType_5 rfl rfl ?_
    refine s_iconst (pc' := 7) (v := 5) dX11_isType_6 rfl (by decide) ?_
    refine s_icmpgt (pc' := 10) (tgt := 14) dX11_isType_7 (by decide) rfl (fun c7 => ?_) (fun c7 => ?_)
    · refine s_iconst (pc' := 15) (v := 0) dX11_isType_14 rfl (by decide) ?_
      exact s_zret dX11_isType_15 rfl rfl (by decide) (by decide) (hf (in_15b c7))
    · refine s_iconst (pc' := 11) (v := 1) dX11_isType_10 rfl (by decide) ?_
      refine s_goto (tgt := 15) dX11_isType_11 (by decide) ?_
      exact s_zret dX11_isType_15 rfl rfl (by decide) (by decide) (ht (in_15 c2 c7))
theorem c_X11_isSort {N : Nat} {S : Nat → Nat × Nat} {I : Nat → Nat → Int32} {J : Nat → Nat → Int64} {Q : Nat → Nat → Option Nat} {κ : Option Value → HP → Prop} {v : Int32} (ht : inR v 0 2 → κ (some (.int 1)) (N, S, I, J, Q)) (hf : ¬ inR v 0 2 → κ (some (.int 0)) (N, S, I, J, Q)) : CT E1 M_X11_isSort [.int v] (N, S, I, J, Q) κ := by
  refine ofSP mk_X11_isSort (Nat.le_of_ble_eq_true rfl) (L := [.int _]) rfl ?_
  refine s_iload_n (pc' := 1) dX11_isSort_0 rfl rfl ?_
  refine s_iflt (pc' := 4) (tgt := 13) dX11_isSort_1 (by decide) rfl (fun c1 => ?_) (fun c1 => ?_)
  · refine s_iconst (pc' := 14) (v := 0) dX11_isSort_13 rfl (by decide) ?_
    exact s_zret dX11_isSort_14 rfl rfl (by decide) (by decide) (hf (in_02a c1))
  · refine s_iload_n (pc' := 5) dX11_isSort_4 rfl rfl ?_
    refine s_iconst (pc' := 6) (v := 2) dX11_isSort_5 rfl (by decide) ?_
    refine s_icmpgt (pc' := 9) (tgt := 13) dX11_isSort_6 (by decide) rfl (fun c6 => ?_) (fun c6 => ?_)
    · refine s_iconst (pc' := 14) (v := 0) dX11_isSort_13 rfl (by decide) ?_
      exact s_zret dX11_isSort_14 rfl rfl (by decide) (by decide) (hf (in_02b c6))
    · refine s_iconst (pc' := 10) (v := 1) dX11_isSort_9 rfl (by decide) ?_
      refine s_goto (tgt := 14) dX11_isSort_10 (by decide) ?_
      exact s_zret dX11_isSort_14 rfl rfl (by decide) (by decide) (ht (in_02 c1 c6))
theorem c_X11_areDice {N : Nat} {S : Nat → Nat × Nat} {I : Nat → Nat → Int32} {J : Nat → Nat → Int64} {Q : Nat → Nat → Option Nat} {κ : Option Value → HP → Prop} {v : Int32} (ht : dOk v → κ (some (.int 1)) (N, S, I, J, Q)) (hf : ¬ dOk v → κ (some (.int 0)) (N, S, I, J, Q)) : CT E1 M_X11_areDice [.int v] (N, S, I, J, Q) κ := by
  refine ofSP mk_X11_areDice (Nat.le_of_ble_eq_true rfl) (L := [.int _, .retAddr _, .retAddr _]) rfl ?_
  refine s_iload_n (pc' := 1) dX11_areDice_0 rfl rfl ?_
  refine s_bipush (pc' := 3) (v := 7) dX11_areDice_1 rfl (by decide) ?_
  refine s_iand (pc' := 4) dX11_areDice_3 rfl ?_
  refine t_istore_n (pc' := 5) (L' := [.int _, .int _, .retAddr _]) dX11_areDice_4 rfl (Nat.le_of_ble_eq_true rfl) rfl ?_
  refine s_iload_n (pc' := 6) dX11_areDice_5 rfl rfl ?_
  refine s_iconst (pc' := 7) (v := 3) dX11_areDice_6 rfl (by decide) ?_
  refine s_ishr (pc' := 8) dX11_areDice_7 rfl ?_
  refine t_istore_n (pc' := 9) (L' := [.int _, .int _, .int _]) dX11_areDice_8 rfl (Nat.le_of_ble_eq_true rfl) rfl ?_
  refine s_iload_n (pc' := 10) dX11_areDice_9 rfl rfl ?_
  refine s_iconst (pc' := 11) (v := 1) dX11_areDice_10 rfl (by decide) ?_
  refine s_icmplt (pc' := 14) (tgt := 34) dX11_areDice_11 (by decide) rfl (fun c11 => ?_) (fun c11 => ?_)
  · refine s_iconst (pc' := 35) (v := 0) dX11_areDice_34 rfl (by decide) ?_
    exact s_zret dX11_areDice_35 rfl rfl (by decide) (by decide) (hf (fun z => (dice_bits z).1 c11))
  · refine s_iload_n (pc' := 15) dX11_areDice_14 rfl rfl ?_
    refine s_iconst (pc' := 16) (v := 5) dX11_areDice_15 rfl (by decide) ?_
    refine s_icmpgt (pc' := 19) (tgt := 34) dX11_areDice_16 (by decide) rfl (fun c16 => ?_) (fun c16 => ?_)
    · refine s_iconst (pc' := 35) (v := 0) dX11_areDice_34 rfl (by decide) ?_
      exact s_zret dX11_areDice_35 rfl rfl (by decide) (by decide) (hf (fun z => (dice_bits z).2.1 c16))
    · refine s_iload_n (pc' := 20) dX11_areDice_19 rfl rfl ?_
      refine s_iconst (pc' := 21) (v := 2) dX11_areDice_20 rfl (by decide) ?_
      refine s_icmplt (pc' := 24) (tgt := 34) dX11_areDice_21 (by decide) rfl (fun c21 => ?_) (fun c21 => ?_)
      · refine s_iconst (pc' := 35) (v := 0) dX11_areDice_34 rfl (by decide) ?_
        exact s_zret dX11_areDice_35 rfl rfl (by decide) (by decide) (hf (fun z => (dice_bits z).2.2.1 c21))
      · refine s_iload_n (pc' := 25) dX11_areDice_24 rfl rfl ?_
        refine s_bipush (pc' := 27) (v := 12) dX11_areDice_25 rfl (by decide) ?_
        refine s_icmpgt (pc' := 30) (tgt := 34) dX11_areDice_27 (by decide) rfl (fun c27 => ?_) (fun c27 => ?_)
        · refine s_iconst (pc' := 35) (v := 0) dX11_areDice_34 rfl (by decide) ?_
          exact s_zret dX11_areDice_35 rfl rfl (by decide) (by decide) (hf (fun z => (dice_bits z).2.2.2 c27))
        · refine s_iconst (pc' := 31) (v := 1) dX11_areDice_30 rfl (by decide) ?_
          refine s_goto (tgt := 35) dX11_areDice_31 (by decide) ?_
          exact s_zret dX11_areDice_35 rfl rfl (by decide) (by decide) (ht (dice_ok c11 c16 c21 c27))
theorem c_X11_isValue {N : Nat} {S : Nat → Nat × Nat} {I : Nat → Nat → Int32} {J : Nat → Nat → Int64} {Q : Nat → Nat → Option Nat} {κ : Option Value → HP → Prop} {v : Int32} {nv : Nat} (hv : I 1 0 = nI nv) (hn : nv < 1000) (ht : ∀ j, j < nv → v = nI j → κ (some (.int 1)) (N, S, I, J, Q)) (hf : (∀ j, j < nv → v ≠ nI j) → κ (some (.int 0)) (N, S, I, J, Q)) : CT E1 M_X11_isValue [.ref 0, .int v] (N, S, I, J, Q) κ := by
  refine ofSP mk_X11_isValue (Nat.le_of_ble_eq_true rfl) (L := [.ref 0, .int _]) rfl ?_
  refine s_iload_n (pc' := 1) dX11_isValue_0 rfl rfl ?_
  refine s_iflt (pc' := 4) (tgt := 19) dX11_isValue_1 (by decide) rfl (fun c1 => ?_) (fun c1 => ?_)
  · refine s_iconst (pc' := 20) (v := 0) dX11_isValue_19 rfl (by decide) ?_
    exact s_zret dX11_isValue_20 rfl rfl (by decide) (by decide) (hf (fun j hj e => nI_pos (n := j) (by omega) (e ▸ c1)))
  · refine s_iload_n (pc' := 5) dX11_isValue_4 rfl rfl ?_
    refine s_aload_n (pc' := 6) dX11_isValue_5 rfl rfl ?_
    refine s_getS (pc' := 9) (b := 1) dX11_isValue_6 rfl (by decide) rfl (by decide) fa_X11_10_11 rfl rfl ?_
    refine t_getI (pc' := 12) dX11_isValue_9 rfl sh_1 (by decide) fa_X11_91_8 rfl ?_
    refine s_icmpge (pc' := 15) (tgt := 19) dX11_isValue_12 (by decide) rfl (fun c12 => ?_) (fun c12 => ?_)
    · refine s_iconst (pc' := 20) (v := 0) dX11_isValue_19 rfl (by decide) ?_
      exact s_zret dX11_isValue_20 rfl rfl (by decide) (by decide) (hf (fun j hj e => nI_ge hj (by omega) (by rw [hv, e] at c12; exact c12)))
    · refine s_iconst (pc' := 16) (v := 1) dX11_isValue_15 rfl (by decide) ?_
      refine s_goto (tgt := 20) dX11_isValue_16 (by decide) ?_
      exact s_zret dX11_isValue_20 rfl rfl (by decide) (by decide) (by rw [hv] at c12; obtain ⟨j, hj, e⟩ := ix_in c1 c12 hn; exact ht j hj e)
theorem c_X11_isOfKind {N : Nat} {S : Nat → Nat × Nat} {I : Nat → Nat → Int32} {J : Nat → Nat → Int64} {Q : Nat → Nat → Option Nat} {κ : Option Value → HP → Prop} {v kd : Int32} {nv : Nat} (hv : I 1 0 = nI nv) (hn : nv ≤ 10) (ht : ∀ j, j < nv → v = nI j → I 2 j = kd → κ (some (.int 1)) (N, S, I, J, Q)) (hf : (∀ j, j < nv → v = nI j → I 2 j ≠ kd) → κ (some (.int 0)) (N, S, I, J, Q)) : CT E1 M_X11_isOfKind [.ref 0, .int v, .int kd] (N, S, I, J, Q) κ := by
  refine ofSP mk_X11_isOfKind (Nat.le_of_ble_eq_true rfl) (L := [.ref 0, .int _, .int _]) rfl ?_
  refine s_aload_n (pc' := 1) dX11_isOfKind_0 rfl rfl ?_
  refine s_iload_n (pc' := 2) dX11_isOfKind_1 rfl rfl ?_
  refine s_callV (pc' := 5) (As := [.int _]) dX11_isOfKind_2 rfl mk_X11_isValue ml_X11_113 im_X11_isValue se_X11_X11_X11_isValue sh_0 (by decide) rfl rfl rfl ⟨Nat.le_of_ble_eq_true rfl, Nat.le_of_ble_eq_true rfl, Nat.le_of_ble_eq_true rfl, Nat.le_of_ble_eq_true rfl⟩ (Nat.le_of_ble_eq_true rfl) (c_X11_isValue hv (by omega) (fun j2 hj2 e2 => ?_) (fun n2 => ?_))
  · subst e2
    refine s_ifeqF (pc' := 8) (tgt := 25) dX11_isOfKind_5 (by decide) rfl (by decide) ?_
    refine s_aload_n (pc' := 9) dX11_isOfKind_8 rfl rfl ?_
    refine s_getS (pc' := 12) (b := 1) dX11_isOfKind_9 rfl (by decide) rfl (by decide) fa_X11_10_11 rfl rfl ?_
    refine s_getS (pc' := 15) (b := 2) dX11_isOfKind_12 rfl (by decide) rfl (by decide) fa_X11_179_8 rfl rfl ?_
    refine s_iload_n (pc' := 16) dX11_isOfKind_15 rfl rfl ?_
    refine t_iald (pc' := 17) dX11_isOfKind_16 rfl sh_2 rfl (by omega) ?_
    refine s_iload_n (pc' := 18) dX11_isOfKind_17 rfl rfl ?_
    refine s_icmpne (pc' := 21) (tgt := 25) dX11_isOfKind_18 (by decide) rfl (fun c18 => ?_) (fun c18 => ?_)
    · refine s_iconst (pc' := 26) (v := 0) dX11_isOfKind_25 rfl (by decide) ?_
      exact s_zret dX11_isOfKind_26 rfl rfl (by decide) (by decide) (hf (fun j hj e => by rw [← (nI_eq (by omega) (by omega)).mp e]; exact c18))
    · refine s_iconst (pc' := 22) (v := 1) dX11_isOfKind_21 rfl (by decide) ?_
      refine s_goto (tgt := 26) dX11_isOfKind_22 (by decide) ?_
      exact s_zret dX11_isOfKind_26 rfl rfl (by decide) (by decide) (ht j2 hj2 rfl c18)
  · refine s_ifeqT (tgt := 25) dX11_isOfKind_5 (by decide) (by decide) ?_
    refine s_iconst (pc' := 26) (v := 0) dX11_isOfKind_25 rfl (by decide) ?_
    exact s_zret dX11_isOfKind_26 rfl rfl (by decide) (by decide) (hf (fun j hj e _ => n2 j hj e))
theorem nnull {E : EV} {M : MD} {κ : Option Value → HP → Prop} {a : Nat} {h : HP} (hk : κ (some (.ref a)) h) : κ (some (.ref a)) h := hk
theorem c_X11_ruleOrNull {N : Nat} {S : Nat → Nat × Nat} {I : Nat → Nat → Int32} {J : Nat → Nat → Int64} {Q : Nat → Nat → Option Nat} {κ : Option Value → HP → Prop} {v : Int32} {nr : Nat} (hv : I 1 7 = nI nr) (hn : nr ≤ 30) (hR : ∀ r, r < nr → ∃ a, Q 8 r = some a) (ht : ∀ j a, j < nr → v = nI j → Q 8 j = some a → κ (some (.ref a)) (N, S, I, J, Q)) (hf : (∀ j, j < nr → v ≠ nI j) → κ (some .null) (N, S, I, J, Q)) : CT E1 M_X11_ruleOrNull [.ref 0, .int v] (N, S, I, J, Q) κ := by
  refine ofSP mk_X11_ruleOrNull (Nat.le_of_ble_eq_true rfl) (L := [.ref 0, .int _]) rfl ?_
  refine s_iload_n (pc' := 1) dX11_ruleOrNull_0 rfl rfl ?_
  refine s_iflt (pc' := 4) (tgt := 27) dX11_ruleOrNull_1 (by decide) rfl (fun c1 => ?_) (fun c1 => ?_)
  · refine s_null (pc' := 28) dX11_ruleOrNull_27 rfl ?_
    exact s_aretN dX11_ruleOrNull_28 rfl (by decide) (by decide) (hf (fun j hj e => nI_pos (n := j) (by omega) (e ▸ c1)))
  · refine s_iload_n (pc' := 5) dX11_ruleOrNull_4 rfl rfl ?_
    refine s_aload_n (pc' := 6) dX11_ruleOrNull_5 rfl rfl ?_
    refine s_getS (pc' := 9) (b := 1) dX11_ruleOrNull_6 rfl (by decide) rfl (by decide) fa_X11_10_11 rfl rfl ?_
    refine t_getI (pc' := 12) dX11_ruleOrNull_9 rfl sh_1 (by decide) fa_X11_133_8 rfl ?_
    refine s_icmpge (pc' := 15) (tgt := 27) dX11_ruleOrNull_12 (by decide) rfl (fun c12 => ?_) (fun c12 => ?_)
    · refine s_null (pc' := 28) dX11_ruleOrNull_27 rfl ?_
      exact s_aretN dX11_ruleOrNull_28 rfl (by decide) (by decide) (hf (fun j hj e => nI_ge hj (by omega) (by rw [hv, e] at c12; exact c12)))
    · rw [hv] at c12
      obtain ⟨j, hj, e⟩ := ix_in c1 c12 (by omega)
      subst e
      obtain ⟨a, ha⟩ := hR j hj
      refine s_aload_n (pc' := 16) dX11_ruleOrNull_15 rfl rfl ?_
      refine s_getS (pc' := 19) (b := 1) dX11_ruleOrNull_16 rfl (by decide) rfl (by decide) fa_X11_10_11 rfl rfl ?_
      refine s_getS (pc' := 22) (b := 8) dX11_ruleOrNull_19 rfl (by decide) rfl (by decide) fa_X11_354_8 rfl rfl ?_
      refine s_iload_n (pc' := 23) dX11_ruleOrNull_22 rfl rfl ?_
      refine t_aald (pc' := 24) dX11_ruleOrNull_23 rfl (Or.inl rfl) sh_8 rfl (by omega) ha ?_
      refine s_goto (tgt := 28) dX11_ruleOrNull_24 (by decide) ?_
      exact s_aret dX11_ruleOrNull_28 rfl (by decide) (by decide) (ht j a hj rfl ha)
theorem c_X11_hasBit {N : Nat} {S : Nat → Nat × Nat} {I : Nat → Nat → Int32} {J : Nat → Nat → Int64} {Q : Nat → Nat → Option Nat} {κ : Option Value → HP → Prop} {x i : Int32} (ht : bitI x i ≠ 0 → κ (some (.int 1)) (N, S, I, J, Q)) (hf : bitI x i = 0 → κ (some (.int 0)) (N, S, I, J, Q)) : CT E1 M_X11_hasBit [.int x, .int i] (N, S, I, J, Q) κ := by
  refine ofSP mk_X11_hasBit (Nat.le_of_ble_eq_true rfl) (L := [.int _, .int _]) rfl ?_
  refine s_iload_n (pc' := 1) dX11_hasBit_0 rfl rfl ?_
  refine s_iload_n (pc' := 2) dX11_hasBit_1 rfl rfl ?_
  refine s_ishr (pc' := 3) dX11_hasBit_2 rfl ?_
  refine s_iconst (pc' := 4) (v := 1) dX11_hasBit_3 rfl (by decide) ?_
  refine s_iand (pc' := 5) dX11_hasBit_4 rfl ?_
  refine s_ifeq (pc' := 8) (tgt := 12) dX11_hasBit_5 (by decide) rfl (fun c5 => ?_) (fun c5 => ?_)
  · refine s_iconst (pc' := 13) (v := 0) dX11_hasBit_12 rfl (by decide) ?_
    exact s_zret dX11_hasBit_13 rfl rfl (by decide) (by decide) (hf c5)
  · refine s_iconst (pc' := 9) (v := 1) dX11_hasBit_8 rfl (by decide) ?_
    refine s_goto (tgt := 13) dX11_hasBit_9 (by decide) ?_
    exact s_zret dX11_hasBit_13 rfl rfl (by decide) (by decide) (ht c5)
theorem e_hasBit {N : Nat} {S : Nat → Nat × Nat} {I : Nat → Nat → Int32} {J : Nat → Nat → Int64} {Q : Nat → Nat → Option Nat} {κ : Option Value → HP → Prop} {x i : Int32} {j : Nat} (hi : i = nI j) (hj : j < 31) (ht : bt x j = true → κ (some (.int 1)) (N, S, I, J, Q)) (hf : bt x j = false → κ (some (.int 0)) (N, S, I, J, Q)) : CT E1 M_X11_hasBit [.int x, .int i] (N, S, I, J, Q) κ := by
  subst hi
  exact c_X11_hasBit (fun c => ht (bitI_b hj c)) (fun c => hf ((bitI_0 hj).mp c))
theorem c_X11_withBit {N : Nat} {S : Nat → Nat × Nat} {I : Nat → Nat → Int32} {J : Nat → Nat → Int64} {Q : Nat → Nat → Option Nat} {κ : Option Value → HP → Prop} {x i b : Int32} (hk : κ (some (.int (wbi x i b))) (N, S, I, J, Q)) : CT E1 M_X11_withBit [.int x, .int i, .int b] (N, S, I, J, Q) κ := by
  refine ofSP mk_X11_withBit (Nat.le_of_ble_eq_true rfl) (L := [.int _, .int _, .int _]) rfl ?_
  refine s_iload_n (pc' := 1) dX11_withBit_0 rfl rfl ?_
  refine s_ifeq (pc' := 4) (tgt := 12) dX11_withBit_1 (by decide) rfl (fun c1 => ?_) (fun c1 => ?_)
  · refine s_iload_n (pc' := 13) dX11_withBit_12 rfl rfl ?_
    refine s_iconst (pc' := 14) (v := 1) dX11_withBit_13 rfl (by decide) ?_
    refine s_iload_n (pc' := 15) dX11_withBit_14 rfl rfl ?_
    refine s_ishl (pc' := 16) dX11_withBit_15 rfl ?_
    refine s_iconst (pc' := 17) (v := -1) dX11_withBit_16 rfl (by decide) ?_
    refine s_ixor (pc' := 18) dX11_withBit_17 rfl ?_
    refine s_iand (pc' := 19) dX11_withBit_18 rfl ?_
    exact s_iret dX11_withBit_19 rfl (by decide) (by decide) (by rw [wbi_0 c1] at hk; exact hk)
  · refine s_iload_n (pc' := 5) dX11_withBit_4 rfl rfl ?_
    refine s_iconst (pc' := 6) (v := 1) dX11_withBit_5 rfl (by decide) ?_
    refine s_iload_n (pc' := 7) dX11_withBit_6 rfl rfl ?_
    refine s_ishl (pc' := 8) dX11_withBit_7 rfl ?_
    refine s_ior (pc' := 9) dX11_withBit_8 rfl ?_
    refine s_goto (tgt := 19) dX11_withBit_9 (by decide) ?_
    exact s_iret dX11_withBit_19 rfl (by decide) (by decide) (by rw [wbi_1 c1] at hk; exact hk)
theorem c_X11_bit {N : Nat} {S : Nat → Nat × Nat} {I : Nat → Nat → Int32} {J : Nat → Nat → Int64} {Q : Nat → Nat → Option Nat} {κ : Option Value → HP → Prop} {b : Int32} (h1 : b ≠ 0 → κ (some (.int 1)) (N, S, I, J, Q)) (h0 : b = 0 → κ (some (.int 0)) (N, S, I, J, Q)) : CT E1 M_X11_bit [.int b] (N, S, I, J, Q) κ := by
  refine ofSP mk_X11_bit (Nat.le_of_ble_eq_true rfl) (L := [.int _]) rfl ?_
  refine s_iload_n (pc' := 1) dX11_bit_0 rfl rfl ?_
  refine s_ifeq (pc' := 4) (tgt := 8) dX11_bit_1 (by decide) rfl (fun c1 => ?_) (fun c1 => ?_)
  · refine s_iconst (pc' := 9) (v := 0) dX11_bit_8 rfl (by decide) ?_
    exact s_iret dX11_bit_9 rfl (by decide) (by decide) (h0 c1)
  · refine s_iconst (pc' := 5) (v := 1) dX11_bit_4 rfl (by decide) ?_
    refine s_goto (tgt := 9) dX11_bit_5 (by decide) ?_
    exact s_iret dX11_bit_9 rfl (by decide) (by decide) (h1 c1)
theorem c_X8_diceCount {N : Nat} {S : Nat → Nat × Nat} {I : Nat → Nat → Int32} {J : Nat → Nat → Int64} {Q : Nat → Nat → Option Nat} {κ : Option Value → HP → Prop} {v : Nat} (hv : v < 10) (hk : κ (some (.int (I 5 v &&& 7))) (N, S, I, J, Q)) : CT E1 M_X8_diceCount [.ref 1, .int (nI v)] (N, S, I, J, Q) κ := by
  refine ofSP mk_X8_diceCount (Nat.le_of_ble_eq_true rfl) (L := [.ref 1, .int _]) rfl ?_
  refine s_aload_n (pc' := 1) dX8_diceCount_0 rfl rfl ?_
  refine s_getS (pc' := 4) (b := 5) dX8_diceCount_1 rfl (by decide) rfl (by decide) fa_X8_25_8 rfl rfl ?_
  refine s_iload_n (pc' := 5) dX8_diceCount_4 rfl rfl ?_
  refine t_iald (pc' := 6) dX8_diceCount_5 rfl sh_5 rfl hv ?_
  refine s_bipush (pc' := 8) (v := 7) dX8_diceCount_6 rfl (by decide) ?_
  refine s_iand (pc' := 9) dX8_diceCount_8 rfl ?_
  exact s_iret dX8_diceCount_9 rfl (by decide) (by decide) hk
theorem c_X8_diceSides {N : Nat} {S : Nat → Nat × Nat} {I : Nat → Nat → Int32} {J : Nat → Nat → Int64} {Q : Nat → Nat → Option Nat} {κ : Option Value → HP → Prop} {v : Nat} (hv : v < 10) (hk : κ (some (.int (I 5 v >>> ((3 : Int32) &&& 31)))) (N, S, I, J, Q)) : CT E1 M_X8_diceSides [.ref 1, .int (nI v)] (N, S, I, J, Q) κ := by
  refine ofSP mk_X8_diceSides (Nat.le_of_ble_eq_true rfl) (L := [.ref 1, .int _]) rfl ?_
  refine s_aload_n (pc' := 1) dX8_diceSides_0 rfl rfl ?_
  refine s_getS (pc' := 4) (b := 5) dX8_diceSides_1 rfl (by decide) rfl (by decide) fa_X8_25_8 rfl rfl ?_
  refine s_iload_n (pc' := 5) dX8_diceSides_4 rfl rfl ?_
  refine t_iald (pc' := 6) dX8_diceSides_5 rfl sh_5 rfl hv ?_
  refine s_iconst (pc' := 7) (v := 3) dX8_diceSides_6 rfl (by decide) ?_
  refine s_ishr (pc' := 8) dX8_diceSides_7 rfl ?_
  exact s_iret dX8_diceSides_8 rfl (by decide) (by decide) hk
theorem c_X11_status {N : Nat} {S : Nat → Nat × Nat} {I : Nat → Nat → Int32} {J : Nat → Nat → Int64} {Q : Nat → Nat → Option Nat} {κ : Option Value → HP → Prop} (hk : κ (some (.int (I 0 5))) (N, S, I, J, Q)) : CT E1 M_X11_status [.ref 0] (N, S, I, J, Q) κ := by
  refine ofSP mk_X11_status (Nat.le_of_ble_eq_true rfl) (L := [.ref 0]) rfl ?_
  refine s_aload_n (pc' := 1) dX11_status_0 rfl rfl ?_
  refine t_getI (pc' := 4) dX11_status_1 rfl sh_0 (by decide) fa_X11_36_11 rfl ?_
  exact s_iret dX11_status_4 rfl (by decide) (by decide) hk
