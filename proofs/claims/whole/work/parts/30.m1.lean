theorem ix_in {v : Int32} {n : Nat} (h0 : ¬ v < 0) (h1 : ¬ nI n ≤ v) (hn : n < 1000) : ∃ j : Nat, j < n ∧ v = nI j := by
  rcases pk_ix v (n := n) (by omega) with h | h | h
  · exact absurd h h0
  · exact absurd h h1
  · exact h
theorem c_X12_isIn {N : Nat} {S : Nat → Nat × Nat} {I : Nat → Nat → Int32} {J : Nat → Nat → Int64} {Q : Nat → Nat → Option Nat} {κ : Option Value → HP → Prop} {v a b : Int64} (ht : a ≤ v → v ≤ b → κ (some (.int 1)) (N, S, I, J, Q)) (hf : ¬ (a ≤ v ∧ v ≤ b) → κ (some (.int 0)) (N, S, I, J, Q)) : CT E1 M_X12_isIn [.long v, .long a, .long b] (N, S, I, J, Q) κ := by
  refine ofSP mk_X12_isIn (Nat.le_of_ble_eq_true rfl) (L := [.long _, .retAddr _, .long _, .retAddr _, .long _, .retAddr _]) rfl ?_
  refine s_lload_n (pc' := 1) dX12_isIn_0 rfl rfl ?_
  refine s_lload_n (pc' := 2) dX12_isIn_1 rfl rfl ?_
  refine s_lcmp (pc' := 3) dX12_isIn_2 rfl ?_
  refine s_iflt (pc' := 6) (tgt := 17) dX12_isIn_3 (by decide) rfl (fun c3 => ?_) (fun c3 => ?_)
  · refine s_iconst (pc' := 18) (v := 0) dX12_isIn_17 rfl (by decide) ?_
    exact s_zret dX12_isIn_18 rfl rfl (by decide) (by decide) (hf (fun z => Int64.not_lt.mpr z.1 ((lg_cmp_lt _ _).mp c3)))
  · refine s_lload_n (pc' := 7) dX12_isIn_6 rfl rfl ?_
    refine s_lload (pc' := 9) dX12_isIn_7 rfl rfl ?_
    refine s_lcmp (pc' := 10) dX12_isIn_9 rfl ?_
    refine s_ifgt (pc' := 13) (tgt := 17) dX12_isIn_10 (by decide) rfl (fun c10 => ?_) (fun c10 => ?_)
    · refine s_iconst (pc' := 18) (v := 0) dX12_isIn_17 rfl (by decide) ?_
      exact s_zret dX12_isIn_18 rfl rfl (by decide) (by decide) (hf (fun z => Int64.not_lt.mpr z.2 ((lg_cmp_gt _ _).mp c10)))
    · refine s_iconst (pc' := 14) (v := 1) dX12_isIn_13 rfl (by decide) ?_
      refine s_goto (tgt := 18) dX12_isIn_14 (by decide) ?_
      exact s_zret dX12_isIn_18 rfl rfl (by decide) (by decide) (ht (Int64.not_lt.mp (fun z => c3 ((lg_cmp_lt _ _).mpr z))) (Int64.not_lt.mp (fun z => c10 ((lg_cmp_gt _ _).mpr z))))
abbrev inR (x : Int32) (a b : Int) : Prop := a ≤ x.toInt ∧ x.toInt ≤ b
theorem c_isInR {N : Nat} {S : Nat → Nat × Nat} {I : Nat → Nat → Int32} {J : Nat → Nat → Int64} {Q : Nat → Nat → Option Nat} {κ : Option Value → HP → Prop} {x : Int32} {a b : Int64} {a' b' : Int} (ha : a.toInt = a') (hb : b.toInt = b') (ht : inR x a' b' → κ (some (.int 1)) (N, S, I, J, Q)) (hf : ¬ inR x a' b' → κ (some (.int 0)) (N, S, I, J, Q)) : CT E1 M_X12_isIn [.long x.toInt64, .long a, .long b] (N, S, I, J, Q) κ := by
  subst ha; subst hb
  have e : x.toInt64.toInt = x.toInt := Int32.toInt_toInt64 x
  refine c_X12_isIn (fun h1 h2 => ht ⟨?_, ?_⟩) (fun h1 => hf (fun h2 => h1 ⟨?_, ?_⟩))
  · rw [Int64.le_iff_toInt_le, e] at h1; exact h1
  · rw [Int64.le_iff_toInt_le, e] at h2; exact h2
  · rw [Int64.le_iff_toInt_le, e]; exact h2.1
  · rw [Int64.le_iff_toInt_le, e]; exact h2.2
theorem c_X12_refused {N : Nat} {S : Nat → Nat × Nat} {I : Nat → Nat → Int32} {J : Nat → Nat → Int64} {Q : Nat → Nat → Option Nat} {κ : Option Value → HP → Prop} {w : Int32} (hk : κ (some (.int (-1))) (N, S, up2 I 54 24 w, J, Q)) : CT E1 M_X12_refused [.ref 54, .int w] (N, S, I, J, Q) κ := by
  refine ofSP mk_X12_refused (Nat.le_of_ble_eq_true rfl) (L := [.ref 54, .int _]) rfl ?_
  refine s_aload_n (pc' := 1) dX12_refused_0 rfl rfl ?_
  refine s_iload_n (pc' := 2) dX12_refused_1 rfl rfl ?_
  refine t_putI (pc' := 5) dX12_refused_2 rfl sh_54 (by decide) fa_X12_129_12 (Or.inl rfl) rfl rfl rfl ?_
  refine s_iconst (pc' := 6) (v := -1) dX12_refused_5 rfl (by decide) ?_
  exact s_iret dX12_refused_6 rfl (by decide) (by decide) hk
theorem c_X12_done {N : Nat} {S : Nat → Nat × Nat} {I : Nat → Nat → Int32} {J : Nat → Nat → Int64} {Q : Nat → Nat → Option Nat} {κ : Option Value → HP → Prop} {w : Int32} (hk : κ (some (.int w)) (N, S, up2 I 54 24 0, J, Q)) : CT E1 M_X12_done [.ref 54, .int w] (N, S, I, J, Q) κ := by
  refine ofSP mk_X12_done (Nat.le_of_ble_eq_true rfl) (L := [.ref 54, .int _]) rfl ?_
  refine s_aload_n (pc' := 1) dX12_done_0 rfl rfl ?_
  refine s_iconst (pc' := 2) (v := 0) dX12_done_1 rfl (by decide) ?_
  refine t_putI (pc' := 5) dX12_done_2 rfl sh_54 (by decide) fa_X12_129_12 (Or.inl rfl) rfl rfl rfl ?_
  refine s_iload_n (pc' := 6) dX12_done_5 rfl rfl ?_
  exact s_iret dX12_done_6 rfl (by decide) (by decide) hk
theorem c_X12_isValue {N : Nat} {S : Nat → Nat × Nat} {I : Nat → Nat → Int32} {J : Nat → Nat → Int64} {Q : Nat → Nat → Option Nat} {κ : Option Value → HP → Prop} {v : Int32} {nv : Nat} (hv : I 75 0 = nI nv) (hn : nv < 1000) (ht : ∀ j, j < nv → v = nI j → κ (some (.int 1)) (N, S, I, J, Q)) (hf : (∀ j, j < nv → v ≠ nI j) → κ (some (.int 0)) (N, S, I, J, Q)) : CT E1 M_X12_isValue [.ref 54, .int v] (N, S, I, J, Q) κ := by
  refine ofSP mk_X12_isValue (Nat.le_of_ble_eq_true rfl) (L := [.ref 54, .int _]) rfl ?_
  refine s_iload_n (pc' := 1) dX12_isValue_0 rfl rfl ?_
  refine s_iflt (pc' := 4) (tgt := 18) dX12_isValue_1 (by decide) rfl (fun c1 => ?_) (fun c1 => ?_)
  · refine s_iconst (pc' := 19) (v := 0) dX12_isValue_18 rfl (by decide) ?_
    exact s_zret dX12_isValue_19 rfl rfl (by decide) (by decide) (hf (fun j hj e => nI_pos (n := j) (by omega) (e ▸ c1)))
  · refine s_iload_n (pc' := 5) dX12_isValue_4 rfl rfl ?_
    refine s_aload_n (pc' := 6) dX12_isValue_5 rfl rfl ?_
    refine s_getS (pc' := 9) (b := 75) dX12_isValue_6 rfl (by decide) rfl (by decide) fa_X12_70_12 rfl rfl ?_
    refine s_iconst (pc' := 10) (v := 0) dX12_isValue_9 rfl (by decide) ?_
    refine t_iald (pc' := 11) (q := 0) dX12_isValue_10 rfl sh_75 rfl (by decide) ?_
    refine s_icmpge (pc' := 14) (tgt := 18) dX12_isValue_11 (by decide) rfl (fun c11 => ?_) (fun c11 => ?_)
    · refine s_iconst (pc' := 19) (v := 0) dX12_isValue_18 rfl (by decide) ?_
      exact s_zret dX12_isValue_19 rfl rfl (by decide) (by decide) (hf (fun j hj e => nI_ge hj (by omega) (by rw [hv, e] at c11; exact c11)))
    · refine s_iconst (pc' := 15) (v := 1) dX12_isValue_14 rfl (by decide) ?_
      refine s_goto (tgt := 19) dX12_isValue_15 (by decide) ?_
      exact s_zret dX12_isValue_19 rfl rfl (by decide) (by decide) (by rw [hv] at c11; obtain ⟨j, hj, e⟩ := ix_in c1 c11 hn; exact ht j hj e)
theorem c_X12_isRule {N : Nat} {S : Nat → Nat × Nat} {I : Nat → Nat → Int32} {J : Nat → Nat → Int64} {Q : Nat → Nat → Option Nat} {κ : Option Value → HP → Prop} {v : Int32} {nv : Nat} (hv : I 75 1 = nI nv) (hn : nv < 1000) (ht : ∀ j, j < nv → v = nI j → κ (some (.int 1)) (N, S, I, J, Q)) (hf : (∀ j, j < nv → v ≠ nI j) → κ (some (.int 0)) (N, S, I, J, Q)) : CT E1 M_X12_isRule [.ref 54, .int v] (N, S, I, J, Q) κ := by
  refine ofSP mk_X12_isRule (Nat.le_of_ble_eq_true rfl) (L := [.ref 54, .int _]) rfl ?_
  refine s_iload_n (pc' := 1) dX12_isRule_0 rfl rfl ?_
  refine s_iflt (pc' := 4) (tgt := 18) dX12_isRule_1 (by decide) rfl (fun c1 => ?_) (fun c1 => ?_)
  · refine s_iconst (pc' := 19) (v := 0) dX12_isRule_18 rfl (by decide) ?_
    exact s_zret dX12_isRule_19 rfl rfl (by decide) (by decide) (hf (fun j hj e => nI_pos (n := j) (by omega) (e ▸ c1)))
  · refine s_iload_n (pc' := 5) dX12_isRule_4 rfl rfl ?_
    refine s_aload_n (pc' := 6) dX12_isRule_5 rfl rfl ?_
    refine s_getS (pc' := 9) (b := 75) dX12_isRule_6 rfl (by decide) rfl (by decide) fa_X12_70_12 rfl rfl ?_
    refine s_iconst (pc' := 10) (v := 1) dX12_isRule_9 rfl (by decide) ?_
    refine t_iald (pc' := 11) (q := 1) dX12_isRule_10 rfl sh_75 rfl (by decide) ?_
    refine s_icmpge (pc' := 14) (tgt := 18) dX12_isRule_11 (by decide) rfl (fun c11 => ?_) (fun c11 => ?_)
    · refine s_iconst (pc' := 19) (v := 0) dX12_isRule_18 rfl (by decide) ?_
      exact s_zret dX12_isRule_19 rfl rfl (by decide) (by decide) (hf (fun j hj e => nI_ge hj (by omega) (by rw [hv, e] at c11; exact c11)))
    · refine s_iconst (pc' := 15) (v := 1) dX12_isRule_14 rfl (by decide) ?_
      refine s_goto (tgt := 19) dX12_isRule_15 (by decide) ?_
      exact s_zret dX12_isRule_19 rfl rfl (by decide) (by decide) (by rw [hv] at c11; obtain ⟨j, hj, e⟩ := ix_in c1 c11 hn; exact ht j hj e)
theorem c_X12_isChoice {N : Nat} {S : Nat → Nat × Nat} {I : Nat → Nat → Int32} {J : Nat → Nat → Int64} {Q : Nat → Nat → Option Nat} {κ : Option Value → HP → Prop} {v : Int32} (ht : ∀ j, j < 8 → v = nI j → κ (some (.int 1)) (N, S, I, J, Q)) (hf : (∀ j, j < 8 → v ≠ nI j) → κ (some (.int 0)) (N, S, I, J, Q)) : CT E1 M_X12_isChoice [.int v] (N, S, I, J, Q) κ := by
  refine ofSP mk_X12_isChoice (Nat.le_of_ble_eq_true rfl) (L := [.int _]) rfl ?_
  refine s_iload_n (pc' := 1) dX12_isChoice_0 rfl rfl ?_
  refine s_iflt (pc' := 4) (tgt := 14) dX12_isChoice_1 (by decide) rfl (fun c1 => ?_) (fun c1 => ?_)
  · refine s_iconst (pc' := 15) (v := 0) dX12_isChoice_14 rfl (by decide) ?_
    exact s_zret dX12_isChoice_15 rfl rfl (by decide) (by decide) (hf (fun j hj e => nI_pos (n := j) (by omega) (e ▸ c1)))
  · refine s_iload_n (pc' := 5) dX12_isChoice_4 rfl rfl ?_
    refine s_bipush (pc' := 7) (v := 8) dX12_isChoice_5 rfl (by decide) ?_
    refine s_icmpge (pc' := 10) (tgt := 14) dX12_isChoice_7 (by decide) rfl (fun c7 => ?_) (fun c7 => ?_)
    · refine s_iconst (pc' := 15) (v := 0) dX12_isChoice_14 rfl (by decide) ?_
      exact s_zret dX12_isChoice_15 rfl rfl (by decide) (by decide) (hf (fun j hj e => nI_ge hj (by decide) (by rw [e] at c7; exact c7)))
    · refine s_iconst (pc' := 11) (v := 1) dX12_isChoice_10 rfl (by decide) ?_
      refine s_goto (tgt := 15) dX12_isChoice_11 (by decide) ?_
      exact s_zret dX12_isChoice_15 rfl rfl (by decide) (by decide) (by obtain ⟨j, hj, e⟩ := ix_in c1 (show ¬ nI 8 ≤ v from c7) (by decide); exact ht j hj e)
