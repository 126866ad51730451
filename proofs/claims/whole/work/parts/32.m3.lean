theorem nI_inc (k : Nat) : nI k + Int32.ofInt 1 = nI (k + 1) := nI_1 k
theorem nI_dec (k : Nat) : nI (k + 1) + Int32.ofInt (-1) = nI k := pk_m1 k
/-- how many of the first k bits are set -/
def bc (s : Int32) : Nat → Int32
  | 0 => 0
  | k + 1 => bc s k + ((s >>> (nI k &&& 31)) &&& 1)
def wbi (x v b : Int32) : Int32 := if b = 0 then x &&& (((1 : Int32) <<< (v &&& 31)) ^^^ (-1)) else x ||| ((1 : Int32) <<< (v &&& 31))
theorem wbi_0 {x v b : Int32} (h : b = 0) : wbi x v b = x &&& (((1 : Int32) <<< (v &&& 31)) ^^^ (-1)) := if_pos h
theorem wbi_1 {x v b : Int32} (h : ¬ b = 0) : wbi x v b = x ||| ((1 : Int32) <<< (v &&& 31)) := if_neg h
/-- how many of the first k are t -/
def cEq (f : Nat → Int32) (t : Int32) : Nat → Int32
  | 0 => 0
  | k + 1 => cEq f t k + (if f k = t then 1 else 0)
/-- how many of the first k are not 0 -/
def cNz (f : Nat → Int32) : Nat → Int32
  | 0 => 0
  | k + 1 => cNz f k + (if f k = 0 then 0 else 1)
/-- the first k of row a are 0 -/
def zr (I : Nat → Nat → Int32) (a k : Nat) : Nat → Nat → Int32 := fun b i => if b = a ∧ i < k then 0 else I b i
theorem zr_0 (I : Nat → Nat → Int32) (a : Nat) : zr I a 0 = I := by funext b i; simp [zr]
theorem zr_s (I : Nat → Nat → Int32) (a k : Nat) : up2 (zr I a k) a k 0 = zr I a (k + 1) := by
  funext b i
  by_cases h : b = a
  · subst h
    by_cases h2 : i = k
    · subst h2; simp [up2, zr]
    · by_cases h3 : i < k
      · simp [up2, zr, h2, h3, Nat.lt_succ_of_lt h3]
      · simp [up2, zr, h2, h3, show ¬ i < k + 1 by omega]
  · simp [up2, zr, h]
theorem zr_d {I : Nat → Nat → Int32} {a k b i : Nat} (h : b ≠ a) : zr I a k b i = I b i := by simp [zr, h]
theorem zr_e {I : Nat → Nat → Int32} {a k i : Nat} (h : k ≤ i) : zr I a k a i = I a i := by simp [zr, show ¬ i < k by omega]
theorem l_X12_bits {N : Nat} {S : Nat → Nat × Nat} {I : Nat → Nat → Int32} {J : Nat → Nat → Int64} {Q : Nat → Nat → Option Nat} {κ : Option Value → HP → Prop} {s : Int32} (hk : κ (some (.int (bc s 8))) (N, S, I, J, Q)) : ∀ d : Nat, ∀ k, k + d = 8 → SP E1 M_X12_bits κ 4 [.int s, .int (bc s k), .int (nI k)] [] (N, S, I, J, Q) 0 0 := by
  intro d
  induction d with
  | zero =>
    intro k hd
    obtain rfl : k = 8 := by omega
    refine s_iload_n (pc' := 5) dX12_bits_4 rfl rfl ?_
    refine s_bipush (pc' := 7) (v := 8) dX12_bits_5 rfl (by decide) ?_
    refine s_icmpgeT (tgt := 24) dX12_bits_7 (by decide) (by decide) ?_
    refine s_iload_n (pc' := 25) dX12_bits_24 rfl rfl ?_
    exact s_iret dX12_bits_25 rfl (by decide) (by decide) hk
  | succ d ih =>
    intro k hd
    refine s_iload_n (pc' := 5) dX12_bits_4 rfl rfl ?_
    refine s_bipush (pc' := 7) (v := 8) dX12_bits_5 rfl (by decide) ?_
    refine s_icmpgeF (pc' := 10) (tgt := 24) dX12_bits_7 (by decide) rfl (nI_ge (b := 8) (by omega) (by decide)) ?_
    refine s_iload_n (pc' := 11) dX12_bits_10 rfl rfl ?_
    refine s_iload_n (pc' := 12) dX12_bits_11 rfl rfl ?_
    refine s_iload_n (pc' := 13) dX12_bits_12 rfl rfl ?_
    refine s_ishr (pc' := 14) dX12_bits_13 rfl ?_
    refine s_iconst (pc' := 15) (v := 1) dX12_bits_14 rfl (by decide) ?_
    refine s_iand (pc' := 16) dX12_bits_15 rfl ?_
    refine s_iadd (pc' := 17) dX12_bits_16 rfl ?_
    refine t_istore_n (pc' := 18) (L' := [.int _, .int _, .int _]) dX12_bits_17 rfl (Nat.le_of_ble_eq_true rfl) rfl ?_
    refine t_iinc (pc' := 21) (v := nI (k + 1)) (L' := [.int _, .int _, .int _]) dX12_bits_18 rfl rfl (nI_inc k) rfl ?_
    refine s_goto (tgt := 4) dX12_bits_21 (by decide) ?_
    exact ih (k + 1) (by omega)
theorem c_X12_bits {N : Nat} {S : Nat → Nat × Nat} {I : Nat → Nat → Int32} {J : Nat → Nat → Int64} {Q : Nat → Nat → Option Nat} {κ : Option Value → HP → Prop} {s : Int32} (hk : κ (some (.int (bc s 8))) (N, S, I, J, Q)) : CT E1 M_X12_bits [.int s] (N, S, I, J, Q) κ := by
  refine ofSP mk_X12_bits (Nat.le_of_ble_eq_true rfl) (L := [.int _, .retAddr _, .retAddr _]) rfl ?_
  refine s_iconst (pc' := 1) (v := 0) dX12_bits_0 rfl (by decide) ?_
  refine t_istore_n (pc' := 2) (L' := [.int _, .int _, .retAddr _]) dX12_bits_1 rfl (Nat.le_of_ble_eq_true rfl) rfl ?_
  refine s_iconst (pc' := 3) (v := 0) dX12_bits_2 rfl (by decide) ?_
  refine t_istore_n (pc' := 4) (L' := [.int _, .int _, .int _]) dX12_bits_3 rfl (Nat.le_of_ble_eq_true rfl) rfl ?_
  exact l_X12_bits hk 8 0 rfl
theorem c_X12_stack {N : Nat} {S : Nat → Nat × Nat} {I : Nat → Nat → Int32} {J : Nat → Nat → Int64} {Q : Nat → Nat → Option Nat} {κ : Option Value → HP → Prop} {v b : Int32} (k1 : ¬ inR v 1 5 → κ (some (.int (-1))) (N, S, up2 I 54 24 1, J, Q)) (k2 : inR v 1 5 → κ (some (.int (if I 75 5 = wbi (I 75 5) v b then 0 else 1))) (N, S, (up2 (up2 (up2 I 75 5 (wbi (I 75 5) v b)) 54 37 0) 54 24 0), J, Q)) : CT E1 M_X12_stack [.ref 54, .int v, .int b] (N, S, I, J, Q) κ := by
  refine ofSP mk_X12_stack (Nat.le_of_ble_eq_true rfl) (L := [.ref 54, .int _, .int _, .retAddr _]) rfl ?_
  refine s_iload_n (pc' := 1) dX12_stack_0 rfl rfl ?_
  refine s_i2l (pc' := 2) dX12_stack_1 rfl ?_
  refine s_lconst (pc' := 3) (v := 1) dX12_stack_2 rfl (by decide) ?_
  refine s_ldc2 (pc' := 6) dX12_stack_3 rfl kl_X12_143 ?_
  refine s_callS (pc' := 9) (As := [.long _, .long _, .long _]) dX12_stack_6 rfl mk_X12_isIn ml_X12_135 sm_X12_isIn rfl rfl ⟨Nat.le_of_ble_eq_true rfl, Nat.le_of_ble_eq_true rfl, Nat.le_of_ble_eq_true rfl, Nat.le_of_ble_eq_true rfl⟩ (Nat.le_of_ble_eq_true rfl) (c_isInR (a' := 1) (b' := 5) rfl rfl (fun i6 => ?_) (fun i6 => ?_))
  · refine s_ifneT (tgt := 18) dX12_stack_9 (by decide) (by decide) ?_
    refine s_aload_n (pc' := 19) dX12_stack_18 rfl rfl ?_
    refine s_getS (pc' := 22) (b := 75) dX12_stack_19 rfl (by decide) rfl (by decide) fa_X12_70_12 rfl rfl ?_
    refine s_iconst (pc' := 23) (v := 5) dX12_stack_22 rfl (by decide) ?_
    refine t_iald (pc' := 24) (q := 5) dX12_stack_23 rfl sh_75 rfl (by decide) ?_
    refine t_istore_n (pc' := 25) (L' := [.ref 54, .int _, .int _, .int _]) dX12_stack_24 rfl (Nat.le_of_ble_eq_true rfl) rfl ?_
    refine s_aload_n (pc' := 26) dX12_stack_25 rfl rfl ?_
    refine s_getS (pc' := 29) (b := 75) dX12_stack_26 rfl (by decide) rfl (by decide) fa_X12_70_12 rfl rfl ?_
    refine s_iconst (pc' := 30) (v := 5) dX12_stack_29 rfl (by decide) ?_
    refine s_iload_n (pc' := 31) dX12_stack_30 rfl rfl ?_
    refine s_ifeq (pc' := 34) (tgt := 42) dX12_stack_31 (by decide) rfl (fun c31 => ?_) (fun c31 => ?_)
    · refine s_iload_n (pc' := 43) dX12_stack_42 rfl rfl ?_
      refine s_iconst (pc' := 44) (v := 1) dX12_stack_43 rfl (by decide) ?_
      refine s_iload_n (pc' := 45) dX12_stack_44 rfl rfl ?_
      refine s_ishl (pc' := 46) dX12_stack_45 rfl ?_
      refine s_iconst (pc' := 47) (v := -1) dX12_stack_46 rfl (by decide) ?_
      refine s_ixor (pc' := 48) dX12_stack_47 rfl ?_
      refine s_iand (pc' := 49) dX12_stack_48 rfl ?_
      refine t_iast (pc' := 50) (q := 5) dX12_stack_49 rfl sh_75 rfl (by decide) ?_
      refine s_aload_n (pc' := 51) dX12_stack_50 rfl rfl ?_
      refine s_iconst (pc' := 52) (v := 0) dX12_stack_51 rfl (by decide) ?_
      refine t_putI (pc' := 55) dX12_stack_52 rfl sh_54 (by decide) fa_X12_153_12 (Or.inl rfl) rfl rfl rfl ?_
      refine s_aload_n (pc' := 56) dX12_stack_55 rfl rfl ?_
      refine s_iload_n (pc' := 57) dX12_stack_56 rfl rfl ?_
      refine s_aload_n (pc' := 58) dX12_stack_57 rfl rfl ?_
      refine s_getS (pc' := 61) (b := 75) dX12_stack_58 rfl (by decide) rfl (by decide) fa_X12_70_12 rfl rfl ?_
      refine s_iconst (pc' := 62) (v := 5) dX12_stack_61 rfl (by decide) ?_
      refine t_iald (pc' := 63) (q := 5) dX12_stack_62 rfl sh_75 rfl (by decide) ?_
      refine s_icmpne (pc' := 66) (tgt := 70) dX12_stack_63 (by decide) rfl (fun c63 => ?_) (fun c63 => ?_)
      · refine s_iconst (pc' := 71) (v := 1) dX12_stack_70 rfl (by decide) ?_
        refine s_callV (pc' := 74) (As := [.int _]) dX12_stack_71 rfl mk_X12_done ml_X12_157 im_X12_done se_X12_X12_X12_done sh_54 (by decide) rfl rfl rfl ⟨Nat.le_of_ble_eq_true rfl, Nat.le_of_ble_eq_true rfl, Nat.le_of_ble_eq_true rfl, Nat.le_of_ble_eq_true rfl⟩ (Nat.le_of_ble_eq_true rfl) (c_X12_done ?_)
        exact s_iret dX12_stack_74 rfl (by decide) (by decide) (by have z0 := k2 (by assumption); (try simp (disch := decide) only [up2_d, up2_e, up2_s] at c63); rw [wbi_0 c31] at z0; (first | rw [if_pos c63] at z0 | rw [if_neg c63] at z0); exact z0)
      · refine s_iconst (pc' := 67) (v := 0) dX12_stack_66 rfl (by decide) ?_
        refine s_goto (tgt := 71) dX12_stack_67 (by decide) ?_
        refine s_callV (pc' := 74) (As := [.int _]) dX12_stack_71 rfl mk_X12_done ml_X12_157 im_X12_done se_X12_X12_X12_done sh_54 (by decide) rfl rfl rfl ⟨Nat.le_of_ble_eq_true rfl, Nat.le_of_ble_eq_true rfl, Nat.le_of_ble_eq_true rfl, Nat.le_of_ble_eq_true rfl⟩ (Nat.le_of_ble_eq_true rfl) (c_X12_done ?_)
        exact s_iret dX12_stack_74 rfl (by decide) (by decide) (by have z0 := k2 (by assumption); (try simp (disch := decide) only [up2_d, up2_e, up2_s] at c63); rw [wbi_0 c31] at z0; (first | rw [if_pos c63] at z0 | rw [if_neg c63] at z0); exact z0)
    · refine s_iload_n (pc' := 35) dX12_stack_34 rfl rfl ?_
      refine s_iconst (pc' := 36) (v := 1) dX12_stack_35 rfl (by decide) ?_
      refine s_iload_n (pc' := 37) dX12_stack_36 rfl rfl ?_
      refine s_ishl (pc' := 38) dX12_stack_37 rfl ?_
      refine s_ior (pc' := 39) dX12_stack_38 rfl ?_
      refine s_goto (tgt := 49) dX12_stack_39 (by decide) ?_
      refine t_iast (pc' := 50) (q := 5) dX12_stack_49 rfl sh_75 rfl (by decide) ?_
      refine s_aload_n (pc' := 51) dX12_stack_50 rfl rfl ?_
      refine s_iconst (pc' := 52) (v := 0) dX12_stack_51 rfl (by decide) ?_
      refine t_putI (pc' := 55) dX12_stack_52 rfl sh_54 (by decide) fa_X12_153_12 (Or.inl rfl) rfl rfl rfl ?_
      refine s_aload_n (pc' := 56) dX12_stack_55 rfl rfl ?_
      refine s_iload_n (pc' := 57) dX12_stack_56 rfl rfl ?_
      refine s_aload_n (pc' := 58) dX12_stack_57 rfl rfl ?_
      refine s_getS (pc' := 61) (b := 75) dX12_stack_58 rfl (by decide) rfl (by decide) fa_X12_70_12 rfl rfl ?_
      refine s_iconst (pc' := 62) (v := 5) dX12_stack_61 rfl (by decide) ?_
      refine t_iald (pc' := 63) (q := 5) dX12_stack_62 rfl sh_75 rfl (by decide) ?_
      refine s_icmpne (pc' := 66) (tgt := 70) dX12_stack_63 (by decide) rfl (fun c63 => ?_) (fun c63 => ?_)
      · refine s_iconst (pc' := 71) (v := 1) dX12_stack_70 rfl (by decide) ?_
        refine s_callV (pc' := 74) (As := [.int _]) dX12_stack_71 rfl mk_X12_done ml_X12_157 im_X12_done se_X12_X12_X12_done sh_54 (by decide) rfl rfl rfl ⟨Nat.le_of_ble_eq_true rfl, Nat.le_of_ble_eq_true rfl, Nat.le_of_ble_eq_true rfl, Nat.le_of_ble_eq_true rfl⟩ (Nat.le_of_ble_eq_true rfl) (c_X12_done ?_)
        exact s_iret dX12_stack_74 rfl (by decide) (by decide) (by have z0 := k2 (by assumption); (try simp (disch := decide) only [up2_d, up2_e, up2_s] at c63); rw [wbi_1 c31] at z0; (first | rw [if_pos c63] at z0 | rw [if_neg c63] at z0); exact z0)
      · refine s_iconst (pc' := 67) (v := 0) dX12_stack_66 rfl (by decide) ?_
        refine s_goto (tgt := 71) dX12_stack_67 (by decide) ?_
        refine s_callV (pc' := 74) (As := [.int _]) dX12_stack_71 rfl mk_X12_done ml_X12_157 im_X12_done se_X12_X12_X12_done sh_54 (by decide) rfl rfl rfl ⟨Nat.le_of_ble_eq_true rfl, Nat.le_of_ble_eq_true rfl, Nat.le_of_ble_eq_true rfl, Nat.le_of_ble_eq_true rfl⟩ (Nat.le_of_ble_eq_true rfl) (c_X12_done ?_)
        exact s_iret dX12_stack_74 rfl (by decide) (by decide) (by have z0 := k2 (by assumption); (try simp (disch := decide) only [up2_d, up2_e, up2_s] at c63); rw [wbi_1 c31] at z0; (first | rw [if_pos c63] at z0 | rw [if_neg c63] at z0); exact z0)
  · refine s_ifneF (pc' := 12) (tgt := 18) dX12_stack_9 (by decide) rfl (by decide) ?_
    refine s_aload_n (pc' := 13) dX12_stack_12 rfl rfl ?_
    refine s_iconst (pc' := 14) (v := 1) dX12_stack_13 rfl (by decide) ?_
    refine s_callV (pc' := 17) (As := [.int _]) dX12_stack_14 rfl mk_X12_refused ml_X12_149 im_X12_refused se_X12_X12_X12_refused sh_54 (by decide) rfl rfl rfl ⟨Nat.le_of_ble_eq_true rfl, Nat.le_of_ble_eq_true rfl, Nat.le_of_ble_eq_true rfl, Nat.le_of_ble_eq_true rfl⟩ (Nat.le_of_ble_eq_true rfl) (c_X12_refused ?_)
    exact s_iret dX12_stack_17 rfl (by decide) (by decide) (k1 (by first | assumption | (intro z; simp_all)))
theorem le0 {x : Int32} {b : Int} (h : inR x 0 b) (c : x ≤ 0) : x = 0 := by
  have h1 := Int32.le_iff_toInt_le.mp c
  rw [Int32.toInt_zero] at h1
  exact Int32.toInt_inj.mp (by rw [Int32.toInt_zero]; have := h.1; omega)
theorem c_X12_test {N : Nat} {S : Nat → Nat × Nat} {I : Nat → Nat → Int32} {J : Nat → Nat → Int64} {Q : Nat → Nat → Option Nat} {κ : Option Value → HP → Prop} {w v : Int32} (k1 : (¬ inR w 0 2 ∨ (w ≠ 0 ∧ ∀ j, j < 8 → v ≠ nI j)) → κ (some (.int (-1))) (N, S, up2 I 54 24 1, J, Q)) (k2 : inR w 0 2 → (w ≠ 0 → ∃ j, j < 8 ∧ v = nI j) → κ (some (.int 1)) (N, S, (up2 (up2 (up2 I 54 25 w) 54 26 v) 54 24 0), J, Q)) : CT E1 M_X12_test [.ref 54, .int w, .int v] (N, S, I, J, Q) κ := by
  refine ofSP mk_X12_test (Nat.le_of_ble_eq_true rfl) (L := [.ref 54, .int _, .int _]) rfl ?_
  refine s_iload_n (pc' := 1) dX12_test_0 rfl rfl ?_
  refine s_i2l (pc' := 2) dX12_test_1 rfl ?_
  refine s_lconst (pc' := 3) (v := 0) dX12_test_2 rfl (by decide) ?_
  refine s_ldc2 (pc' := 6) dX12_test_3 rfl kl_X12_145 ?_
  refine s_callS (pc' := 9) (As := [.long _, .long _, .long _]) dX12_test_6 rfl mk_X12_isIn ml_X12_135 sm_X12_isIn rfl rfl ⟨Nat.le_of_ble_eq_true rfl, Nat.le_of_ble_eq_true rfl, Nat.le_of_ble_eq_true rfl, Nat.le_of_ble_eq_true rfl⟩ (Nat.le_of_ble_eq_true rfl) (c_isInR (a' := 0) (b' := 2) rfl rfl (fun i6 => ?_) (fun i6 => ?_))
  · refine s_ifeqF (pc' := 12) (tgt := 23) dX12_test_9 (by decide) rfl (by decide) ?_
    refine s_iload_n (pc' := 13) dX12_test_12 rfl rfl ?_
    refine s_ifle (pc' := 16) (tgt := 29) dX12_test_13 (by decide) rfl (fun c13 => ?_) (fun c13 => ?_)
    · refine s_aload_n (pc' := 30) dX12_test_29 rfl rfl ?_
      refine s_iload_n (pc' := 31) dX12_test_30 rfl rfl ?_
      refine t_putI (pc' := 34) dX12_test_31 rfl sh_54 (by decide) fa_X12_164_12 (Or.inl rfl) rfl rfl rfl ?_
      refine s_aload_n (pc' := 35) dX12_test_34 rfl rfl ?_
      refine s_iload_n (pc' := 36) dX12_test_35 rfl rfl ?_
      refine t_putI (pc' := 39) dX12_test_36 rfl sh_54 (by decide) fa_X12_167_12 (Or.inl rfl) rfl rfl rfl ?_
      refine s_aload_n (pc' := 40) dX12_test_39 rfl rfl ?_
      refine s_iconst (pc' := 41) (v := 1) dX12_test_40 rfl (by decide) ?_
      refine s_callV (pc' := 44) (As := [.int _]) dX12_test_41 rfl mk_X12_done ml_X12_157 im_X12_done se_X12_X12_X12_done sh_54 (by decide) rfl rfl rfl ⟨Nat.le_of_ble_eq_true rfl, Nat.le_of_ble_eq_true rfl, Nat.le_of_ble_eq_true rfl, Nat.le_of_ble_eq_true rfl⟩ (Nat.le_of_ble_eq_true rfl) (c_X12_done ?_)
      exact s_iret dX12_test_44 rfl (by decide) (by decide) (k2 i6 (fun z => absurd (le0 i6 c13) z))
    · refine s_iload_n (pc' := 17) dX12_test_16 rfl rfl ?_
      refine s_callS (pc' := 20) (As := [.int _]) dX12_test_17 rfl mk_X12_isChoice ml_X12_160 sm_X12_isChoice rfl rfl ⟨Nat.le_of_ble_eq_true rfl, Nat.le_of_ble_eq_true rfl, Nat.le_of_ble_eq_true rfl, Nat.le_of_ble_eq_true rfl⟩ (Nat.le_of_ble_eq_true rfl) (c_X12_isChoice (fun j17 hj17 e17 => ?_) (fun n17 => ?_))
      · subst e17
        refine s_ifneT (tgt := 29) dX12_test_20 (by decide) (by decide) ?_
        refine s_aload_n (pc' := 30) dX12_test_29 rfl rfl ?_
        refine s_iload_n (pc' := 31) dX12_test_30 rfl rfl ?_
        refine t_putI (pc' := 34) dX12_test_31 rfl sh_54 (by decide) fa_X12_164_12 (Or.inl rfl) rfl rfl rfl ?_
        refine s_aload_n (pc' := 35) dX12_test_34 rfl rfl ?_
        refine s_iload_n (pc' := 36) dX12_test_35 rfl rfl ?_
        refine t_putI (pc' := 39) dX12_test_36 rfl sh_54 (by decide) fa_X12_167_12 (Or.inl rfl) rfl rfl rfl ?_
        refine s_aload_n (pc' := 40) dX12_test_39 rfl rfl ?_
        refine s_iconst (pc' := 41) (v := 1) dX12_test_40 rfl (by decide) ?_
        refine s_callV (pc' := 44) (As := [.int _]) dX12_test_41 rfl mk_X12_done ml_X12_157 im_X12_done se_X12_X12_X12_done sh_54 (by decide) rfl rfl rfl ⟨Nat.le_of_ble_eq_true rfl, Nat.le_of_ble_eq_true rfl, Nat.le_of_ble_eq_true rfl, Nat.le_of_ble_eq_true rfl⟩ (Nat.le_of_ble_eq_true rfl) (c_X12_done ?_)
        exact s_iret dX12_test_44 rfl (by decide) (by decide) (k2 i6 (fun _ => ⟨j17, hj17, rfl⟩))
      · refine s_ifneF (pc' := 23) (tgt := 29) dX12_test_20 (by decide) rfl (by decide) ?_
        refine s_aload_n (pc' := 24) dX12_test_23 rfl rfl ?_
        refine s_iconst (pc' := 25) (v := 1) dX12_test_24 rfl (by decide) ?_
        refine s_callV (pc' := 28) (As := [.int _]) dX12_test_25 rfl mk_X12_refused ml_X12_149 im_X12_refused se_X12_X12_X12_refused sh_54 (by decide) rfl rfl rfl ⟨Nat.le_of_ble_eq_true rfl, Nat.le_of_ble_eq_true rfl, Nat.le_of_ble_eq_true rfl, Nat.le_of_ble_eq_true rfl⟩ (Nat.le_of_ble_eq_true rfl) (c_X12_refused ?_)
        exact s_iret dX12_test_28 rfl (by decide) (by decide) (k1 (Or.inr ⟨fun z => c13 (by rw [z]; decide), n17⟩))
  · refine s_ifeqT (tgt := 23) dX12_test_9 (by decide) (by decide) ?_
    refine s_aload_n (pc' := 24) dX12_test_23 rfl rfl ?_
    refine s_iconst (pc' := 25) (v := 1) dX12_test_24 rfl (by decide) ?_
    refine s_callV (pc' := 28) (As := [.int _]) dX12_test_25 rfl mk_X12_refused ml_X12_149 im_X12_refused se_X12_X12_X12_refused sh_54 (by decide) rfl rfl rfl ⟨Nat.le_of_ble_eq_true rfl, Nat.le_of_ble_eq_true rfl, Nat.le_of_ble_eq_true rfl, Nat.le_of_ble_eq_true rfl⟩ (Nat.le_of_ble_eq_true rfl) (c_X12_refused ?_)
    exact s_iret dX12_test_28 rfl (by decide) (by decide) (k1 (Or.inl i6))
theorem c_X12_testValue {N : Nat} {S : Nat → Nat × Nat} {I : Nat → Nat → Int32} {J : Nat → Nat → Int64} {Q : Nat → Nat → Option Nat} {κ : Option Value → HP → Prop} {v b n : Int32} {nv : Nat} (hv : I 75 0 = nI nv) (hn : nv ≤ 10) (k1 : ((∀ j, j < nv → v ≠ nI j) ∨ ¬ inR n (-1000) 1000) → κ (some (.int (-1))) (N, S, up2 I 54 24 1, J, Q)) (k2 : ∀ j, j < nv → v = nI j → inR n (-1000) 1000 → κ (some (.int 1)) (N, S, (up2 (up2 (up2 (up2 I 54 25 (if b = 0 then 3 else 4)) 54 26 (nI j)) 54 27 n) 54 24 0), J, Q)) : CT E1 M_X12_testValue [.ref 54, .int v, .int b, .int n] (N, S, I, J, Q) κ := by
  refine ofSP mk_X12_testValue (Nat.le_of_ble_eq_true rfl) (L := [.ref 54, .int _, .int _, .int _]) rfl ?_
  refine s_aload_n (pc' := 1) dX12_testValue_0 rfl rfl ?_
  refine s_iload_n (pc' := 2) dX12_testValue_1 rfl rfl ?_
  refine s_callV (pc' := 5) (As := [.int _]) dX12_testValue_2 rfl mk_X12_isValue ml_X12_170 im_X12_isValue se_X12_X12_X12_isValue sh_54 (by decide) rfl rfl rfl ⟨Nat.le_of_ble_eq_true rfl, Nat.le_of_ble_eq_true rfl, Nat.le_of_ble_eq_true rfl, Nat.le_of_ble_eq_true rfl⟩ (Nat.le_of_ble_eq_true rfl) (c_X12_isValue hv (by omega) (fun j2 hj2 e2 => ?_) (fun n2 => ?_))
  · subst e2
    refine s_ifeqF (pc' := 8) (tgt := 22) dX12_testValue_5 (by decide) rfl (by decide) ?_
    refine s_iload_n (pc' := 9) dX12_testValue_8 rfl rfl ?_
    refine s_i2l (pc' := 10) dX12_testValue_9 rfl ?_
    refine s_ldc2 (pc' := 13) dX12_testValue_10 rfl kl_X12_173 ?_
    refine s_ldc2 (pc' := 16) dX12_testValue_13 rfl kl_X12_175 ?_
    refine s_callS (pc' := 19) (As := [.long _, .long _, .long _]) dX12_testValue_16 rfl mk_X12_isIn ml_X12_135 sm_X12_isIn rfl rfl ⟨Nat.le_of_ble_eq_true rfl, Nat.le_of_ble_eq_true rfl, Nat.le_of_ble_eq_true rfl, Nat.le_of_ble_eq_true rfl⟩ (Nat.le_of_ble_eq_true rfl) (c_isInR (a' := -1000) (b' := 1000) rfl rfl (fun i16 => ?_) (fun i16 => ?_))
    · refine s_ifneT (tgt := 28) dX12_testValue_19 (by decide) (by decide) ?_
      refine s_aload_n (pc' := 29) dX12_testValue_28 rfl rfl ?_
      refine s_iload_n (pc' := 30) dX12_testValue_29 rfl rfl ?_
      refine s_ifeq (pc' := 33) (tgt := 37) dX12_testValue_30 (by decide) rfl (fun c30 => ?_) (fun c30 => ?_)
      · refine s_iconst (pc' := 38) (v := 3) dX12_testValue_37 rfl (by decide) ?_
        refine t_putI (pc' := 41) dX12_testValue_38 rfl sh_54 (by decide) fa_X12_164_12 (Or.inl rfl) rfl rfl rfl ?_
        refine s_aload_n (pc' := 42) dX12_testValue_41 rfl rfl ?_
        refine s_iload_n (pc' := 43) dX12_testValue_42 rfl rfl ?_
        refine t_putI (pc' := 46) dX12_testValue_43 rfl sh_54 (by decide) fa_X12_167_12 (Or.inl rfl) rfl rfl rfl ?_
        refine s_aload_n (pc' := 47) dX12_testValue_46 rfl rfl ?_
        refine s_iload_n (pc' := 48) dX12_testValue_47 rfl rfl ?_
        refine t_putI (pc' := 51) dX12_testValue_48 rfl sh_54 (by decide) fa_X12_177_12 (Or.inl rfl) rfl rfl rfl ?_
        refine s_aload_n (pc' := 52) dX12_testValue_51 rfl rfl ?_
        refine s_iconst (pc' := 53) (v := 1) dX12_testValue_52 rfl (by decide) ?_
        refine s_callV (pc' := 56) (As := [.int _]) dX12_testValue_53 rfl mk_X12_done ml_X12_157 im_X12_done se_X12_X12_X12_done sh_54 (by decide) rfl rfl rfl ⟨Nat.le_of_ble_eq_true rfl, Nat.le_of_ble_eq_true rfl, Nat.le_of_ble_eq_true rfl, Nat.le_of_ble_eq_true rfl⟩ (Nat.le_of_ble_eq_true rfl) (c_X12_done ?_)
        exact s_iret dX12_testValue_56 rfl (by decide) (by decide) (by have z0 := k2 j2 hj2 rfl i16; (first | rw [if_pos c30] at z0 | rw [if_neg c30] at z0); exact z0)
      · refine s_iconst (pc' := 34) (v := 4) dX12_testValue_33 rfl (by decide) ?_
        refine s_goto (tgt := 38) dX12_testValue_34 (by decide) ?_
        refine t_putI (pc' := 41) dX12_testValue_38 rfl sh_54 (by decide) fa_X12_164_12 (Or.inl rfl) rfl rfl rfl ?_
        refine s_aload_n (pc' := 42) dX12_testValue_41 rfl rfl ?_
        refine s_iload_n (pc' := 43) dX12_testValue_42 rfl rfl ?_
        refine t_putI (pc' := 46) dX12_testValue_43 rfl sh_54 (by decide) fa_X12_167_12 (Or.inl rfl) rfl rfl rfl ?_
        refine s_aload_n (pc' := 47) dX12_testValue_46 rfl rfl ?_
        refine s_iload_n (pc' := 48) dX12_testValue_47 rfl rfl ?_
        refine t_putI (pc' := 51) dX12_testValue_48 rfl sh_54 (by decide) fa_X12_177_12 (Or.inl rfl) rfl rfl rfl ?_
        refine s_aload_n (pc' := 52) dX12_testValue_51 rfl rfl ?_
        refine s_iconst (pc' := 53) (v := 1) dX12_testValue_52 rfl (by decide) ?_
        refine s_callV (pc' := 56) (As := [.int _]) dX12_testValue_53 rfl mk_X12_done ml_X12_157 im_X12_done se_X12_X12_X12_done sh_54 (by decide) rfl rfl rfl ⟨Nat.le_of_ble_eq_true rfl, Nat.le_of_ble_eq_true rfl, Nat.le_of_ble_eq_true rfl, Nat.le_of_ble_eq_true rfl⟩ (Nat.le_of_ble_eq_true rfl) (c_X12_done ?_)
        exact s_iret dX12_testValue_56 rfl (by decide) (by decide) (by have z0 := k2 j2 hj2 rfl i16; (first | rw [if_pos c30] at z0 | rw [if_neg c30] at z0); exact z0)
    · refine s_ifneF (pc' := 22) (tgt := 28) dX12_testValue_19 (by decide) rfl (by decide) ?_
      refine s_aload_n (pc' := 23) dX12_testValue_22 rfl rfl ?_
      refine s_iconst (pc' := 24) (v := 1) dX12_testValue_23 rfl (by decide) ?_
      refine s_callV (pc' := 27) (As := [.int _]) dX12_testValue_24 rfl mk_X12_refused ml_X12_149 im_X12_refused se_X12_X12_X12_refused sh_54 (by decide) rfl rfl rfl ⟨Nat.le_of_ble_eq_true rfl, Nat.le_of_ble_eq_true rfl, Nat.le_of_ble_eq_true rfl, Nat.le_of_ble_eq_true rfl⟩ (Nat.le_of_ble_eq_true rfl) (c_X12_refused ?_)
      exact s_iret dX12_testValue_27 rfl (by decide) (by decide) (k1 (Or.inr i16))
  · refine s_ifeqT (tgt := 22) dX12_testValue_5 (by decide) (by decide) ?_
    refine s_aload_n (pc' := 23) dX12_testValue_22 rfl rfl ?_
    refine s_iconst (pc' := 24) (v := 1) dX12_testValue_23 rfl (by decide) ?_
    refine s_callV (pc' := 27) (As := [.int _]) dX12_testValue_24 rfl mk_X12_refused ml_X12_149 im_X12_refused se_X12_X12_X12_refused sh_54 (by decide) rfl rfl rfl ⟨Nat.le_of_ble_eq_true rfl, Nat.le_of_ble_eq_true rfl, Nat.le_of_ble_eq_true rfl, Nat.le_of_ble_eq_true rfl⟩ (Nat.le_of_ble_eq_true rfl) (c_X12_refused ?_)
    exact s_iret dX12_testValue_27 rfl (by decide) (by decide) (k1 (Or.inl n2))
theorem c_X12_make {N : Nat} {S : Nat → Nat × Nat} {I : Nat → Nat → Int32} {J : Nat → Nat → Int64} {Q : Nat → Nat → Option Nat} {κ : Option Value → HP → Prop} {v b : Int32} (k1 : (∀ j, j < 8 → v ≠ nI j) → κ (some (.int (-1))) (N, S, up2 I 54 24 1, J, Q)) (k2 : ∀ j, j < 8 → v = nI j → (I 75 3 >>> (nI j &&& 31)) &&& 1 = (if b = 0 then 0 else 1) → κ (some (.int (-1))) (N, S, up2 I 54 24 3, J, Q)) (k3 : ∀ j, j < 8 → v = nI j → (I 75 3 >>> (nI j &&& 31)) &&& 1 ≠ (if b = 0 then 0 else 1) → κ (some (.int (bc (I 75 3 ^^^ ((1 : Int32) <<< (nI j &&& 31))) 8))) (N, S, (up2 (up2 I 75 3 (I 75 3 ^^^ ((1 : Int32) <<< (nI j &&& 31)))) 54 24 0), J, Q)) : CT E1 M_X12_make [.ref 54, .int v, .int b] (N, S, I, J, Q) κ := by
  refine ofSP mk_X12_make (Nat.le_of_ble_eq_true rfl) (L := [.ref 54, .int _, .int _]) rfl ?_
  refine s_iload_n (pc' := 1) dX12_make_0 rfl rfl ?_
  refine s_callS (pc' := 4) (As := [.int _]) dX12_make_1 rfl mk_X12_isChoice ml_X12_160 sm_X12_isChoice rfl rfl ⟨Nat.le_of_ble_eq_true rfl, Nat.le_of_ble_eq_true rfl, Nat.le_of_ble_eq_true rfl, Nat.le_of_ble_eq_true rfl⟩ (Nat.le_of_ble_eq_true rfl) (c_X12_isChoice (fun j1 hj1 e1 => ?_) (fun n1 => ?_))
  · subst e1
    refine s_ifneT (tgt := 13) dX12_make_4 (by decide) (by decide) ?_
    refine s_aload_n (pc' := 14) dX12_make_13 rfl rfl ?_
    refine s_getS (pc' := 17) (b := 75) dX12_make_14 rfl (by decide) rfl (by decide) fa_X12_70_12 rfl rfl ?_
    refine s_iconst (pc' := 18) (v := 3) dX12_make_17 rfl (by decide) ?_
    refine t_iald (pc' := 19) (q := 3) dX12_make_18 rfl sh_75 rfl (by decide) ?_
    refine s_iload_n (pc' := 20) dX12_make_19 rfl rfl ?_
    refine s_ishr (pc' := 21) dX12_make_20 rfl ?_
    refine s_iconst (pc' := 22) (v := 1) dX12_make_21 rfl (by decide) ?_
    refine s_iand (pc' := 23) dX12_make_22 rfl ?_
    refine s_iload_n (pc' := 24) dX12_make_23 rfl rfl ?_
    refine s_ifeq (pc' := 27) (tgt := 31) dX12_make_24 (by decide) rfl (fun c24 => ?_) (fun c24 => ?_)
    · refine s_iconst (pc' := 32) (v := 0) dX12_make_31 rfl (by decide) ?_
      refine s_icmpne (pc' := 35) (tgt := 41) dX12_make_32 (by decide) rfl (fun c32 => ?_) (fun c32 => ?_)
      · refine s_aload_n (pc' := 42) dX12_make_41 rfl rfl ?_
        refine s_getS (pc' := 45) (b := 75) dX12_make_42 rfl (by decide) rfl (by decide) fa_X12_70_12 rfl rfl ?_
        refine s_iconst (pc' := 46) (v := 3) dX12_make_45 rfl (by decide) ?_
        refine s_dup2 (pc' := 47) dX12_make_46 rfl rfl rfl ?_
        refine t_iald (pc' := 48) (q := 3) dX12_make_47 rfl sh_75 rfl (by decide) ?_
        refine s_iconst (pc' := 49) (v := 1) dX12_make_48 rfl (by decide) ?_
        refine s_iload_n (pc' := 50) dX12_make_49 rfl rfl ?_
        refine s_ishl (pc' := 51) dX12_make_50 rfl ?_
        refine s_ixor (pc' := 52) dX12_make_51 rfl ?_
        refine t_iast (pc' := 53) (q := 3) dX12_make_52 rfl sh_75 rfl (by decide) ?_
        refine s_aload_n (pc' := 54) dX12_make_53 rfl rfl ?_
        refine s_aload_n (pc' := 55) dX12_make_54 rfl rfl ?_
        refine s_getS (pc' := 58) (b := 75) dX12_make_55 rfl (by decide) rfl (by decide) fa_X12_70_12 rfl rfl ?_
        refine s_iconst (pc' := 59) (v := 3) dX12_make_58 rfl (by decide) ?_
        refine t_iald (pc' := 60) (q := 3) dX12_make_59 rfl sh_75 rfl (by decide) ?_
        refine s_callS (pc' := 63) (As := [.int _]) dX12_make_60 rfl mk_X12_bits ml_X12_203 sm_X12_bits rfl rfl ⟨Nat.le_of_ble_eq_true rfl, Nat.le_of_ble_eq_true rfl, Nat.le_of_ble_eq_true rfl, Nat.le_of_ble_eq_true rfl⟩ (Nat.le_of_ble_eq_true rfl) (c_X12_bits ?_)
        refine s_callV (pc' := 66) (As := [.int _]) dX12_make_63 rfl mk_X12_done ml_X12_157 im_X12_done se_X12_X12_X12_done sh_54 (by decide) rfl rfl rfl ⟨Nat.le_of_ble_eq_true rfl, Nat.le_of_ble_eq_true rfl, Nat.le_of_ble_eq_true rfl, Nat.le_of_ble_eq_true rfl⟩ (Nat.le_of_ble_eq_true rfl) (c_X12_done ?_)
        exact s_iret dX12_make_66 rfl (by decide) (by decide) (by (try simp (disch := decide) only [up2_d, up2_e, up2_s]); exact k3 j1 hj1 rfl (by (first | rw [if_pos c24] | rw [if_neg c24]); exact c32))
      · refine s_aload_n (pc' := 36) dX12_make_35 rfl rfl ?_
        refine s_iconst (pc' := 37) (v := 3) dX12_make_36 rfl (by decide) ?_
        refine s_callV (pc' := 40) (As := [.int _]) dX12_make_37 rfl mk_X12_refused ml_X12_149 im_X12_refused se_X12_X12_X12_refused sh_54 (by decide) rfl rfl rfl ⟨Nat.le_of_ble_eq_true rfl, Nat.le_of_ble_eq_true rfl, Nat.le_of_ble_eq_true rfl, Nat.le_of_ble_eq_true rfl⟩ (Nat.le_of_ble_eq_true rfl) (c_X12_refused ?_)
        exact s_iret dX12_make_40 rfl (by decide) (by decide) (k2 j1 hj1 rfl (by (first | rw [if_pos c24] | rw [if_neg c24]); exact c32))
    · refine s_iconst (pc' := 28) (v := 1) dX12_make_27 rfl (by decide) ?_
      refine s_goto (tgt := 32) dX12_make_28 (by decide) ?_
      refine s_icmpne (pc' := 35) (tgt := 41) dX12_make_32 (by decide) rfl (fun c32 => ?_) (fun c32 => ?_)
      · refine s_aload_n (pc' := 42) dX12_make_41 rfl rfl ?_
        refine s_getS (pc' := 45) (b := 75) dX12_make_42 rfl (by decide) rfl (by decide) fa_X12_70_12 rfl rfl ?_
        refine s_iconst (pc' := 46) (v := 3) dX12_make_45 rfl (by decide) ?_
        refine s_dup2 (pc' := 47) dX12_make_46 rfl rfl rfl ?_
        refine t_iald (pc' := 48) (q := 3) dX12_make_47 rfl sh_75 rfl (by decide) ?_
        refine s_iconst (pc' := 49) (v := 1) dX12_make_48 rfl (by decide) ?_
        refine s_iload_n (pc' := 50) dX12_make_49 rfl rfl ?_
        refine s_ishl (pc' := 51) dX12_make_50 rfl ?_
        refine s_ixor (pc' := 52) dX12_make_51 rfl ?_
        refine t_iast (pc' := 53) (q := 3) dX12_make_52 rfl sh_75 rfl (by decide) ?_
        refine s_aload_n (pc' := 54) dX12_make_53 rfl rfl ?_
        refine s_aload_n (pc' := 55) dX12_make_54 rfl rfl ?_
        refine s_getS (pc' := 58) (b := 75) dX12_make_55 rfl (by decide) rfl (by decide) fa_X12_70_12 rfl rfl ?_
        refine s_iconst (pc' := 59) (v := 3) dX12_make_58 rfl (by decide) ?_
        refine t_iald (pc' := 60) (q := 3) dX12_make_59 rfl sh_75 rfl (by decide) ?_
        refine s_callS (pc' := 63) (As := [.int _]) dX12_make_60 rfl mk_X12_bits ml_X12_203 sm_X12_bits rfl rfl ⟨Nat.le_of_ble_eq_true rfl, Nat.le_of_ble_eq_true rfl, Nat.le_of_ble_eq_true rfl, Nat.le_of_ble_eq_true rfl⟩ (Nat.le_of_ble_eq_true rfl) (c_X12_bits ?_)
        refine s_callV (pc' := 66) (As := [.int _]) dX12_make_63 rfl mk_X12_done ml_X12_157 im_X12_done se_X12_X12_X12_done sh_54 (by decide) rfl rfl rfl ⟨Nat.le_of_ble_eq_true rfl, Nat.le_of_ble_eq_true rfl, Nat.le_of_ble_eq_true rfl, Nat.le_of_ble_eq_true rfl⟩ (Nat.le_of_ble_eq_true rfl) (c_X12_done ?_)
        exact s_iret dX12_make_66 rfl (by decide) (by decide) (by (try simp (disch := decide) only [up2_d, up2_e, up2_s]); exact k3 j1 hj1 rfl (by (first | rw [if_pos c24] | rw [if_neg c24]); exact c32))
      · refine s_aload_n (pc' := 36) dX12_make_35 rfl rfl ?_
        refine s_iconst (pc' := 37) (v := 3) dX12_make_36 rfl (by decide) ?_
        refine s_callV (pc' := 40) (As := [.int _]) dX12_make_37 rfl mk_X12_refused ml_X12_149 im_X12_refused se_X12_X12_X12_refused sh_54 (by decide) rfl rfl rfl ⟨Nat.le_of_ble_eq_true rfl, Nat.le_of_ble_eq_true rfl, Nat.le_of_ble_eq_true rfl, Nat.le_of_ble_eq_true rfl⟩ (Nat.le_of_ble_eq_true rfl) (c_X12_refused ?_)
        exact s_iret dX12_make_40 rfl (by decide) (by decide) (k2 j1 hj1 rfl (by (first | rw [if_pos c24] | rw [if_neg c24]); exact c32))
  · refine s_ifneF (pc' := 7) (tgt := 13) dX12_make_4 (by decide) rfl (by decide) ?_
    refine s_aload_n (pc' := 8) dX12_make_7 rfl rfl ?_
    refine s_iconst (pc' := 9) (v := 1) dX12_make_8 rfl (by decide) ?_
    refine s_callV (pc' := 12) (As := [.int _]) dX12_make_9 rfl mk_X12_refused ml_X12_149 im_X12_refused se_X12_X12_X12_refused sh_54 (by decide) rfl rfl rfl ⟨Nat.le_of_ble_eq_true rfl, Nat.le_of_ble_eq_true rfl, Nat.le_of_ble_eq_true rfl, Nat.le_of_ble_eq_true rfl⟩ (Nat.le_of_ble_eq_true rfl) (c_X12_refused ?_)
    exact s_iret dX12_make_12 rfl (by decide) (by decide) (k1 n1)
theorem c_X12_spell {N : Nat} {S : Nat → Nat × Nat} {I : Nat → Nat → Int32} {J : Nat → Nat → Int64} {Q : Nat → Nat → Option Nat} {κ : Option Value → HP → Prop} {v x n : Int32} {nv ns : Nat} (hv : I 75 0 = nI nv) (hn : nv ≤ 10) (hs : I 75 2 = nI ns) (hns : ns ≤ 10) (k1 : ((∀ j, j < nv → v ≠ nI j) ∨ ¬ inR x (-20) 20 ∨ ¬ inR n 1 20) → κ (some (.int (-1))) (N, S, up2 I 54 24 1, J, Q)) (k2 : ∀ j, j < nv → v = nI j → inR x (-20) 20 → inR n 1 20 → ns = 10 → κ (some (.int (-1))) (N, S, up2 I 54 24 2, J, Q)) (k3 : ∀ j, j < nv → v = nI j → inR x (-20) 20 → inR n 1 20 → ns ≠ 10 → κ (some (.int (I 75 2 + 1))) (N, S, (up2 (up2 (up2 (up2 (up2 (up2 I 72 ns (nI j)) 73 ns x) 74 ns (I 75 6 + n)) 75 2 (I 75 2 + 1)) 54 37 0) 54 24 0), J, Q)) : CT E1 M_X12_spell [.ref 54, .int v, .int x, .int n] (N, S, I, J, Q) κ := by
  refine ofSP mk_X12_spell (Nat.le_of_ble_eq_true rfl) (L := [.ref 54, .int _, .int _, .int _]) rfl ?_
  refine s_aload_n (pc' := 1) dX12_spell_0 rfl rfl ?_
  refine s_iload_n (pc' := 2) dX12_spell_1 rfl rfl ?_
  refine s_callV (pc' := 5) (As := [.int _]) dX12_spell_2 rfl mk_X12_isValue ml_X12_170 im_X12_isValue se_X12_X12_X12_isValue sh_54 (by decide) rfl rfl rfl ⟨Nat.le_of_ble_eq_true rfl, Nat.le_of_ble_eq_true rfl, Nat.le_of_ble_eq_true rfl, Nat.le_of_ble_eq_true rfl⟩ (Nat.le_of_ble_eq_true rfl) (c_X12_isValue hv (by omega) (fun j2 hj2 e2 => ?_) (fun n2 => ?_))
  · subst e2
    refine s_ifeqF (pc' := 8) (tgt := 34) dX12_spell_5 (by decide) rfl (by decide) ?_
    refine s_iload_n (pc' := 9) dX12_spell_8 rfl rfl ?_
    refine s_i2l (pc' := 10) dX12_spell_9 rfl ?_
    refine s_ldc2 (pc' := 13) dX12_spell_10 rfl kl_X12_206 ?_
    refine s_ldc2 (pc' := 16) dX12_spell_13 rfl kl_X12_188 ?_
    refine s_callS (pc' := 19) (As := [.long _, .long _, .long _]) dX12_spell_16 rfl mk_X12_isIn ml_X12_135 sm_X12_isIn rfl rfl ⟨Nat.le_of_ble_eq_true rfl, Nat.le_of_ble_eq_true rfl, Nat.le_of_ble_eq_true rfl, Nat.le_of_ble_eq_true rfl⟩ (Nat.le_of_ble_eq_true rfl) (c_isInR (a' := -20) (b' := 20) rfl rfl (fun i16 => ?_) (fun i16 => ?_))
    · refine s_ifeqF (pc' := 22) (tgt := 34) dX12_spell_19 (by decide) rfl (by decide) ?_
      refine s_iload_n (pc' := 23) dX12_spell_22 rfl rfl ?_
      refine s_i2l (pc' := 24) dX12_spell_23 rfl ?_
      refine s_lconst (pc' := 25) (v := 1) dX12_spell_24 rfl (by decide) ?_
      refine s_ldc2 (pc' := 28) dX12_spell_25 rfl kl_X12_188 ?_
      refine s_callS (pc' := 31) (As := [.long _, .long _, .long _]) dX12_spell_28 rfl mk_X12_isIn ml_X12_135 sm_X12_isIn rfl rfl ⟨Nat.le_of_ble_eq_true rfl, Nat.le_of_ble_eq_true rfl, Nat.le_of_ble_eq_true rfl, Nat.le_of_ble_eq_true rfl⟩ (Nat.le_of_ble_eq_true rfl) (c_isInR (a' := 1) (b' := 20) rfl rfl (fun i28 => ?_) (fun i28 => ?_))
      · refine s_ifneT (tgt := 40) dX12_spell_31 (by decide) (by decide) ?_
        refine s_aload_n (pc' := 41) dX12_spell_40 rfl rfl ?_
        refine s_getS (pc' := 44) (b := 75) dX12_spell_41 rfl (by decide) rfl (by decide) fa_X12_70_12 rfl rfl ?_
        refine s_iconst (pc' := 45) (v := 2) dX12_spell_44 rfl (by decide) ?_
        refine t_iald (pc' := 46) (q := 2) dX12_spell_45 rfl sh_75 rfl (by decide) ?_
        refine s_bipush (pc' := 48) (v := 10) dX12_spell_46 rfl (by decide) ?_
        refine s_icmpne (pc' := 51) (tgt := 57) dX12_spell_48 (by decide) rfl (fun c48 => ?_) (fun c48 => ?_)
        · refine s_aload_n (pc' := 58) dX12_spell_57 rfl rfl ?_
          refine s_getS (pc' := 61) (b := 72) dX12_spell_58 rfl (by decide) rfl (by decide) fa_X12_61_12 rfl rfl ?_
          refine s_aload_n (pc' := 62) dX12_spell_61 rfl rfl ?_
          refine s_getS (pc' := 65) (b := 75) dX12_spell_62 rfl (by decide) rfl (by decide) fa_X12_70_12 rfl rfl ?_
          refine s_iconst (pc' := 66) (v := 2) dX12_spell_65 rfl (by decide) ?_
          refine t_iald (pc' := 67) (q := 2) dX12_spell_66 rfl sh_75 rfl (by decide) ?_
          refine s_iload_n (pc' := 68) dX12_spell_67 rfl rfl ?_
          refine t_iast (pc' := 69) (q := ns) dX12_spell_68 rfl sh_72 (by (try simp (disch := decide) only [up2_d, up2_e, up2_s]); exact hs) (by have := nv_ne (m := 10) hs c48; omega) ?_
          refine s_aload_n (pc' := 70) dX12_spell_69 rfl rfl ?_
          refine s_getS (pc' := 73) (b := 73) dX12_spell_70 rfl (by decide) rfl (by decide) fa_X12_64_12 rfl rfl ?_
          refine s_aload_n (pc' := 74) dX12_spell_73 rfl rfl ?_
          refine s_getS (pc' := 77) (b := 75) dX12_spell_74 rfl (by decide) rfl (by decide) fa_X12_70_12 rfl rfl ?_
          refine s_iconst (pc' := 78) (v := 2) dX12_spell_77 rfl (by decide) ?_
          refine t_iald (pc' := 79) (q := 2) dX12_spell_78 rfl sh_75 rfl (by decide) ?_
          refine s_iload_n (pc' := 80) dX12_spell_79 rfl rfl ?_
          refine t_iast (pc' := 81) (q := ns) dX12_spell_80 rfl sh_73 (by (try simp (disch := decide) only [up2_d, up2_e, up2_s]); exact hs) (by have := nv_ne (m := 10) hs c48; omega) ?_
          refine s_aload_n (pc' := 82) dX12_spell_81 rfl rfl ?_
          refine s_getS (pc' := 85) (b := 74) dX12_spell_82 rfl (by decide) rfl (by decide) fa_X12_67_12 rfl rfl ?_
          refine s_aload_n (pc' := 86) dX12_spell_85 rfl rfl ?_
          refine s_getS (pc' := 89) (b := 75) dX12_spell_86 rfl (by decide) rfl (by decide) fa_X12_70_12 rfl rfl ?_
          refine s_iconst (pc' := 90) (v := 2) dX12_spell_89 rfl (by decide) ?_
          refine t_iald (pc' := 91) (q := 2) dX12_spell_90 rfl sh_75 rfl (by decide) ?_
          refine s_aload_n (pc' := 92) dX12_spell_91 rfl rfl ?_
          refine s_getS (pc' := 95) (b := 75) dX12_spell_92 rfl (by decide) rfl (by decide) fa_X12_70_12 rfl rfl ?_
          refine s_bipush (pc' := 97) (v := 6) dX12_spell_95 rfl (by decide) ?_
          refine t_iald (pc' := 98) (q := 6) dX12_spell_97 rfl sh_75 rfl (by decide) ?_
          refine s_iload_n (pc' := 99) dX12_spell_98 rfl rfl ?_
          refine s_iadd (pc' := 100) dX12_spell_99 rfl ?_
          refine t_iast (pc' := 101) (q := ns) dX12_spell_100 rfl sh_74 (by (try simp (disch := decide) only [up2_d, up2_e, up2_s]); exact hs) (by have := nv_ne (m := 10) hs c48; omega) ?_
          refine s_aload_n (pc' := 102) dX12_spell_101 rfl rfl ?_
          refine s_getS (pc' := 105) (b := 75) dX12_spell_102 rfl (by decide) rfl (by decide) fa_X12_70_12 rfl rfl ?_
          refine s_iconst (pc' := 106) (v := 2) dX12_spell_105 rfl (by decide) ?_
          refine s_dup2 (pc' := 107) dX12_spell_106 rfl rfl rfl ?_
          refine t_iald (pc' := 108) (q := 2) dX12_spell_107 rfl sh_75 rfl (by decide) ?_
          refine s_iconst (pc' := 109) (v := 1) dX12_spell_108 rfl (by decide) ?_
          refine s_iadd (pc' := 110) dX12_spell_109 rfl ?_
          refine t_iast (pc' := 111) (q := 2) dX12_spell_110 rfl sh_75 rfl (by decide) ?_
          refine s_aload_n (pc' := 112) dX12_spell_111 rfl rfl ?_
          refine s_iconst (pc' := 113) (v := 0) dX12_spell_112 rfl (by decide) ?_
          refine t_putI (pc' := 116) dX12_spell_113 rfl sh_54 (by decide) fa_X12_153_12 (Or.inl rfl) rfl rfl rfl ?_
          refine s_aload_n (pc' := 117) dX12_spell_116 rfl rfl ?_
          refine s_aload_n (pc' := 118) dX12_spell_117 rfl rfl ?_
          refine s_getS (pc' := 121) (b := 75) dX12_spell_118 rfl (by decide) rfl (by decide) fa_X12_70_12 rfl rfl ?_
          refine s_iconst (pc' := 122) (v := 2) dX12_spell_121 rfl (by decide) ?_
          refine t_iald (pc' := 123) (q := 2) dX12_spell_122 rfl sh_75 rfl (by decide) ?_
          refine s_callV (pc' := 126) (As := [.int _]) dX12_spell_123 rfl mk_X12_done ml_X12_157 im_X12_done se_X12_X12_X12_done sh_54 (by decide) rfl rfl rfl ⟨Nat.le_of_ble_eq_true rfl, Nat.le_of_ble_eq_true rfl, Nat.le_of_ble_eq_true rfl, Nat.le_of_ble_eq_true rfl⟩ (Nat.le_of_ble_eq_true rfl) (c_X12_done ?_)
          exact s_iret dX12_spell_126 rfl (by decide) (by decide) (by (try simp (disch := decide) only [up2_d, up2_e, up2_s]); exact k3 j2 hj2 rfl i16 i28 (nv_ne hs c48))
        · refine s_aload_n (pc' := 52) dX12_spell_51 rfl rfl ?_
          refine s_iconst (pc' := 53) (v := 2) dX12_spell_52 rfl (by decide) ?_
          refine s_callV (pc' := 56) (As := [.int _]) dX12_spell_53 rfl mk_X12_refused ml_X12_149 im_X12_refused se_X12_X12_X12_refused sh_54 (by decide) rfl rfl rfl ⟨Nat.le_of_ble_eq_true rfl, Nat.le_of_ble_eq_true rfl, Nat.le_of_ble_eq_true rfl, Nat.le_of_ble_eq_true rfl⟩ (Nat.le_of_ble_eq_true rfl) (c_X12_refused ?_)
          exact s_iret dX12_spell_56 rfl (by decide) (by decide) (k2 j2 hj2 rfl i16 i28 (nv_eq hs (by omega) c48))
      · refine s_ifneF (pc' := 34) (tgt := 40) dX12_spell_31 (by decide) rfl (by decide) ?_
        refine s_aload_n (pc' := 35) dX12_spell_34 rfl rfl ?_
        refine s_iconst (pc' := 36) (v := 1) dX12_spell_35 rfl (by decide) ?_
        refine s_callV (pc' := 39) (As := [.int _]) dX12_spell_36 rfl mk_X12_refused ml_X12_149 im_X12_refused se_X12_X12_X12_refused sh_54 (by decide) rfl rfl rfl ⟨Nat.le_of_ble_eq_true rfl, Nat.le_of_ble_eq_true rfl, Nat.le_of_ble_eq_true rfl, Nat.le_of_ble_eq_true rfl⟩ (Nat.le_of_ble_eq_true rfl) (c_X12_refused ?_)
        exact s_iret dX12_spell_39 rfl (by decide) (by decide) (k1 (Or.inr (Or.inr i28)))
    · refine s_ifeqT (tgt := 34) dX12_spell_19 (by decide) (by decide) ?_
      refine s_aload_n (pc' := 35) dX12_spell_34 rfl rfl ?_
      refine s_iconst (pc' := 36) (v := 1) dX12_spell_35 rfl (by decide) ?_
      refine s_callV (pc' := 39) (As := [.int _]) dX12_spell_36 rfl mk_X12_refused ml_X12_149 im_X12_refused se_X12_X12_X12_refused sh_54 (by decide) rfl rfl rfl ⟨Nat.le_of_ble_eq_true rfl, Nat.le_of_ble_eq_true rfl, Nat.le_of_ble_eq_true rfl, Nat.le_of_ble_eq_true rfl⟩ (Nat.le_of_ble_eq_true rfl) (c_X12_refused ?_)
      exact s_iret dX12_spell_39 rfl (by decide) (by decide) (k1 (Or.inr (Or.inl i16)))
  · refine s_ifeqT (tgt := 34) dX12_spell_5 (by decide) (by decide) ?_
    refine s_aload_n (pc' := 35) dX12_spell_34 rfl rfl ?_
    refine s_iconst (pc' := 36) (v := 1) dX12_spell_35 rfl (by decide) ?_
    refine s_callV (pc' := 39) (As := [.int _]) dX12_spell_36 rfl mk_X12_refused ml_X12_149 im_X12_refused se_X12_X12_X12_refused sh_54 (by decide) rfl rfl rfl ⟨Nat.le_of_ble_eq_true rfl, Nat.le_of_ble_eq_true rfl, Nat.le_of_ble_eq_true rfl, Nat.le_of_ble_eq_true rfl⟩ (Nat.le_of_ble_eq_true rfl) (c_X12_refused ?_)
    exact s_iret dX12_spell_39 rfl (by decide) (by decide) (k1 (Or.inl n2))
theorem l_X12_turn {N : Nat} {S : Nat → Nat × Nat} {I : Nat → Nat → Int32} {J : Nat → Nat → Int64} {Q : Nat → Nat → Option Nat} {κ : Option Value → HP → Prop} {ns : Nat} (hs : I 75 2 = nI ns) (hns : ns ≤ 10) (hk : κ (some (.int (cEq (I 74) (I 75 6) ns))) (N, S, (up2 (up2 I 54 37 0) 54 24 0), J, Q)) : ∀ d : Nat, ∀ k, k + d = ns → SP E1 M_X12_turn κ 34 [.ref 54, .int (cEq (I 74) (I 75 6) k), .int (nI k)] [] (N, S, I, J, Q) 0 0 := by
  intro d
  induction d with
  | zero =>
    intro k hd
    obtain rfl : k = ns := by omega
    refine s_iload_n (pc' := 35) dX12_turn_34 rfl rfl ?_
    refine s_aload_n (pc' := 36) dX12_turn_35 rfl rfl ?_
    refine s_getS (pc' := 39) (b := 75) dX12_turn_36 rfl (by decide) rfl (by decide) fa_X12_70_12 rfl rfl ?_
    refine s_iconst (pc' := 40) (v := 2) dX12_turn_39 rfl (by decide) ?_
    refine t_iald (pc' := 41) (q := 2) dX12_turn_40 rfl sh_75 rfl (by decide) ?_
    refine s_icmpgeT (tgt := 74) dX12_turn_41 (by decide) (by rw [hs]; exact nI_le (Nat.le_refl _) (by omega)) ?_
    refine s_aload_n (pc' := 75) dX12_turn_74 rfl rfl ?_
    refine s_iconst (pc' := 76) (v := 0) dX12_turn_75 rfl (by decide) ?_
    refine t_putI (pc' := 79) dX12_turn_76 rfl sh_54 (by decide) fa_X12_153_12 (Or.inl rfl) rfl rfl rfl ?_
    refine s_aload_n (pc' := 80) dX12_turn_79 rfl rfl ?_
    refine s_iload_n (pc' := 81) dX12_turn_80 rfl rfl ?_
    refine s_callV (pc' := 84) (As := [.int _]) dX12_turn_81 rfl mk_X12_done ml_X12_157 im_X12_done se_X12_X12_X12_done sh_54 (by decide) rfl rfl rfl ⟨Nat.le_of_ble_eq_true rfl, Nat.le_of_ble_eq_true rfl, Nat.le_of_ble_eq_true rfl, Nat.le_of_ble_eq_true rfl⟩ (Nat.le_of_ble_eq_true rfl) (c_X12_done ?_)
    exact s_iret dX12_turn_84 rfl (by decide) (by decide) hk
  | succ d ih =>
    intro k hd
    refine s_iload_n (pc' := 35) dX12_turn_34 rfl rfl ?_
    refine s_aload_n (pc' := 36) dX12_turn_35 rfl rfl ?_
    refine s_getS (pc' := 39) (b := 75) dX12_turn_36 rfl (by decide) rfl (by decide) fa_X12_70_12 rfl rfl ?_
    refine s_iconst (pc' := 40) (v := 2) dX12_turn_39 rfl (by decide) ?_
    refine t_iald (pc' := 41) (q := 2) dX12_turn_40 rfl sh_75 rfl (by decide) ?_
    refine s_icmpgeF (pc' := 44) (tgt := 74) dX12_turn_41 (by decide) rfl (by rw [hs]; exact nI_ge (by omega) (by omega)) ?_
    refine s_iload_n (pc' := 45) dX12_turn_44 rfl rfl ?_
    refine s_aload_n (pc' := 46) dX12_turn_45 rfl rfl ?_
    refine s_getS (pc' := 49) (b := 74) dX12_turn_46 rfl (by decide) rfl (by decide) fa_X12_67_12 rfl rfl ?_
    refine s_iload_n (pc' := 50) dX12_turn_49 rfl rfl ?_
    refine t_iald (pc' := 51) dX12_turn_50 rfl sh_74 rfl (by omega) ?_
    refine s_aload_n (pc' := 52) dX12_turn_51 rfl rfl ?_
    refine s_getS (pc' := 55) (b := 75) dX12_turn_52 rfl (by decide) rfl (by decide) fa_X12_70_12 rfl rfl ?_
    refine s_bipush (pc' := 57) (v := 6) dX12_turn_55 rfl (by decide) ?_
    refine t_iald (pc' := 58) (q := 6) dX12_turn_57 rfl sh_75 rfl (by decide) ?_
    refine s_icmpne (pc' := 61) (tgt := 65) dX12_turn_58 (by decide) rfl (fun c58 => ?_) (fun c58 => ?_)
    · refine s_iconst (pc' := 66) (v := 0) dX12_turn_65 rfl (by decide) ?_
      refine s_iadd (pc' := 67) dX12_turn_66 rfl ?_
      refine t_istore_n (pc' := 68) (L' := [.ref 54, .int _, .int _]) dX12_turn_67 rfl (Nat.le_of_ble_eq_true rfl) rfl ?_
      refine t_iinc (pc' := 71) (v := nI (k + 1)) (L' := [.ref 54, .int _, .int _]) dX12_turn_68 rfl rfl (nI_inc k) rfl ?_
      refine s_goto (tgt := 34) dX12_turn_71 (by decide) ?_
      refine s_eq ?_ rfl rfl (ih (k + 1) (by omega))
      simp only [cEq]
      first | rw [if_pos c58] | rw [if_neg c58]
    · refine s_iconst (pc' := 62) (v := 1) dX12_turn_61 rfl (by decide) ?_
      refine s_goto (tgt := 66) dX12_turn_62 (by decide) ?_
      refine s_iadd (pc' := 67) dX12_turn_66 rfl ?_
      refine t_istore_n (pc' := 68) (L' := [.ref 54, .int _, .int _]) dX12_turn_67 rfl (Nat.le_of_ble_eq_true rfl) rfl ?_
      refine t_iinc (pc' := 71) (v := nI (k + 1)) (L' := [.ref 54, .int _, .int _]) dX12_turn_68 rfl rfl (nI_inc k) rfl ?_
      refine s_goto (tgt := 34) dX12_turn_71 (by decide) ?_
      refine s_eq ?_ rfl rfl (ih (k + 1) (by omega))
      simp only [cEq]
      first | rw [if_pos c58] | rw [if_neg c58]
theorem c_X12_turn {N : Nat} {S : Nat → Nat × Nat} {I : Nat → Nat → Int32} {J : Nat → Nat → Int64} {Q : Nat → Nat → Option Nat} {κ : Option Value → HP → Prop} {ns : Nat} (hs : I 75 2 = nI ns) (hns : ns ≤ 10) (k1 : I 75 6 = 1000 → κ (some (.int (-1))) (N, S, up2 I 54 24 2, J, Q)) (k2 : I 75 6 ≠ 1000 → κ (some (.int (cEq (I 74) (I 75 6 + 1) ns))) (N, S, (up2 (up2 (up2 I 75 6 (I 75 6 + 1)) 54 37 0) 54 24 0), J, Q)) : CT E1 M_X12_turn [.ref 54] (N, S, I, J, Q) κ := by
  refine ofSP mk_X12_turn (Nat.le_of_ble_eq_true rfl) (L := [.ref 54, .retAddr _, .retAddr _]) rfl ?_
  refine s_aload_n (pc' := 1) dX12_turn_0 rfl rfl ?_
  refine s_getS (pc' := 4) (b := 75) dX12_turn_1 rfl (by decide) rfl (by decide) fa_X12_70_12 rfl rfl ?_
  refine s_bipush (pc' := 6) (v := 6) dX12_turn_4 rfl (by decide) ?_
  refine t_iald (pc' := 7) (q := 6) dX12_turn_6 rfl sh_75 rfl (by decide) ?_
  refine s_sipush (pc' := 10) (v := 1000) dX12_turn_7 rfl (by decide) ?_
  refine s_icmpne (pc' := 13) (tgt := 19) dX12_turn_10 (by decide) rfl (fun c10 => ?_) (fun c10 => ?_)
  · refine s_aload_n (pc' := 20) dX12_turn_19 rfl rfl ?_
    refine s_getS (pc' := 23) (b := 75) dX12_turn_20 rfl (by decide) rfl (by decide) fa_X12_70_12 rfl rfl ?_
    refine s_bipush (pc' := 25) (v := 6) dX12_turn_23 rfl (by decide) ?_
    refine s_dup2 (pc' := 26) dX12_turn_25 rfl rfl rfl ?_
    refine t_iald (pc' := 27) (q := 6) dX12_turn_26 rfl sh_75 rfl (by decide) ?_
    refine s_iconst (pc' := 28) (v := 1) dX12_turn_27 rfl (by decide) ?_
    refine s_iadd (pc' := 29) dX12_turn_28 rfl ?_
    refine t_iast (pc' := 30) (q := 6) dX12_turn_29 rfl sh_75 rfl (by decide) ?_
    refine s_iconst (pc' := 31) (v := 0) dX12_turn_30 rfl (by decide) ?_
    refine t_istore_n (pc' := 32) (L' := [.ref 54, .int _, .retAddr _]) dX12_turn_31 rfl (Nat.le_of_ble_eq_true rfl) rfl ?_
    refine s_iconst (pc' := 33) (v := 0) dX12_turn_32 rfl (by decide) ?_
    refine t_istore_n (pc' := 34) (L' := [.ref 54, .int _, .int _]) dX12_turn_33 rfl (Nat.le_of_ble_eq_true rfl) rfl ?_
    exact l_X12_turn (ns := ns) (by (try simp (disch := decide) only [up2_d, up2_e, up2_s]); exact hs) hns (by have z0 := k2 c10; (try simp (disch := decide) only [up2_d, up2_e, up2_s]); exact z0) ns 0 (by omega)
  · refine s_aload_n (pc' := 14) dX12_turn_13 rfl rfl ?_
    refine s_iconst (pc' := 15) (v := 2) dX12_turn_14 rfl (by decide) ?_
    refine s_callV (pc' := 18) (As := [.int _]) dX12_turn_15 rfl mk_X12_refused ml_X12_149 im_X12_refused se_X12_X12_X12_refused sh_54 (by decide) rfl rfl rfl ⟨Nat.le_of_ble_eq_true rfl, Nat.le_of_ble_eq_true rfl, Nat.le_of_ble_eq_true rfl, Nat.le_of_ble_eq_true rfl⟩ (Nat.le_of_ble_eq_true rfl) (c_X12_refused ?_)
    exact s_iret dX12_turn_18 rfl (by decide) (by decide) (k1 c10)
theorem l_X12_rest {N : Nat} {S : Nat → Nat × Nat} {I : Nat → Nat → Int32} {J : Nat → Nat → Int64} {Q : Nat → Nat → Option Nat} {κ : Option Value → HP → Prop} {nv : Nat} (hv : I 75 0 = nI nv) (hn : nv ≤ 10) (hk : κ (some (.int (cNz (I 59) nv))) (N, S, (up2 (up2 (zr I 59 nv) 54 37 0) 54 24 0), J, Q)) : ∀ d : Nat, ∀ k, k + d = nv → SP E1 M_X12_rest κ 4 [.ref 54, .int (cNz (I 59) k), .int (nI k)] [] (N, S, zr I 59 k, J, Q) 0 0 := by
  intro d
  induction d with
  | zero =>
    intro k hd
    obtain rfl : k = nv := by omega
    refine s_iload_n (pc' := 5) dX12_rest_4 rfl rfl ?_
    refine s_aload_n (pc' := 6) dX12_rest_5 rfl rfl ?_
    refine s_getS (pc' := 9) (b := 75) dX12_rest_6 rfl (by decide) rfl (by decide) fa_X12_70_12 rfl rfl ?_
    refine s_iconst (pc' := 10) (v := 0) dX12_rest_9 rfl (by decide) ?_
    refine t_iald (pc' := 11) (q := 0) dX12_rest_10 rfl sh_75 rfl (by decide) ?_
    refine s_icmpgeT (tgt := 44) dX12_rest_11 (by decide) (by rw [zr_d (by decide), hv]; exact nI_le (Nat.le_refl _) (by omega)) ?_
    refine s_aload_n (pc' := 45) dX12_rest_44 rfl rfl ?_
    refine s_iconst (pc' := 46) (v := 0) dX12_rest_45 rfl (by decide) ?_
    refine t_putI (pc' := 49) dX12_rest_46 rfl sh_54 (by decide) fa_X12_153_12 (Or.inl rfl) rfl rfl rfl ?_
    refine s_aload_n (pc' := 50) dX12_rest_49 rfl rfl ?_
    refine s_iload_n (pc' := 51) dX12_rest_50 rfl rfl ?_
    refine s_callV (pc' := 54) (As := [.int _]) dX12_rest_51 rfl mk_X12_done ml_X12_157 im_X12_done se_X12_X12_X12_done sh_54 (by decide) rfl rfl rfl ⟨Nat.le_of_ble_eq_true rfl, Nat.le_of_ble_eq_true rfl, Nat.le_of_ble_eq_true rfl, Nat.le_of_ble_eq_true rfl⟩ (Nat.le_of_ble_eq_true rfl) (c_X12_done ?_)
    exact s_iret dX12_rest_54 rfl (by decide) (by decide) hk
  | succ d ih =>
    intro k hd
    refine s_iload_n (pc' := 5) dX12_rest_4 rfl rfl ?_
    refine s_aload_n (pc' := 6) dX12_rest_5 rfl rfl ?_
    refine s_getS (pc' := 9) (b := 75) dX12_rest_6 rfl (by decide) rfl (by decide) fa_X12_70_12 rfl rfl ?_
    refine s_iconst (pc' := 10) (v := 0) dX12_rest_9 rfl (by decide) ?_
    refine t_iald (pc' := 11) (q := 0) dX12_rest_10 rfl sh_75 rfl (by decide) ?_
    refine s_icmpgeF (pc' := 14) (tgt := 44) dX12_rest_11 (by decide) rfl (by rw [zr_d (by decide), hv]; exact nI_ge (by omega) (by omega)) ?_
    refine s_iload_n (pc' := 15) dX12_rest_14 rfl rfl ?_
    refine s_aload_n (pc' := 16) dX12_rest_15 rfl rfl ?_
    refine s_getS (pc' := 19) (b := 59) dX12_rest_16 rfl (by decide) rfl (by decide) fa_X12_22_12 rfl rfl ?_
    refine s_iload_n (pc' := 20) dX12_rest_19 rfl rfl ?_
    refine t_iald (pc' := 21) dX12_rest_20 rfl sh_59 rfl (by omega) ?_
    refine s_ifeq (pc' := 24) (tgt := 28) dX12_rest_21 (by decide) rfl (fun c21 => ?_) (fun c21 => ?_)
    · refine s_iconst (pc' := 29) (v := 0) dX12_rest_28 rfl (by decide) ?_
      refine s_iadd (pc' := 30) dX12_rest_29 rfl ?_
      refine t_istore_n (pc' := 31) (L' := [.ref 54, .int _, .int _]) dX12_rest_30 rfl (Nat.le_of_ble_eq_true rfl) rfl ?_
      refine s_aload_n (pc' := 32) dX12_rest_31 rfl rfl ?_
      refine s_getS (pc' := 35) (b := 59) dX12_rest_32 rfl (by decide) rfl (by decide) fa_X12_22_12 rfl rfl ?_
      refine s_iload_n (pc' := 36) dX12_rest_35 rfl rfl ?_
      refine s_iconst (pc' := 37) (v := 0) dX12_rest_36 rfl (by decide) ?_
      refine t_iast (pc' := 38) dX12_rest_37 rfl sh_59 rfl (by omega) ?_
      refine t_iinc (pc' := 41) (v := nI (k + 1)) (L' := [.ref 54, .int _, .int _]) dX12_rest_38 rfl rfl (nI_inc k) rfl ?_
      refine s_goto (tgt := 4) dX12_rest_41 (by decide) ?_
      refine s_eq ?_ rfl (by rw [zr_s]) (ih (k + 1) (by omega))
      rw [zr_e (Nat.le_refl k)] at c21
      simp only [cNz]
      first | rw [if_pos c21] | rw [if_neg c21]
    · refine s_iconst (pc' := 25) (v := 1) dX12_rest_24 rfl (by decide) ?_
      refine s_goto (tgt := 29) dX12_rest_25 (by decide) ?_
      refine s_iadd (pc' := 30) dX12_rest_29 rfl ?_
      refine t_istore_n (pc' := 31) (L' := [.ref 54, .int _, .int _]) dX12_rest_30 rfl (Nat.le_of_ble_eq_true rfl) rfl ?_
      refine s_aload_n (pc' := 32) dX12_rest_31 rfl rfl ?_
      refine s_getS (pc' := 35) (b := 59) dX12_rest_32 rfl (by decide) rfl (by decide) fa_X12_22_12 rfl rfl ?_
      refine s_iload_n (pc' := 36) dX12_rest_35 rfl rfl ?_
      refine s_iconst (pc' := 37) (v := 0) dX12_rest_36 rfl (by decide) ?_
      refine t_iast (pc' := 38) dX12_rest_37 rfl sh_59 rfl (by omega) ?_
      refine t_iinc (pc' := 41) (v := nI (k + 1)) (L' := [.ref 54, .int _, .int _]) dX12_rest_38 rfl rfl (nI_inc k) rfl ?_
      refine s_goto (tgt := 4) dX12_rest_41 (by decide) ?_
      refine s_eq ?_ rfl (by rw [zr_s]) (ih (k + 1) (by omega))
      rw [zr_e (Nat.le_refl k)] at c21
      simp only [cNz]
      first | rw [if_pos c21] | rw [if_neg c21]
theorem c_X12_rest {N : Nat} {S : Nat → Nat × Nat} {I : Nat → Nat → Int32} {J : Nat → Nat → Int64} {Q : Nat → Nat → Option Nat} {κ : Option Value → HP → Prop} {nv : Nat} (hv : I 75 0 = nI nv) (hn : nv ≤ 10) (hk : κ (some (.int (cNz (I 59) nv))) (N, S, (up2 (up2 (zr I 59 nv) 54 37 0) 54 24 0), J, Q)) : CT E1 M_X12_rest [.ref 54] (N, S, I, J, Q) κ := by
  refine ofSP mk_X12_rest (Nat.le_of_ble_eq_true rfl) (L := [.ref 54, .retAddr _, .retAddr _]) rfl ?_
  refine s_iconst (pc' := 1) (v := 0) dX12_rest_0 rfl (by decide) ?_
  refine t_istore_n (pc' := 2) (L' := [.ref 54, .int _, .retAddr _]) dX12_rest_1 rfl (Nat.le_of_ble_eq_true rfl) rfl ?_
  refine s_iconst (pc' := 3) (v := 0) dX12_rest_2 rfl (by decide) ?_
  refine t_istore_n (pc' := 4) (L' := [.ref 54, .int _, .int _]) dX12_rest_3 rfl (Nat.le_of_ble_eq_true rfl) rfl ?_
  exact s_eq rfl rfl (by rw [zr_0]) (l_X12_rest hv hn hk nv 0 (by omega))
theorem c_X12_status {N : Nat} {S : Nat → Nat × Nat} {I : Nat → Nat → Int32} {J : Nat → Nat → Int64} {Q : Nat → Nat → Option Nat} {κ : Option Value → HP → Prop} (hk : κ (some (.int (I 54 24))) (N, S, I, J, Q)) : CT E1 M_X12_status [.ref 54] (N, S, I, J, Q) κ := by
  refine ofSP mk_X12_status (Nat.le_of_ble_eq_true rfl) (L := [.ref 54]) rfl ?_
  refine s_aload_n (pc' := 1) dX12_status_0 rfl rfl ?_
  refine t_getI (pc' := 4) dX12_status_1 rfl sh_54 (by decide) fa_X12_129_12 rfl ?_
  exact s_iret dX12_status_4 rfl (by decide) (by decide) hk
