/-! ===== acts of the class ===== -/
/-- the class's trace goes on -/
def apX (I : Nat → Nat → Int32) (t : Nat) : List Int32 → Nat → Nat → Int32
  | [] => I
  | b :: l => apX (up2 (up2 I 45 0 (nI (t + 1))) 45 (t + 1) b) (t + 1) l
theorem apX_o {a : Nat} (h1 : a ≠ 45) : ∀ (l : List Int32) (I : Nat → Nat → Int32) (t : Nat), apX I t l a = I a
  | [], _, _ => rfl
  | b :: l, I, t => by rw [apX, apX_o h1 l]; rw [up2_o h1, up2_o h1]
theorem apX_a {a j : Nat} (h1 : 94 ≤ a) {l : List Int32} {I : Nat → Nat → Int32} {t : Nat} : apX I t l a j = I a j := by rw [apX_o (by omega)]
theorem apX_t : ∀ (l : List Int32) (I : Nat → Nat → Int32) (t : Nat), I 45 0 = nI t → apX I t l 45 0 = nI (t + l.length)
  | [], _, _, h => h
  | b :: l, I, t, h => by rw [apX, apX_t l _ (t + 1) (by rw [up2_e (by omega), up2_s])]; congr 1; simp; omega
theorem apX_ap : ∀ (l l' : List Int32) (I : Nat → Nat → Int32) (t : Nat), apX (apX I t l) (t + l.length) l' = apX I t (l ++ l')
  | [], _, _, _ => rfl
  | b :: l, l', I, t => by
    show apX (apX (up2 (up2 I 45 0 (nI (t + 1))) 45 (t + 1) b) (t + 1) l) (t + (l.length + 1)) l' = apX (up2 (up2 I 45 0 (nI (t + 1))) 45 (t + 1) b) (t + 1) (l ++ l')
    rw [← apX_ap l l', show t + (l.length + 1) = t + 1 + l.length by omega]
set_option maxHeartbeats 200000 in
theorem c_X6_begin {N : Nat} {S : Nat → Nat × Nat} {I : Nat → Nat → Int32} {J : Nat → Nat → Int64} {Q : Nat → Nat → Option Nat} {κ : Option Value → HP → Prop} {t : Nat} (ht : I 45 0 = nI t) (hl : t + 1 ≤ 50) {b : Int32} (hk : κ none (N, S, apX I t [b], J, Q)) : CT E1 M_X6_begin [.int b, .ref 45] (N, S, I, J, Q) κ := by
  refine ofSP mk_X6_begin (Nat.le_of_ble_eq_true rfl) (L := [.int _, .ref 45]) rfl ?_
  refine s_aload_n (pc' := 1) dX6_begin_0 rfl rfl ?_
  refine s_iconst (pc' := 2) (v := 0) dX6_begin_1 rfl (by decide) ?_
  refine t_iald (pc' := 3) (q := 0) dX6_begin_2 rfl sh_45 rfl (by decide) ?_
  refine s_bipush (pc' := 5) (v := 50) dX6_begin_3 rfl (by decide) ?_
  refine s_icmpgeF (pc' := 8) (tgt := 21) dX6_begin_5 (by decide) rfl (by rw [ht]; exact nI_ge (b := 50) (by omega) (by omega)) ?_
  refine s_aload_n (pc' := 9) dX6_begin_8 rfl rfl ?_
  refine s_iconst (pc' := 10) (v := 0) dX6_begin_9 rfl (by decide) ?_
  refine s_dup2 (pc' := 11) dX6_begin_10 rfl rfl rfl ?_
  refine t_iald (pc' := 12) (q := 0) dX6_begin_11 rfl sh_45 rfl (by decide) ?_
  refine s_iconst (pc' := 13) (v := 1) dX6_begin_12 rfl (by decide) ?_
  refine s_iadd (pc' := 14) dX6_begin_13 rfl ?_
  refine t_iast (pc' := 15) (q := 0) dX6_begin_14 rfl sh_45 rfl (by decide) ?_
  rw [ht, show nI t + 1 = nI (t + 1) from nI_inc t]
  refine s_aload_n (pc' := 16) dX6_begin_15 rfl rfl ?_
  refine s_aload_n (pc' := 17) dX6_begin_16 rfl rfl ?_
  refine s_iconst (pc' := 18) (v := 0) dX6_begin_17 rfl (by decide) ?_
  refine t_iald (pc' := 19) (q := 0) dX6_begin_18 rfl sh_45 rfl (by decide) ?_
  refine s_iload_n (pc' := 20) dX6_begin_19 rfl rfl ?_
  refine t_iast (pc' := 21) (q := t + 1) dX6_begin_20 rfl sh_45 up2_s (by omega) ?_
  exact s_vret dX6_begin_21 rfl (by decide) (by decide) hk
set_option maxHeartbeats 200000 in
theorem c_X6_give_6 {N : Nat} {S : Nat → Nat × Nat} {I : Nat → Nat → Int32} {J : Nat → Nat → Int64} {Q : Nat → Nat → Option Nat} {κ : Option Value → HP → Prop} {a t : Nat} (hs : ∀ {I' : Nat → Nat → Int32} {J' : Nat → Nat → Int64} {Q' : Nat → Nat → Option Nat}, Sh E1 (N, S, I', J', Q') a 6 0) (h94 : 94 ≤ a) {x : Int32} (ht : I 45 0 = nI t) (hl : t + 1 ≤ 50) (hk : κ (some (.int (x + I a 4))) (N, S, apX I t [10], J, Q)) : CT E1 M_X6_give [.ref a, .int x, .ref 45] (N, S, I, J, Q) κ := by
  refine ofSP mk_X6_give (Nat.le_of_ble_eq_true rfl) (L := [.ref _, .int _, .ref 45]) rfl ?_
  refine s_bipush (pc' := 2) (v := 10) dX6_give_0 rfl (by decide) ?_
  refine s_aload_n (pc' := 3) dX6_give_2 rfl rfl ?_
  refine s_callS (pc' := 6) (As := [.int _, .ref 45]) dX6_give_3 rfl mk_X6_begin ml_X6_51 sm_X6_begin rfl rfl ⟨Nat.le_of_ble_eq_true rfl, Nat.le_of_ble_eq_true rfl, Nat.le_of_ble_eq_true rfl, Nat.le_of_ble_eq_true rfl⟩ (Nat.le_of_ble_eq_true rfl) (c_X6_begin ht (by first | omega | (simp only [List.length]; omega)) ?_)
  refine s_iload_n (pc' := 7) dX6_give_6 rfl rfl ?_
  refine s_aload_n (pc' := 8) dX6_give_7 rfl rfl ?_
  refine t_getI (pc' := 11) dX6_give_8 rfl hs (by decide) fa_X6_25_6 rfl ?_
  refine s_iadd (pc' := 12) dX6_give_11 rfl ?_
  exact s_iret dX6_give_12 rfl (by decide) (by decide) (by simp only [apX_a h94, apX_ap, List.cons_append, List.nil_append]; exact hk)
set_option maxHeartbeats 200000 in
theorem c_X6_open_6 {N : Nat} {S : Nat → Nat × Nat} {I : Nat → Nat → Int32} {J : Nat → Nat → Int64} {Q : Nat → Nat → Option Nat} {κ : Option Value → HP → Prop} {a t : Nat} (hs : ∀ {I' : Nat → Nat → Int32} {J' : Nat → Nat → Int64} {Q' : Nat → Nat → Option Nat}, Sh E1 (N, S, I', J', Q') a 6 0) (h94 : 94 ≤ a) {x : Int32} (ht : I 45 0 = nI t) (hl : t + 1 ≤ 50) (hk : κ (some (.int (x - I a 5))) (N, S, apX I t [12], J, Q)) : CT E1 M_X6_open [.ref a, .int x, .ref 45] (N, S, I, J, Q) κ := by
  refine ofSP mk_X6_open (Nat.le_of_ble_eq_true rfl) (L := [.ref _, .int _, .ref 45]) rfl ?_
  refine s_bipush (pc' := 2) (v := 12) dX6_open_0 rfl (by decide) ?_
  refine s_aload_n (pc' := 3) dX6_open_2 rfl rfl ?_
  refine s_callS (pc' := 6) (As := [.int _, .ref 45]) dX6_open_3 rfl mk_X6_begin ml_X6_51 sm_X6_begin rfl rfl ⟨Nat.le_of_ble_eq_true rfl, Nat.le_of_ble_eq_true rfl, Nat.le_of_ble_eq_true rfl, Nat.le_of_ble_eq_true rfl⟩ (Nat.le_of_ble_eq_true rfl) (c_X6_begin ht (by first | omega | (simp only [List.length]; omega)) ?_)
  refine s_iload_n (pc' := 7) dX6_open_6 rfl rfl ?_
  refine s_aload_n (pc' := 8) dX6_open_7 rfl rfl ?_
  refine t_getI (pc' := 11) dX6_open_8 rfl hs (by decide) fa_X6_28_6 rfl ?_
  refine s_isub (pc' := 12) dX6_open_11 rfl ?_
  exact s_iret dX6_open_12 rfl (by decide) (by decide) (by simp only [apX_a h94, apX_ap, List.cons_append, List.nil_append]; exact hk)
set_option maxHeartbeats 200000 in
theorem c_X6_fit_6 {N : Nat} {S : Nat → Nat × Nat} {I : Nat → Nat → Int32} {J : Nat → Nat → Int64} {Q : Nat → Nat → Option Nat} {κ : Option Value → HP → Prop} {a t : Nat} (hs : ∀ {I' : Nat → Nat → Int32} {J' : Nat → Nat → Int64} {Q' : Nat → Nat → Option Nat}, Sh E1 (N, S, I', J', Q') a 6 0) (h94 : 94 ≤ a) {x : Int32} (ht : I 45 0 = nI t) (hl : t + 2 ≤ 50) (hk : κ (some (.int ((x + I a 4) * 2))) (N, S, apX I t [11, 10], J, Q)) : CT E1 M_X6_fit [.ref a, .int x, .ref 45] (N, S, I, J, Q) κ := by
  refine ofSP mk_X6_fit (Nat.le_of_ble_eq_true rfl) (L := [.ref _, .int _, .ref 45]) rfl ?_
  refine s_bipush (pc' := 2) (v := 11) dX6_fit_0 rfl (by decide) ?_
  refine s_aload_n (pc' := 3) dX6_fit_2 rfl rfl ?_
  refine s_callS (pc' := 6) (As := [.int _, .ref 45]) dX6_fit_3 rfl mk_X6_begin ml_X6_51 sm_X6_begin rfl rfl ⟨Nat.le_of_ble_eq_true rfl, Nat.le_of_ble_eq_true rfl, Nat.le_of_ble_eq_true rfl, Nat.le_of_ble_eq_true rfl⟩ (Nat.le_of_ble_eq_true rfl) (c_X6_begin ht (by first | omega | (simp only [List.length]; omega)) ?_)
  refine s_aload_n (pc' := 7) dX6_fit_6 rfl rfl ?_
  refine s_iload_n (pc' := 8) dX6_fit_7 rfl rfl ?_
  refine s_aload_n (pc' := 9) dX6_fit_8 rfl rfl ?_
  refine s_callU (pc' := 12) (ci := 6) (owner := RX6) (As := [.int _, .ref 45]) dX6_fit_9 rfl mk_X6_give ml_X6_55 sw_X6_X6_give im_X6_give mk_X6_give.1 mk_X6_give.2.2.1 se_X6_X6_X6_give im_X6_give hs (by decide) rfl rfl ⟨Nat.le_of_ble_eq_true rfl, Nat.le_of_ble_eq_true rfl, Nat.le_of_ble_eq_true rfl, Nat.le_of_ble_eq_true rfl⟩ (Nat.le_of_ble_eq_true rfl) (c_X6_give_6 hs h94 (apX_t _ _ _ ht) (by first | omega | (simp only [List.length]; omega)) ?_)
  refine s_iconst (pc' := 13) (v := 2) dX6_fit_12 rfl (by decide) ?_
  refine s_imul (pc' := 14) dX6_fit_13 rfl ?_
  exact s_iret dX6_fit_14 rfl (by decide) (by decide) (by simp only [apX_a h94, apX_ap, List.cons_append, List.nil_append]; exact hk)
set_option maxHeartbeats 200000 in
theorem c_X6_tell_6 {N : Nat} {S : Nat → Nat × Nat} {I : Nat → Nat → Int32} {J : Nat → Nat → Int64} {Q : Nat → Nat → Option Nat} {κ : Option Value → HP → Prop} {a t : Nat} (hs : ∀ {I' : Nat → Nat → Int32} {J' : Nat → Nat → Int64} {Q' : Nat → Nat → Option Nat}, Sh E1 (N, S, I', J', Q') a 6 0) (h94 : 94 ≤ a) {x : Int32} (ht : I 45 0 = nI t) (hl : t + 4 ≤ 50) (hk : κ (some (.int (((x + I a 4) * 2) ^^^ (x - I a 5)))) (N, S, apX I t [13, 11, 10, 12], J, Q)) : CT E1 M_X6_tell [.ref a, .int x, .ref 45] (N, S, I, J, Q) κ := by
  refine ofSP mk_X6_tell (Nat.le_of_ble_eq_true rfl) (L := [.ref _, .int _, .ref 45]) rfl ?_
  refine s_bipush (pc' := 2) (v := 13) dX6_tell_0 rfl (by decide) ?_
  refine s_aload_n (pc' := 3) dX6_tell_2 rfl rfl ?_
  refine s_callS (pc' := 6) (As := [.int _, .ref 45]) dX6_tell_3 rfl mk_X6_begin ml_X6_51 sm_X6_begin rfl rfl ⟨Nat.le_of_ble_eq_true rfl, Nat.le_of_ble_eq_true rfl, Nat.le_of_ble_eq_true rfl, Nat.le_of_ble_eq_true rfl⟩ (Nat.le_of_ble_eq_true rfl) (c_X6_begin ht (by first | omega | (simp only [List.length]; omega)) ?_)
  refine s_aload_n (pc' := 7) dX6_tell_6 rfl rfl ?_
  refine s_iload_n (pc' := 8) dX6_tell_7 rfl rfl ?_
  refine s_aload_n (pc' := 9) dX6_tell_8 rfl rfl ?_
  refine s_callU (pc' := 12) (ci := 6) (owner := RX6) (As := [.int _, .ref 45]) dX6_tell_9 rfl mk_X6_fit ml_X6_59 sw_X6_X6_fit im_X6_fit mk_X6_fit.1 mk_X6_fit.2.2.1 se_X6_X6_X6_fit im_X6_fit hs (by decide) rfl rfl ⟨Nat.le_of_ble_eq_true rfl, Nat.le_of_ble_eq_true rfl, Nat.le_of_ble_eq_true rfl, Nat.le_of_ble_eq_true rfl⟩ (Nat.le_of_ble_eq_true rfl) (c_X6_fit_6 hs h94 (apX_t _ _ _ ht) (by first | omega | (simp only [List.length]; omega)) ?_)
  refine s_aload_n (pc' := 13) dX6_tell_12 rfl rfl ?_
  refine s_iload_n (pc' := 14) dX6_tell_13 rfl rfl ?_
  refine s_aload_n (pc' := 15) dX6_tell_14 rfl rfl ?_
  refine s_callU (pc' := 18) (ci := 6) (owner := RX6) (As := [.int _, .ref 45]) dX6_tell_15 rfl mk_X6_open ml_X6_62 sw_X6_X6_open im_X6_open mk_X6_open.1 mk_X6_open.2.2.1 se_X6_X6_X6_open im_X6_open hs (by decide) rfl rfl ⟨Nat.le_of_ble_eq_true rfl, Nat.le_of_ble_eq_true rfl, Nat.le_of_ble_eq_true rfl, Nat.le_of_ble_eq_true rfl⟩ (Nat.le_of_ble_eq_true rfl) (c_X6_open_6 hs h94 (apX_t _ _ _ (apX_t _ _ _ ht)) (by first | omega | (simp only [List.length]; omega)) ?_)
  refine s_ixor (pc' := 19) dX6_tell_18 rfl ?_
  exact s_iret dX6_tell_19 rfl (by decide) (by decide) (by simp only [apX_a h94, apX_ap, List.cons_append, List.nil_append]; exact hk)
set_option maxHeartbeats 200000 in
theorem c_X6_give_10 {N : Nat} {S : Nat → Nat × Nat} {I : Nat → Nat → Int32} {J : Nat → Nat → Int64} {Q : Nat → Nat → Option Nat} {κ : Option Value → HP → Prop} {a t : Nat} (hs : ∀ {I' : Nat → Nat → Int32} {J' : Nat → Nat → Int64} {Q' : Nat → Nat → Option Nat}, Sh E1 (N, S, I', J', Q') a 10 0) (h94 : 94 ≤ a) {x : Int32} (ht : I 45 0 = nI t) (hl : t + 1 ≤ 50) (hk : κ (some (.int (x + I a 4))) (N, S, apX I t [10], J, Q)) : CT E1 M_X6_give [.ref a, .int x, .ref 45] (N, S, I, J, Q) κ := by
  refine ofSP mk_X6_give (Nat.le_of_ble_eq_true rfl) (L := [.ref _, .int _, .ref 45]) rfl ?_
  refine s_bipush (pc' := 2) (v := 10) dX6_give_0 rfl (by decide) ?_
  refine s_aload_n (pc' := 3) dX6_give_2 rfl rfl ?_
  refine s_callS (pc' := 6) (As := [.int _, .ref 45]) dX6_give_3 rfl mk_X6_begin ml_X6_51 sm_X6_begin rfl rfl ⟨Nat.le_of_ble_eq_true rfl, Nat.le_of_ble_eq_true rfl, Nat.le_of_ble_eq_true rfl, Nat.le_of_ble_eq_true rfl⟩ (Nat.le_of_ble_eq_true rfl) (c_X6_begin ht (by first | omega | (simp only [List.length]; omega)) ?_)
  refine s_iload_n (pc' := 7) dX6_give_6 rfl rfl ?_
  refine s_aload_n (pc' := 8) dX6_give_7 rfl rfl ?_
  refine t_getI (pc' := 11) dX6_give_8 rfl hs (by decide) fa_X6_25_10 rfl ?_
  refine s_iadd (pc' := 12) dX6_give_11 rfl ?_
  exact s_iret dX6_give_12 rfl (by decide) (by decide) (by simp only [apX_a h94, apX_ap, List.cons_append, List.nil_append]; exact hk)
set_option maxHeartbeats 200000 in
theorem c_X10_give_10 {N : Nat} {S : Nat → Nat × Nat} {I : Nat → Nat → Int32} {J : Nat → Nat → Int64} {Q : Nat → Nat → Option Nat} {κ : Option Value → HP → Prop} {a t : Nat} (hs : ∀ {I' : Nat → Nat → Int32} {J' : Nat → Nat → Int64} {Q' : Nat → Nat → Option Nat}, Sh E1 (N, S, I', J', Q') a 10 0) (h94 : 94 ≤ a) {x : Int32} (ht : I 45 0 = nI t) (hl : t + 2 ≤ 50) (hk : κ (some (.int ((x + I a 4) + I a 1))) (N, S, apX I t [20, 10], J, Q)) : CT E1 M_X10_give [.ref a, .int x, .ref 45] (N, S, I, J, Q) κ := by
  refine ofSP mk_X10_give (Nat.le_of_ble_eq_true rfl) (L := [.ref _, .int _, .ref 45]) rfl ?_
  refine s_bipush (pc' := 2) (v := 20) dX10_give_0 rfl (by decide) ?_
  refine s_aload_n (pc' := 3) dX10_give_2 rfl rfl ?_
  refine s_callST (pc' := 6) (As := [.int _, .ref 45]) dX10_give_3 rfl mk_X6_begin ml_X10_15 sw_X10_X6_begin sm_X6_begin rfl rfl ⟨Nat.le_of_ble_eq_true rfl, Nat.le_of_ble_eq_true rfl, Nat.le_of_ble_eq_true rfl, Nat.le_of_ble_eq_true rfl⟩ (Nat.le_of_ble_eq_true rfl) (c_X6_begin ht (by first | omega | (simp only [List.length]; omega)) ?_)
  refine s_aload_n (pc' := 7) dX10_give_6 rfl rfl ?_
  refine s_iload_n (pc' := 8) dX10_give_7 rfl rfl ?_
  refine s_aload_n (pc' := 9) dX10_give_8 rfl rfl ?_
  refine s_callSU (pc' := 12) (As := [.int _, .ref 45]) dX10_give_9 rfl mk_X6_give ml_X10_19 sw_X6_X6_give su_X10 im_X6_give (Or.inl rfl) (by decide) hs (by decide) rfl rfl ⟨Nat.le_of_ble_eq_true rfl, Nat.le_of_ble_eq_true rfl, Nat.le_of_ble_eq_true rfl, Nat.le_of_ble_eq_true rfl⟩ (Nat.le_of_ble_eq_true rfl) (c_X6_give_10 hs h94 (apX_t _ _ _ ht) (by first | omega | (simp only [List.length]; omega)) ?_)
  refine s_aload_n (pc' := 13) dX10_give_12 rfl rfl ?_
  refine t_getI (pc' := 16) dX10_give_13 rfl hs (by decide) fa_X10_23_10 rfl ?_
  refine s_iadd (pc' := 17) dX10_give_16 rfl ?_
  exact s_iret dX10_give_17 rfl (by decide) (by decide) (by simp only [apX_a h94, apX_ap, List.cons_append, List.nil_append]; exact hk)
set_option maxHeartbeats 200000 in
theorem c_X6_open_10 {N : Nat} {S : Nat → Nat × Nat} {I : Nat → Nat → Int32} {J : Nat → Nat → Int64} {Q : Nat → Nat → Option Nat} {κ : Option Value → HP → Prop} {a t : Nat} (hs : ∀ {I' : Nat → Nat → Int32} {J' : Nat → Nat → Int64} {Q' : Nat → Nat → Option Nat}, Sh E1 (N, S, I', J', Q') a 10 0) (h94 : 94 ≤ a) {x : Int32} (ht : I 45 0 = nI t) (hl : t + 1 ≤ 50) (hk : κ (some (.int (x - I a 5))) (N, S, apX I t [12], J, Q)) : CT E1 M_X6_open [.ref a, .int x, .ref 45] (N, S, I, J, Q) κ := by
  refine ofSP mk_X6_open (Nat.le_of_ble_eq_true rfl) (L := [.ref _, .int _, .ref 45]) rfl ?_
  refine s_bipush (pc' := 2) (v := 12) dX6_open_0 rfl (by decide) ?_
  refine s_aload_n (pc' := 3) dX6_open_2 rfl rfl ?_
  refine s_callS (pc' := 6) (As := [.int _, .ref 45]) dX6_open_3 rfl mk_X6_begin ml_X6_51 sm_X6_begin rfl rfl ⟨Nat.le_of_ble_eq_true rfl, Nat.le_of_ble_eq_true rfl, Nat.le_of_ble_eq_true rfl, Nat.le_of_ble_eq_true rfl⟩ (Nat.le_of_ble_eq_true rfl) (c_X6_begin ht (by first | omega | (simp only [List.length]; omega)) ?_)
  refine s_iload_n (pc' := 7) dX6_open_6 rfl rfl ?_
  refine s_aload_n (pc' := 8) dX6_open_7 rfl rfl ?_
  refine t_getI (pc' := 11) dX6_open_8 rfl hs (by decide) fa_X6_28_10 rfl ?_
  refine s_isub (pc' := 12) dX6_open_11 rfl ?_
  exact s_iret dX6_open_12 rfl (by decide) (by decide) (by simp only [apX_a h94, apX_ap, List.cons_append, List.nil_append]; exact hk)
set_option maxHeartbeats 200000 in
theorem c_X6_fit_10 {N : Nat} {S : Nat → Nat × Nat} {I : Nat → Nat → Int32} {J : Nat → Nat → Int64} {Q : Nat → Nat → Option Nat} {κ : Option Value → HP → Prop} {a t : Nat} (hs : ∀ {I' : Nat → Nat → Int32} {J' : Nat → Nat → Int64} {Q' : Nat → Nat → Option Nat}, Sh E1 (N, S, I', J', Q') a 10 0) (h94 : 94 ≤ a) {x : Int32} (ht : I 45 0 = nI t) (hl : t + 3 ≤ 50) (hk : κ (some (.int (((x + I a 4) + I a 1) * 2))) (N, S, apX I t [11, 20, 10], J, Q)) : CT E1 M_X6_fit [.ref a, .int x, .ref 45] (N, S, I, J, Q) κ := by
  refine ofSP mk_X6_fit (Nat.le_of_ble_eq_true rfl) (L := [.ref _, .int _, .ref 45]) rfl ?_
  refine s_bipush (pc' := 2) (v := 11) dX6_fit_0 rfl (by decide) ?_
  refine s_aload_n (pc' := 3) dX6_fit_2 rfl rfl ?_
  refine s_callS (pc' := 6) (As := [.int _, .ref 45]) dX6_fit_3 rfl mk_X6_begin ml_X6_51 sm_X6_begin rfl rfl ⟨Nat.le_of_ble_eq_true rfl, Nat.le_of_ble_eq_true rfl, Nat.le_of_ble_eq_true rfl, Nat.le_of_ble_eq_true rfl⟩ (Nat.le_of_ble_eq_true rfl) (c_X6_begin ht (by first | omega | (simp only [List.length]; omega)) ?_)
  refine s_aload_n (pc' := 7) dX6_fit_6 rfl rfl ?_
  refine s_iload_n (pc' := 8) dX6_fit_7 rfl rfl ?_
  refine s_aload_n (pc' := 9) dX6_fit_8 rfl rfl ?_
  refine s_callU (pc' := 12) (ci := 10) (owner := RX6) (As := [.int _, .ref 45]) dX6_fit_9 rfl mk_X10_give ml_X6_55 sw_X6_X6_give im_X6_give mk_X6_give.1 mk_X6_give.2.2.1 se_X10_X6_X10_give im_X10_give hs (by decide) rfl rfl ⟨Nat.le_of_ble_eq_true rfl, Nat.le_of_ble_eq_true rfl, Nat.le_of_ble_eq_true rfl, Nat.le_of_ble_eq_true rfl⟩ (Nat.le_of_ble_eq_true rfl) (c_X10_give_10 hs h94 (apX_t _ _ _ ht) (by first | omega | (simp only [List.length]; omega)) ?_)
  refine s_iconst (pc' := 13) (v := 2) dX6_fit_12 rfl (by decide) ?_
  refine s_imul (pc' := 14) dX6_fit_13 rfl ?_
  exact s_iret dX6_fit_14 rfl (by decide) (by decide) (by simp only [apX_a h94, apX_ap, List.cons_append, List.nil_append]; exact hk)
set_option maxHeartbeats 200000 in
theorem c_X6_tell_10 {N : Nat} {S : Nat → Nat × Nat} {I : Nat → Nat → Int32} {J : Nat → Nat → Int64} {Q : Nat → Nat → Option Nat} {κ : Option Value → HP → Prop} {a t : Nat} (hs : ∀ {I' : Nat → Nat → Int32} {J' : Nat → Nat → Int64} {Q' : Nat → Nat → Option Nat}, Sh E1 (N, S, I', J', Q') a 10 0) (h94 : 94 ≤ a) {x : Int32} (ht : I 45 0 = nI t) (hl : t + 5 ≤ 50) (hk : κ (some (.int ((((x + I a 4) + I a 1) * 2) ^^^ (x - I a 5)))) (N, S, apX I t [13, 11, 20, 10, 12], J, Q)) : CT E1 M_X6_tell [.ref a, .int x, .ref 45] (N, S, I, J, Q) κ := by
  refine ofSP mk_X6_tell (Nat.le_of_ble_eq_true rfl) (L := [.ref _, .int _, .ref 45]) rfl ?_
  refine s_bipush (pc' := 2) (v := 13) dX6_tell_0 rfl (by decide) ?_
  refine s_aload_n (pc' := 3) dX6_tell_2 rfl rfl ?_
  refine s_callS (pc' := 6) (As := [.int _, .ref 45]) dX6_tell_3 rfl mk_X6_begin ml_X6_51 sm_X6_begin rfl rfl ⟨Nat.le_of_ble_eq_true rfl, Nat.le_of_ble_eq_true rfl, Nat.le_of_ble_eq_true rfl, Nat.le_of_ble_eq_true rfl⟩ (Nat.le_of_ble_eq_true rfl) (c_X6_begin ht (by first | omega | (simp only [List.length]; omega)) ?_)
  refine s_aload_n (pc' := 7) dX6_tell_6 rfl rfl ?_
  refine s_iload_n (pc' := 8) dX6_tell_7 rfl rfl ?_
  refine s_aload_n (pc' := 9) dX6_tell_8 rfl rfl ?_
  refine s_callU (pc' := 12) (ci := 10) (owner := RX6) (As := [.int _, .ref 45]) dX6_tell_9 rfl mk_X6_fit ml_X6_59 sw_X6_X6_fit im_X6_fit mk_X6_fit.1 mk_X6_fit.2.2.1 se_X10_X6_X6_fit im_X6_fit hs (by decide) rfl rfl ⟨Nat.le_of_ble_eq_true rfl, Nat.le_of_ble_eq_true rfl, Nat.le_of_ble_eq_true rfl, Nat.le_of_ble_eq_true rfl⟩ (Nat.le_of_ble_eq_true rfl) (c_X6_fit_10 hs h94 (apX_t _ _ _ ht) (by first | omega | (simp only [List.length]; omega)) ?_)
  refine s_aload_n (pc' := 13) dX6_tell_12 rfl rfl ?_
  refine s_iload_n (pc' := 14) dX6_tell_13 rfl rfl ?_
  refine s_aload_n (pc' := 15) dX6_tell_14 rfl rfl ?_
  refine s_callU (pc' := 18) (ci := 10) (owner := RX6) (As := [.int _, .ref 45]) dX6_tell_15 rfl mk_X6_open ml_X6_62 sw_X6_X6_open im_X6_open mk_X6_open.1 mk_X6_open.2.2.1 se_X10_X6_X6_open im_X6_open hs (by decide) rfl rfl ⟨Nat.le_of_ble_eq_true rfl, Nat.le_of_ble_eq_true rfl, Nat.le_of_ble_eq_true rfl, Nat.le_of_ble_eq_true rfl⟩ (Nat.le_of_ble_eq_true rfl) (c_X6_open_10 hs h94 (apX_t _ _ _ (apX_t _ _ _ ht)) (by first | omega | (simp only [List.length]; omega)) ?_)
  refine s_ixor (pc' := 19) dX6_tell_18 rfl ?_
  exact s_iret dX6_tell_19 rfl (by decide) (by decide) (by simp only [apX_a h94, apX_ap, List.cons_append, List.nil_append]; exact hk)
set_option maxHeartbeats 200000 in
theorem c_X6_give_7 {N : Nat} {S : Nat → Nat × Nat} {I : Nat → Nat → Int32} {J : Nat → Nat → Int64} {Q : Nat → Nat → Option Nat} {κ : Option Value → HP → Prop} {a t : Nat} (hs : ∀ {I' : Nat → Nat → Int32} {J' : Nat → Nat → Int64} {Q' : Nat → Nat → Option Nat}, Sh E1 (N, S, I', J', Q') a 7 0) (h94 : 94 ≤ a) {x : Int32} (ht : I 45 0 = nI t) (hl : t + 1 ≤ 50) (hk : κ (some (.int (x + I a 4))) (N, S, apX I t [10], J, Q)) : CT E1 M_X6_give [.ref a, .int x, .ref 45] (N, S, I, J, Q) κ := by
  refine ofSP mk_X6_give (Nat.le_of_ble_eq_true rfl) (L := [.ref _, .int _, .ref 45]) rfl ?_
  refine s_bipush (pc' := 2) (v := 10) dX6_give_0 rfl (by decide) ?_
  refine s_aload_n (pc' := 3) dX6_give_2 rfl rfl ?_
  refine s_callS (pc' := 6) (As := [.int _, .ref 45]) dX6_give_3 rfl mk_X6_begin ml_X6_51 sm_X6_begin rfl rfl ⟨Nat.le_of_ble_eq_true rfl, Nat.le_of_ble_eq_true rfl, Nat.le_of_ble_eq_true rfl, Nat.le_of_ble_eq_true rfl⟩ (Nat.le_of_ble_eq_true rfl) (c_X6_begin ht (by first | omega | (simp only [List.length]; omega)) ?_)
  refine s_iload_n (pc' := 7) dX6_give_6 rfl rfl ?_
  refine s_aload_n (pc' := 8) dX6_give_7 rfl rfl ?_
  refine t_getI (pc' := 11) dX6_give_8 rfl hs (by decide) fa_X6_25_7 rfl ?_
  refine s_iadd (pc' := 12) dX6_give_11 rfl ?_
  exact s_iret dX6_give_12 rfl (by decide) (by decide) (by simp only [apX_a h94, apX_ap, List.cons_append, List.nil_append]; exact hk)
set_option maxHeartbeats 200000 in
theorem c_X6_open_7 {N : Nat} {S : Nat → Nat × Nat} {I : Nat → Nat → Int32} {J : Nat → Nat → Int64} {Q : Nat → Nat → Option Nat} {κ : Option Value → HP → Prop} {a t : Nat} (hs : ∀ {I' : Nat → Nat → Int32} {J' : Nat → Nat → Int64} {Q' : Nat → Nat → Option Nat}, Sh E1 (N, S, I', J', Q') a 7 0) (h94 : 94 ≤ a) {x : Int32} (ht : I 45 0 = nI t) (hl : t + 1 ≤ 50) (hk : κ (some (.int (x - I a 5))) (N, S, apX I t [12], J, Q)) : CT E1 M_X6_open [.ref a, .int x, .ref 45] (N, S, I, J, Q) κ := by
  refine ofSP mk_X6_open (Nat.le_of_ble_eq_true rfl) (L := [.ref _, .int _, .ref 45]) rfl ?_
  refine s_bipush (pc' := 2) (v := 12) dX6_open_0 rfl (by decide) ?_
  refine s_aload_n (pc' := 3) dX6_open_2 rfl rfl ?_
  refine s_callS (pc' := 6) (As := [.int _, .ref 45]) dX6_open_3 rfl mk_X6_begin ml_X6_51 sm_X6_begin rfl rfl ⟨Nat.le_of_ble_eq_true rfl, Nat.le_of_ble_eq_true rfl, Nat.le_of_ble_eq_true rfl, Nat.le_of_ble_eq_true rfl⟩ (Nat.le_of_ble_eq_true rfl) (c_X6_begin ht (by first | omega | (simp only [List.length]; omega)) ?_)
  refine s_iload_n (pc' := 7) dX6_open_6 rfl rfl ?_
  refine s_aload_n (pc' := 8) dX6_open_7 rfl rfl ?_
  refine t_getI (pc' := 11) dX6_open_8 rfl hs (by decide) fa_X6_28_7 rfl ?_
  refine s_isub (pc' := 12) dX6_open_11 rfl ?_
  exact s_iret dX6_open_12 rfl (by decide) (by decide) (by simp only [apX_a h94, apX_ap, List.cons_append, List.nil_append]; exact hk)
set_option maxHeartbeats 200000 in
theorem c_X6_fit_7 {N : Nat} {S : Nat → Nat × Nat} {I : Nat → Nat → Int32} {J : Nat → Nat → Int64} {Q : Nat → Nat → Option Nat} {κ : Option Value → HP → Prop} {a t : Nat} (hs : ∀ {I' : Nat → Nat → Int32} {J' : Nat → Nat → Int64} {Q' : Nat → Nat → Option Nat}, Sh E1 (N, S, I', J', Q') a 7 0) (h94 : 94 ≤ a) {x : Int32} (ht : I 45 0 = nI t) (hl : t + 2 ≤ 50) (hk : κ (some (.int ((x + I a 4) * 2))) (N, S, apX I t [11, 10], J, Q)) : CT E1 M_X6_fit [.ref a, .int x, .ref 45] (N, S, I, J, Q) κ := by
  refine ofSP mk_X6_fit (Nat.le_of_ble_eq_true rfl) (L := [.ref _, .int _, .ref 45]) rfl ?_
  refine s_bipush (pc' := 2) (v := 11) dX6_fit_0 rfl (by decide) ?_
  refine s_aload_n (pc' := 3) dX6_fit_2 rfl rfl ?_
  refine s_callS (pc' := 6) (As := [.int _, .ref 45]) dX6_fit_3 rfl mk_X6_begin ml_X6_51 sm_X6_begin rfl rfl ⟨Nat.le_of_ble_eq_true rfl, Nat.le_of_ble_eq_true rfl, Nat.le_of_ble_eq_true rfl, Nat.le_of_ble_eq_true rfl⟩ (Nat.le_of_ble_eq_true rfl) (c_X6_begin ht (by first | omega | (simp only [List.length]; omega)) ?_)
  refine s_aload_n (pc' := 7) dX6_fit_6 rfl rfl ?_
  refine s_iload_n (pc' := 8) dX6_fit_7 rfl rfl ?_
  refine s_aload_n (pc' := 9) dX6_fit_8 rfl rfl ?_
  refine s_callU (pc' := 12) (ci := 7) (owner := RX6) (As := [.int _, .ref 45]) dX6_fit_9 rfl mk_X6_give ml_X6_55 sw_X6_X6_give im_X6_give mk_X6_give.1 mk_X6_give.2.2.1 se_X7_X6_X6_give im_X6_give hs (by decide) rfl rfl ⟨Nat.le_of_ble_eq_true rfl, Nat.le_of_ble_eq_true rfl, Nat.le_of_ble_eq_true rfl, Nat.le_of_ble_eq_true rfl⟩ (Nat.le_of_ble_eq_true rfl) (c_X6_give_7 hs h94 (apX_t _ _ _ ht) (by first | omega | (simp only [List.length]; omega)) ?_)
  refine s_iconst (pc' := 13) (v := 2) dX6_fit_12 rfl (by decide) ?_
  refine s_imul (pc' := 14) dX6_fit_13 rfl ?_
  exact s_iret dX6_fit_14 rfl (by decide) (by decide) (by simp only [apX_a h94, apX_ap, List.cons_append, List.nil_append]; exact hk)
set_option maxHeartbeats 200000 in
theorem c_X7_fit_7 {N : Nat} {S : Nat → Nat × Nat} {I : Nat → Nat → Int32} {J : Nat → Nat → Int64} {Q : Nat → Nat → Option Nat} {κ : Option Value → HP → Prop} {a t : Nat} (hs : ∀ {I' : Nat → Nat → Int32} {J' : Nat → Nat → Int64} {Q' : Nat → Nat → Option Nat}, Sh E1 (N, S, I', J', Q') a 7 0) (h94 : 94 ≤ a) {x : Int32} (ht : I 45 0 = nI t) (hl : t + 4 ≤ 50) (hk : κ (some (.int (((x + I a 4) * 2) - (x + I a 4)))) (N, S, apX I t [30, 11, 10, 10], J, Q)) : CT E1 M_X7_fit [.ref a, .int x, .ref 45] (N, S, I, J, Q) κ := by
  refine ofSP mk_X7_fit (Nat.le_of_ble_eq_true rfl) (L := [.ref _, .int _, .ref 45]) rfl ?_
  refine s_bipush (pc' := 2) (v := 30) dX7_fit_0 rfl (by decide) ?_
  refine s_aload_n (pc' := 3) dX7_fit_2 rfl rfl ?_
  refine s_callST (pc' := 6) (As := [.int _, .ref 45]) dX7_fit_3 rfl mk_X6_begin ml_X7_9 sw_X7_X6_begin sm_X6_begin rfl rfl ⟨Nat.le_of_ble_eq_true rfl, Nat.le_of_ble_eq_true rfl, Nat.le_of_ble_eq_true rfl, Nat.le_of_ble_eq_true rfl⟩ (Nat.le_of_ble_eq_true rfl) (c_X6_begin ht (by first | omega | (simp only [List.length]; omega)) ?_)
  refine s_aload_n (pc' := 7) dX7_fit_6 rfl rfl ?_
  refine s_iload_n (pc' := 8) dX7_fit_7 rfl rfl ?_
  refine s_aload_n (pc' := 9) dX7_fit_8 rfl rfl ?_
  refine s_callSU (pc' := 12) (As := [.int _, .ref 45]) dX7_fit_9 rfl mk_X6_fit ml_X7_15 sw_X6_X6_fit su_X7 im_X6_fit (Or.inl rfl) (by decide) hs (by decide) rfl rfl ⟨Nat.le_of_ble_eq_true rfl, Nat.le_of_ble_eq_true rfl, Nat.le_of_ble_eq_true rfl, Nat.le_of_ble_eq_true rfl⟩ (Nat.le_of_ble_eq_true rfl) (c_X6_fit_7 hs h94 (apX_t _ _ _ ht) (by first | omega | (simp only [List.length]; omega)) ?_)
  refine s_aload_n (pc' := 13) dX7_fit_12 rfl rfl ?_
  refine s_iload_n (pc' := 14) dX7_fit_13 rfl rfl ?_
  refine s_aload_n (pc' := 15) dX7_fit_14 rfl rfl ?_
  refine s_callU (pc' := 18) (ci := 7) (owner := RX6) (As := [.int _, .ref 45]) dX7_fit_15 rfl mk_X6_give ml_X7_19 sw_X7_X6_give im_X6_give mk_X6_give.1 mk_X6_give.2.2.1 se_X7_X7_X6_give im_X6_give hs (by decide) rfl rfl ⟨Nat.le_of_ble_eq_true rfl, Nat.le_of_ble_eq_true rfl, Nat.le_of_ble_eq_true rfl, Nat.le_of_ble_eq_true rfl⟩ (Nat.le_of_ble_eq_true rfl) (c_X6_give_7 hs h94 (apX_t _ _ _ (apX_t _ _ _ ht)) (by first | omega | (simp only [List.length]; omega)) ?_)
  refine s_isub (pc' := 19) dX7_fit_18 rfl ?_
  exact s_iret dX7_fit_19 rfl (by decide) (by decide) (by simp only [apX_a h94, apX_ap, List.cons_append, List.nil_append]; exact hk)
set_option maxHeartbeats 200000 in
theorem c_X6_tell_7 {N : Nat} {S : Nat → Nat × Nat} {I : Nat → Nat → Int32} {J : Nat → Nat → Int64} {Q : Nat → Nat → Option Nat} {κ : Option Value → HP → Prop} {a t : Nat} (hs : ∀ {I' : Nat → Nat → Int32} {J' : Nat → Nat → Int64} {Q' : Nat → Nat → Option Nat}, Sh E1 (N, S, I', J', Q') a 7 0) (h94 : 94 ≤ a) {x : Int32} (ht : I 45 0 = nI t) (hl : t + 6 ≤ 50) (hk : κ (some (.int ((((x + I a 4) * 2) - (x + I a 4)) ^^^ (x - I a 5)))) (N, S, apX I t [13, 30, 11, 10, 10, 12], J, Q)) : CT E1 M_X6_tell [.ref a, .int x, .ref 45] (N, S, I, J, Q) κ := by
  refine ofSP mk_X6_tell (Nat.le_of_ble_eq_true rfl) (L := [.ref _, .int _, .ref 45]) rfl ?_
  refine s_bipush (pc' := 2) (v := 13) dX6_tell_0 rfl (by decide) ?_
  refine s_aload_n (pc' := 3) dX6_tell_2 rfl rfl ?_
  refine s_callS (pc' := 6) (As := [.int _, .ref 45]) dX6_tell_3 rfl mk_X6_begin ml_X6_51 sm_X6_begin rfl rfl ⟨Nat.le_of_ble_eq_true rfl, Nat.le_of_ble_eq_true rfl, Nat.le_of_ble_eq_true rfl, Nat.le_of_ble_eq_true rfl⟩ (Nat.le_of_ble_eq_true rfl) (c_X6_begin ht (by first | omega | (simp only [List.length]; omega)) ?_)
  refine s_aload_n (pc' := 7) dX6_tell_6 rfl rfl ?_
  refine s_iload_n (pc' := 8) dX6_tell_7 rfl rfl ?_
  refine s_aload_n (pc' := 9) dX6_tell_8 rfl rfl ?_
  refine s_callU (pc' := 12) (ci := 7) (owner := RX6) (As := [.int _, .ref 45]) dX6_tell_9 rfl mk_X7_fit ml_X6_59 sw_X6_X6_fit im_X6_fit mk_X6_fit.1 mk_X6_fit.2.2.1 se_X7_X6_X7_fit im_X7_fit hs (by decide) rfl rfl ⟨Nat.le_of_ble_eq_true rfl, Nat.le_of_ble_eq_true rfl, Nat.le_of_ble_eq_true rfl, Nat.le_of_ble_eq_true rfl⟩ (Nat.le_of_ble_eq_true rfl) (c_X7_fit_7 hs h94 (apX_t _ _ _ ht) (by first | omega | (simp only [List.length]; omega)) ?_)
  refine s_aload_n (pc' := 13) dX6_tell_12 rfl rfl ?_
  refine s_iload_n (pc' := 14) dX6_tell_13 rfl rfl ?_
  refine s_aload_n (pc' := 15) dX6_tell_14 rfl rfl ?_
  refine s_callU (pc' := 18) (ci := 7) (owner := RX6) (As := [.int _, .ref 45]) dX6_tell_15 rfl mk_X6_open ml_X6_62 sw_X6_X6_open im_X6_open mk_X6_open.1 mk_X6_open.2.2.1 se_X7_X6_X6_open im_X6_open hs (by decide) rfl rfl ⟨Nat.le_of_ble_eq_true rfl, Nat.le_of_ble_eq_true rfl, Nat.le_of_ble_eq_true rfl, Nat.le_of_ble_eq_true rfl⟩ (Nat.le_of_ble_eq_true rfl) (c_X6_open_7 hs h94 (apX_t _ _ _ (apX_t _ _ _ ht)) (by first | omega | (simp only [List.length]; omega)) ?_)
  refine s_ixor (pc' := 19) dX6_tell_18 rfl ?_
  exact s_iret dX6_tell_19 rfl (by decide) (by decide) (by simp only [apX_a h94, apX_ap, List.cons_append, List.nil_append]; exact hk)
set_option maxHeartbeats 200000 in
theorem c_X6_give_2 {N : Nat} {S : Nat → Nat × Nat} {I : Nat → Nat → Int32} {J : Nat → Nat → Int64} {Q : Nat → Nat → Option Nat} {κ : Option Value → HP → Prop} {a t : Nat} (hs : ∀ {I' : Nat → Nat → Int32} {J' : Nat → Nat → Int64} {Q' : Nat → Nat → Option Nat}, Sh E1 (N, S, I', J', Q') a 2 0) (h94 : 94 ≤ a) {x : Int32} (ht : I 45 0 = nI t) (hl : t + 1 ≤ 50) (hk : κ (some (.int (x + I a 4))) (N, S, apX I t [10], J, Q)) : CT E1 M_X6_give [.ref a, .int x, .ref 45] (N, S, I, J, Q) κ := by
  refine ofSP mk_X6_give (Nat.le_of_ble_eq_true rfl) (L := [.ref _, .int _, .ref 45]) rfl ?_
  refine s_bipush (pc' := 2) (v := 10) dX6_give_0 rfl (by decide) ?_
  refine s_aload_n (pc' := 3) dX6_give_2 rfl rfl ?_
  refine s_callS (pc' := 6) (As := [.int _, .ref 45]) dX6_give_3 rfl mk_X6_begin ml_X6_51 sm_X6_begin rfl rfl ⟨Nat.le_of_ble_eq_true rfl, Nat.le_of_ble_eq_true rfl, Nat.le_of_ble_eq_true rfl, Nat.le_of_ble_eq_true rfl⟩ (Nat.le_of_ble_eq_true rfl) (c_X6_begin ht (by first | omega | (simp only [List.length]; omega)) ?_)
  refine s_iload_n (pc' := 7) dX6_give_6 rfl rfl ?_
  refine s_aload_n (pc' := 8) dX6_give_7 rfl rfl ?_
  refine t_getI (pc' := 11) dX6_give_8 rfl hs (by decide) fa_X6_25_2 rfl ?_
  refine s_iadd (pc' := 12) dX6_give_11 rfl ?_
  exact s_iret dX6_give_12 rfl (by decide) (by decide) (by simp only [apX_a h94, apX_ap, List.cons_append, List.nil_append]; exact hk)
set_option maxHeartbeats 200000 in
theorem c_X6_open_2 {N : Nat} {S : Nat → Nat × Nat} {I : Nat → Nat → Int32} {J : Nat → Nat → Int64} {Q : Nat → Nat → Option Nat} {κ : Option Value → HP → Prop} {a t : Nat} (hs : ∀ {I' : Nat → Nat → Int32} {J' : Nat → Nat → Int64} {Q' : Nat → Nat → Option Nat}, Sh E1 (N, S, I', J', Q') a 2 0) (h94 : 94 ≤ a) {x : Int32} (ht : I 45 0 = nI t) (hl : t + 1 ≤ 50) (hk : κ (some (.int (x - I a 5))) (N, S, apX I t [12], J, Q)) : CT E1 M_X6_open [.ref a, .int x, .ref 45] (N, S, I, J, Q) κ := by
  refine ofSP mk_X6_open (Nat.le_of_ble_eq_true rfl) (L := [.ref _, .int _, .ref 45]) rfl ?_
  refine s_bipush (pc' := 2) (v := 12) dX6_open_0 rfl (by decide) ?_
  refine s_aload_n (pc' := 3) dX6_open_2 rfl rfl ?_
  refine s_callS (pc' := 6) (As := [.int _, .ref 45]) dX6_open_3 rfl mk_X6_begin ml_X6_51 sm_X6_begin rfl rfl ⟨Nat.le_of_ble_eq_true rfl, Nat.le_of_ble_eq_true rfl, Nat.le_of_ble_eq_true rfl, Nat.le_of_ble_eq_true rfl⟩ (Nat.le_of_ble_eq_true rfl) (c_X6_begin ht (by first | omega | (simp only [List.length]; omega)) ?_)
  refine s_iload_n (pc' := 7) dX6_open_6 rfl rfl ?_
  refine s_aload_n (pc' := 8) dX6_open_7 rfl rfl ?_
  refine t_getI (pc' := 11) dX6_open_8 rfl hs (by decide) fa_X6_28_2 rfl ?_
  refine s_isub (pc' := 12) dX6_open_11 rfl ?_
  exact s_iret dX6_open_12 rfl (by decide) (by decide) (by simp only [apX_a h94, apX_ap, List.cons_append, List.nil_append]; exact hk)
set_option maxHeartbeats 200000 in
theorem c_X6_fit_2 {N : Nat} {S : Nat → Nat × Nat} {I : Nat → Nat → Int32} {J : Nat → Nat → Int64} {Q : Nat → Nat → Option Nat} {κ : Option Value → HP → Prop} {a t : Nat} (hs : ∀ {I' : Nat → Nat → Int32} {J' : Nat → Nat → Int64} {Q' : Nat → Nat → Option Nat}, Sh E1 (N, S, I', J', Q') a 2 0) (h94 : 94 ≤ a) {x : Int32} (ht : I 45 0 = nI t) (hl : t + 2 ≤ 50) (hk : κ (some (.int ((x + I a 4) * 2))) (N, S, apX I t [11, 10], J, Q)) : CT E1 M_X6_fit [.ref a, .int x, .ref 45] (N, S, I, J, Q) κ := by
  refine ofSP mk_X6_fit (Nat.le_of_ble_eq_true rfl) (L := [.ref _, .int _, .ref 45]) rfl ?_
  refine s_bipush (pc' := 2) (v := 11) dX6_fit_0 rfl (by decide) ?_
  refine s_aload_n (pc' := 3) dX6_fit_2 rfl rfl ?_
  refine s_callS (pc' := 6) (As := [.int _, .ref 45]) dX6_fit_3 rfl mk_X6_begin ml_X6_51 sm_X6_begin rfl rfl ⟨Nat.le_of_ble_eq_true rfl, Nat.le_of_ble_eq_true rfl, Nat.le_of_ble_eq_true rfl, Nat.le_of_ble_eq_true rfl⟩ (Nat.le_of_ble_eq_true rfl) (c_X6_begin ht (by first | omega | (simp only [List.length]; omega)) ?_)
  refine s_aload_n (pc' := 7) dX6_fit_6 rfl rfl ?_
  refine s_iload_n (pc' := 8) dX6_fit_7 rfl rfl ?_
  refine s_aload_n (pc' := 9) dX6_fit_8 rfl rfl ?_
  refine s_callU (pc' := 12) (ci := 2) (owner := RX6) (As := [.int _, .ref 45]) dX6_fit_9 rfl mk_X6_give ml_X6_55 sw_X6_X6_give im_X6_give mk_X6_give.1 mk_X6_give.2.2.1 se_X2_X6_X6_give im_X6_give hs (by decide) rfl rfl ⟨Nat.le_of_ble_eq_true rfl, Nat.le_of_ble_eq_true rfl, Nat.le_of_ble_eq_true rfl, Nat.le_of_ble_eq_true rfl⟩ (Nat.le_of_ble_eq_true rfl) (c_X6_give_2 hs h94 (apX_t _ _ _ ht) (by first | omega | (simp only [List.length]; omega)) ?_)
  refine s_iconst (pc' := 13) (v := 2) dX6_fit_12 rfl (by decide) ?_
  refine s_imul (pc' := 14) dX6_fit_13 rfl ?_
  exact s_iret dX6_fit_14 rfl (by decide) (by decide) (by simp only [apX_a h94, apX_ap, List.cons_append, List.nil_append]; exact hk)
set_option maxHeartbeats 200000 in
theorem c_X6_tell_2 {N : Nat} {S : Nat → Nat × Nat} {I : Nat → Nat → Int32} {J : Nat → Nat → Int64} {Q : Nat → Nat → Option Nat} {κ : Option Value → HP → Prop} {a t : Nat} (hs : ∀ {I' : Nat → Nat → Int32} {J' : Nat → Nat → Int64} {Q' : Nat → Nat → Option Nat}, Sh E1 (N, S, I', J', Q') a 2 0) (h94 : 94 ≤ a) {x : Int32} (ht : I 45 0 = nI t) (hl : t + 4 ≤ 50) (hk : κ (some (.int (((x + I a 4) * 2) ^^^ (x - I a 5)))) (N, S, apX I t [13, 11, 10, 12], J, Q)) : CT E1 M_X6_tell [.ref a, .int x, .ref 45] (N, S, I, J, Q) κ := by
  refine ofSP mk_X6_tell (Nat.le_of_ble_eq_true rfl) (L := [.ref _, .int _, .ref 45]) rfl ?_
  refine s_bipush (pc' := 2) (v := 13) dX6_tell_0 rfl (by decide) ?_
  refine s_aload_n (pc' := 3) dX6_tell_2 rfl rfl ?_
  refine s_callS (pc' := 6) (As := [.int _, .ref 45]) dX6_tell_3 rfl mk_X6_begin ml_X6_51 sm_X6_begin rfl rfl ⟨Nat.le_of_ble_eq_true rfl, Nat.le_of_ble_eq_true rfl, Nat.le_of_ble_eq_true rfl, Nat.le_of_ble_eq_true rfl⟩ (Nat.le_of_ble_eq_true rfl) (c_X6_begin ht (by first | omega | (simp only [List.length]; omega)) ?_)
  refine s_aload_n (pc' := 7) dX6_tell_6 rfl rfl ?_
  refine s_iload_n (pc' := 8) dX6_tell_7 rfl rfl ?_
  refine s_aload_n (pc' := 9) dX6_tell_8 rfl rfl ?_
  refine s_callU (pc' := 12) (ci := 2) (owner := RX6) (As := [.int _, .ref 45]) dX6_tell_9 rfl mk_X6_fit ml_X6_59 sw_X6_X6_fit im_X6_fit mk_X6_fit.1 mk_X6_fit.2.2.1 se_X2_X6_X6_fit im_X6_fit hs (by decide) rfl rfl ⟨Nat.le_of_ble_eq_true rfl, Nat.le_of_ble_eq_true rfl, Nat.le_of_ble_eq_true rfl, Nat.le_of_ble_eq_true rfl⟩ (Nat.le_of_ble_eq_true rfl) (c_X6_fit_2 hs h94 (apX_t _ _ _ ht) (by first | omega | (simp only [List.length]; omega)) ?_)
  refine s_aload_n (pc' := 13) dX6_tell_12 rfl rfl ?_
  refine s_iload_n (pc' := 14) dX6_tell_13 rfl rfl ?_
  refine s_aload_n (pc' := 15) dX6_tell_14 rfl rfl ?_
  refine s_callU (pc' := 18) (ci := 2) (owner := RX6) (As := [.int _, .ref 45]) dX6_tell_15 rfl mk_X6_open ml_X6_62 sw_X6_X6_open im_X6_open mk_X6_open.1 mk_X6_open.2.2.1 se_X2_X6_X6_open im_X6_open hs (by decide) rfl rfl ⟨Nat.le_of_ble_eq_true rfl, Nat.le_of_ble_eq_true rfl, Nat.le_of_ble_eq_true rfl, Nat.le_of_ble_eq_true rfl⟩ (Nat.le_of_ble_eq_true rfl) (c_X6_open_2 hs h94 (apX_t _ _ _ (apX_t _ _ _ ht)) (by first | omega | (simp only [List.length]; omega)) ?_)
  refine s_ixor (pc' := 19) dX6_tell_18 rfl ?_
  exact s_iret dX6_tell_19 rfl (by decide) (by decide) (by simp only [apX_a h94, apX_ap, List.cons_append, List.nil_append]; exact hk)
set_option maxHeartbeats 200000 in
theorem c_X2_tell_2 {N : Nat} {S : Nat → Nat × Nat} {I : Nat → Nat → Int32} {J : Nat → Nat → Int64} {Q : Nat → Nat → Option Nat} {κ : Option Value → HP → Prop} {a t : Nat} (hs : ∀ {I' : Nat → Nat → Int32} {J' : Nat → Nat → Int64} {Q' : Nat → Nat → Option Nat}, Sh E1 (N, S, I', J', Q') a 2 0) (h94 : 94 ≤ a) {x : Int32} (ht : I 45 0 = nI t) (hl : t + 6 ≤ 50) (hk : κ (some (.int ((x - I a 5) - ((((x + 1) + I a 4) * 2) ^^^ ((x + 1) - I a 5))))) (N, S, apX I t [40, 12, 13, 11, 10, 12], J, Q)) : CT E1 M_X2_tell [.ref a, .int x, .ref 45] (N, S, I, J, Q) κ := by
  refine ofSP mk_X2_tell (Nat.le_of_ble_eq_true rfl) (L := [.ref _, .int _, .ref 45]) rfl ?_
  refine s_bipush (pc' := 2) (v := 40) dX2_tell_0 rfl (by decide) ?_
  refine s_aload_n (pc' := 3) dX2_tell_2 rfl rfl ?_
  refine s_callST (pc' := 6) (As := [.int _, .ref 45]) dX2_tell_3 rfl mk_X6_begin ml_X2_15 sw_X2_X6_begin sm_X6_begin rfl rfl ⟨Nat.le_of_ble_eq_true rfl, Nat.le_of_ble_eq_true rfl, Nat.le_of_ble_eq_true rfl, Nat.le_of_ble_eq_true rfl⟩ (Nat.le_of_ble_eq_true rfl) (c_X6_begin ht (by first | omega | (simp only [List.length]; omega)) ?_)
  refine s_aload_n (pc' := 7) dX2_tell_6 rfl rfl ?_
  refine s_iload_n (pc' := 8) dX2_tell_7 rfl rfl ?_
  refine s_aload_n (pc' := 9) dX2_tell_8 rfl rfl ?_
  refine s_callU (pc' := 12) (ci := 2) (owner := RX6) (As := [.int _, .ref 45]) dX2_tell_9 rfl mk_X6_open ml_X2_19 sw_X2_X6_open im_X6_open mk_X6_open.1 mk_X6_open.2.2.1 se_X2_X2_X6_open im_X6_open hs (by decide) rfl rfl ⟨Nat.le_of_ble_eq_true rfl, Nat.le_of_ble_eq_true rfl, Nat.le_of_ble_eq_true rfl, Nat.le_of_ble_eq_true rfl⟩ (Nat.le_of_ble_eq_true rfl) (c_X6_open_2 hs h94 (apX_t _ _ _ ht) (by first | omega | (simp only [List.length]; omega)) ?_)
  refine s_aload_n (pc' := 13) dX2_tell_12 rfl rfl ?_
  refine s_iload_n (pc' := 14) dX2_tell_13 rfl rfl ?_
  refine s_iconst (pc' := 15) (v := 1) dX2_tell_14 rfl (by decide) ?_
  refine s_iadd (pc' := 16) dX2_tell_15 rfl ?_
  refine s_aload_n (pc' := 17) dX2_tell_16 rfl rfl ?_
  refine s_callSU (pc' := 20) (As := [.int _, .ref 45]) dX2_tell_17 rfl mk_X6_tell ml_X2_23 sw_X6_X6_tell su_X2 im_X6_tell (Or.inl rfl) (by decide) hs (by decide) rfl rfl ⟨Nat.le_of_ble_eq_true rfl, Nat.le_of_ble_eq_true rfl, Nat.le_of_ble_eq_true rfl, Nat.le_of_ble_eq_true rfl⟩ (Nat.le_of_ble_eq_true rfl) (c_X6_tell_2 hs h94 (apX_t _ _ _ (apX_t _ _ _ ht)) (by first | omega | (simp only [List.length]; omega)) ?_)
  refine s_isub (pc' := 21) dX2_tell_20 rfl ?_
  exact s_iret dX2_tell_21 rfl (by decide) (by decide) (by simp only [apX_a h94, apX_ap, List.cons_append, List.nil_append]; exact hk)
set_option maxHeartbeats 200000 in
theorem c_X6_give_3 {N : Nat} {S : Nat → Nat × Nat} {I : Nat → Nat → Int32} {J : Nat → Nat → Int64} {Q : Nat → Nat → Option Nat} {κ : Option Value → HP → Prop} {a t : Nat} (hs : ∀ {I' : Nat → Nat → Int32} {J' : Nat → Nat → Int64} {Q' : Nat → Nat → Option Nat}, Sh E1 (N, S, I', J', Q') a 3 0) (h94 : 94 ≤ a) {x : Int32} (ht : I 45 0 = nI t) (hl : t + 1 ≤ 50) (hk : κ (some (.int (x + I a 4))) (N, S, apX I t [10], J, Q)) : CT E1 M_X6_give [.ref a, .int x, .ref 45] (N, S, I, J, Q) κ := by
  refine ofSP mk_X6_give (Nat.le_of_ble_eq_true rfl) (L := [.ref _, .int _, .ref 45]) rfl ?_
  refine s_bipush (pc' := 2) (v := 10) dX6_give_0 rfl (by decide) ?_
  refine s_aload_n (pc' := 3) dX6_give_2 rfl rfl ?_
  refine s_callS (pc' := 6) (As := [.int _, .ref 45]) dX6_give_3 rfl mk_X6_begin ml_X6_51 sm_X6_begin rfl rfl ⟨Nat.le_of_ble_eq_true rfl, Nat.le_of_ble_eq_true rfl, Nat.le_of_ble_eq_true rfl, Nat.le_of_ble_eq_true rfl⟩ (Nat.le_of_ble_eq_true rfl) (c_X6_begin ht (by first | omega | (simp only [List.length]; omega)) ?_)
  refine s_iload_n (pc' := 7) dX6_give_6 rfl rfl ?_
  refine s_aload_n (pc' := 8) dX6_give_7 rfl rfl ?_
  refine t_getI (pc' := 11) dX6_give_8 rfl hs (by decide) fa_X6_25_3 rfl ?_
  refine s_iadd (pc' := 12) dX6_give_11 rfl ?_
  exact s_iret dX6_give_12 rfl (by decide) (by decide) (by simp only [apX_a h94, apX_ap, List.cons_append, List.nil_append]; exact hk)
set_option maxHeartbeats 200000 in
theorem c_X6_open_3 {N : Nat} {S : Nat → Nat × Nat} {I : Nat → Nat → Int32} {J : Nat → Nat → Int64} {Q : Nat → Nat → Option Nat} {κ : Option Value → HP → Prop} {a t : Nat} (hs : ∀ {I' : Nat → Nat → Int32} {J' : Nat → Nat → Int64} {Q' : Nat → Nat → Option Nat}, Sh E1 (N, S, I', J', Q') a 3 0) (h94 : 94 ≤ a) {x : Int32} (ht : I 45 0 = nI t) (hl : t + 1 ≤ 50) (hk : κ (some (.int (x - I a 5))) (N, S, apX I t [12], J, Q)) : CT E1 M_X6_open [.ref a, .int x, .ref 45] (N, S, I, J, Q) κ := by
  refine ofSP mk_X6_open (Nat.le_of_ble_eq_true rfl) (L := [.ref _, .int _, .ref 45]) rfl ?_
  refine s_bipush (pc' := 2) (v := 12) dX6_open_0 rfl (by decide) ?_
  refine s_aload_n (pc' := 3) dX6_open_2 rfl rfl ?_
  refine s_callS (pc' := 6) (As := [.int _, .ref 45]) dX6_open_3 rfl mk_X6_begin ml_X6_51 sm_X6_begin rfl rfl ⟨Nat.le_of_ble_eq_true rfl, Nat.le_of_ble_eq_true rfl, Nat.le_of_ble_eq_true rfl, Nat.le_of_ble_eq_true rfl⟩ (Nat.le_of_ble_eq_true rfl) (c_X6_begin ht (by first | omega | (simp only [List.length]; omega)) ?_)
  refine s_iload_n (pc' := 7) dX6_open_6 rfl rfl ?_
  refine s_aload_n (pc' := 8) dX6_open_7 rfl rfl ?_
  refine t_getI (pc' := 11) dX6_open_8 rfl hs (by decide) fa_X6_28_3 rfl ?_
  refine s_isub (pc' := 12) dX6_open_11 rfl ?_
  exact s_iret dX6_open_12 rfl (by decide) (by decide) (by simp only [apX_a h94, apX_ap, List.cons_append, List.nil_append]; exact hk)
set_option maxHeartbeats 200000 in
theorem c_X3_open_3 {N : Nat} {S : Nat → Nat × Nat} {I : Nat → Nat → Int32} {J : Nat → Nat → Int64} {Q : Nat → Nat → Option Nat} {κ : Option Value → HP → Prop} {a t : Nat} (hs : ∀ {I' : Nat → Nat → Int32} {J' : Nat → Nat → Int64} {Q' : Nat → Nat → Option Nat}, Sh E1 (N, S, I', J', Q') a 3 0) (h94 : 94 ≤ a) {x : Int32} (ht : I 45 0 = nI t) (hl : t + 2 ≤ 50) (hk : κ (some (.int ((x - I a 5) * 3))) (N, S, apX I t [50, 12], J, Q)) : CT E1 M_X3_open [.ref a, .int x, .ref 45] (N, S, I, J, Q) κ := by
  refine ofSP mk_X3_open (Nat.le_of_ble_eq_true rfl) (L := [.ref _, .int _, .ref 45]) rfl ?_
  refine s_bipush (pc' := 2) (v := 50) dX3_open_0 rfl (by decide) ?_
  refine s_aload_n (pc' := 3) dX3_open_2 rfl rfl ?_
  refine s_callST (pc' := 6) (As := [.int _, .ref 45]) dX3_open_3 rfl mk_X6_begin ml_X3_9 sw_X3_X6_begin sm_X6_begin rfl rfl ⟨Nat.le_of_ble_eq_true rfl, Nat.le_of_ble_eq_true rfl, Nat.le_of_ble_eq_true rfl, Nat.le_of_ble_eq_true rfl⟩ (Nat.le_of_ble_eq_true rfl) (c_X6_begin ht (by first | omega | (simp only [List.length]; omega)) ?_)
  refine s_aload_n (pc' := 7) dX3_open_6 rfl rfl ?_
  refine s_iload_n (pc' := 8) dX3_open_7 rfl rfl ?_
  refine s_aload_n (pc' := 9) dX3_open_8 rfl rfl ?_
  refine s_callSU (pc' := 12) (As := [.int _, .ref 45]) dX3_open_9 rfl mk_X6_open ml_X3_15 sw_X6_X6_open su_X3 im_X6_open (Or.inl rfl) (by decide) hs (by decide) rfl rfl ⟨Nat.le_of_ble_eq_true rfl, Nat.le_of_ble_eq_true rfl, Nat.le_of_ble_eq_true rfl, Nat.le_of_ble_eq_true rfl⟩ (Nat.le_of_ble_eq_true rfl) (c_X6_open_3 hs h94 (apX_t _ _ _ ht) (by first | omega | (simp only [List.length]; omega)) ?_)
  refine s_iconst (pc' := 13) (v := 3) dX3_open_12 rfl (by decide) ?_
  refine s_imul (pc' := 14) dX3_open_13 rfl ?_
  exact s_iret dX3_open_14 rfl (by decide) (by decide) (by simp only [apX_a h94, apX_ap, List.cons_append, List.nil_append]; exact hk)
set_option maxHeartbeats 200000 in
theorem c_X6_fit_3 {N : Nat} {S : Nat → Nat × Nat} {I : Nat → Nat → Int32} {J : Nat → Nat → Int64} {Q : Nat → Nat → Option Nat} {κ : Option Value → HP → Prop} {a t : Nat} (hs : ∀ {I' : Nat → Nat → Int32} {J' : Nat → Nat → Int64} {Q' : Nat → Nat → Option Nat}, Sh E1 (N, S, I', J', Q') a 3 0) (h94 : 94 ≤ a) {x : Int32} (ht : I 45 0 = nI t) (hl : t + 2 ≤ 50) (hk : κ (some (.int ((x + I a 4) * 2))) (N, S, apX I t [11, 10], J, Q)) : CT E1 M_X6_fit [.ref a, .int x, .ref 45] (N, S, I, J, Q) κ := by
  refine ofSP mk_X6_fit (Nat.le_of_ble_eq_true rfl) (L := [.ref _, .int _, .ref 45]) rfl ?_
  refine s_bipush (pc' := 2) (v := 11) dX6_fit_0 rfl (by decide) ?_
  refine s_aload_n (pc' := 3) dX6_fit_2 rfl rfl ?_
  refine s_callS (pc' := 6) (As := [.int _, .ref 45]) dX6_fit_3 rfl mk_X6_begin ml_X6_51 sm_X6_begin rfl rfl ⟨Nat.le_of_ble_eq_true rfl, Nat.le_of_ble_eq_true rfl, Nat.le_of_ble_eq_true rfl, Nat.le_of_ble_eq_true rfl⟩ (Nat.le_of_ble_eq_true rfl) (c_X6_begin ht (by first | omega | (simp only [List.length]; omega)) ?_)
  refine s_aload_n (pc' := 7) dX6_fit_6 rfl rfl ?_
  refine s_iload_n (pc' := 8) dX6_fit_7 rfl rfl ?_
  refine s_aload_n (pc' := 9) dX6_fit_8 rfl rfl ?_
  refine s_callU (pc' := 12) (ci := 3) (owner := RX6) (As := [.int _, .ref 45]) dX6_fit_9 rfl mk_X6_give ml_X6_55 sw_X6_X6_give im_X6_give mk_X6_give.1 mk_X6_give.2.2.1 se_X3_X6_X6_give im_X6_give hs (by decide) rfl rfl ⟨Nat.le_of_ble_eq_true rfl, Nat.le_of_ble_eq_true rfl, Nat.le_of_ble_eq_true rfl, Nat.le_of_ble_eq_true rfl⟩ (Nat.le_of_ble_eq_true rfl) (c_X6_give_3 hs h94 (apX_t _ _ _ ht) (by first | omega | (simp only [List.length]; omega)) ?_)
  refine s_iconst (pc' := 13) (v := 2) dX6_fit_12 rfl (by decide) ?_
  refine s_imul (pc' := 14) dX6_fit_13 rfl ?_
  exact s_iret dX6_fit_14 rfl (by decide) (by decide) (by simp only [apX_a h94, apX_ap, List.cons_append, List.nil_append]; exact hk)
set_option maxHeartbeats 200000 in
theorem c_X6_tell_3 {N : Nat} {S : Nat → Nat × Nat} {I : Nat → Nat → Int32} {J : Nat → Nat → Int64} {Q : Nat → Nat → Option Nat} {κ : Option Value → HP → Prop} {a t : Nat} (hs : ∀ {I' : Nat → Nat → Int32} {J' : Nat → Nat → Int64} {Q' : Nat → Nat → Option Nat}, Sh E1 (N, S, I', J', Q') a 3 0) (h94 : 94 ≤ a) {x : Int32} (ht : I 45 0 = nI t) (hl : t + 5 ≤ 50) (hk : κ (some (.int (((x + I a 4) * 2) ^^^ ((x - I a 5) * 3)))) (N, S, apX I t [13, 11, 10, 50, 12], J, Q)) : CT E1 M_X6_tell [.ref a, .int x, .ref 45] (N, S, I, J, Q) κ := by
  refine ofSP mk_X6_tell (Nat.le_of_ble_eq_true rfl) (L := [.ref _, .int _, .ref 45]) rfl ?_
  refine s_bipush (pc' := 2) (v := 13) dX6_tell_0 rfl (by decide) ?_
  refine s_aload_n (pc' := 3) dX6_tell_2 rfl rfl ?_
  refine s_callS (pc' := 6) (As := [.int _, .ref 45]) dX6_tell_3 rfl mk_X6_begin ml_X6_51 sm_X6_begin rfl rfl ⟨Nat.le_of_ble_eq_true rfl, Nat.le_of_ble_eq_true rfl, Nat.le_of_ble_eq_true rfl, Nat.le_of_ble_eq_true rfl⟩ (Nat.le_of_ble_eq_true rfl) (c_X6_begin ht (by first | omega | (simp only [List.length]; omega)) ?_)
  refine s_aload_n (pc' := 7) dX6_tell_6 rfl rfl ?_
  refine s_iload_n (pc' := 8) dX6_tell_7 rfl rfl ?_
  refine s_aload_n (pc' := 9) dX6_tell_8 rfl rfl ?_
  refine s_callU (pc' := 12) (ci := 3) (owner := RX6) (As := [.int _, .ref 45]) dX6_tell_9 rfl mk_X6_fit ml_X6_59 sw_X6_X6_fit im_X6_fit mk_X6_fit.1 mk_X6_fit.2.2.1 se_X3_X6_X6_fit im_X6_fit hs (by decide) rfl rfl ⟨Nat.le_of_ble_eq_true rfl, Nat.le_of_ble_eq_true rfl, Nat.le_of_ble_eq_true rfl, Nat.le_of_ble_eq_true rfl⟩ (Nat.le_of_ble_eq_true rfl) (c_X6_fit_3 hs h94 (apX_t _ _ _ ht) (by first | omega | (simp only [List.length]; omega)) ?_)
  refine s_aload_n (pc' := 13) dX6_tell_12 rfl rfl ?_
  refine s_iload_n (pc' := 14) dX6_tell_13 rfl rfl ?_
  refine s_aload_n (pc' := 15) dX6_tell_14 rfl rfl ?_
  refine s_callU (pc' := 18) (ci := 3) (owner := RX6) (As := [.int _, .ref 45]) dX6_tell_15 rfl mk_X3_open ml_X6_62 sw_X6_X6_open im_X6_open mk_X6_open.1 mk_X6_open.2.2.1 se_X3_X6_X3_open im_X3_open hs (by decide) rfl rfl ⟨Nat.le_of_ble_eq_true rfl, Nat.le_of_ble_eq_true rfl, Nat.le_of_ble_eq_true rfl, Nat.le_of_ble_eq_true rfl⟩ (Nat.le_of_ble_eq_true rfl) (c_X3_open_3 hs h94 (apX_t _ _ _ (apX_t _ _ _ ht)) (by first | omega | (simp only [List.length]; omega)) ?_)
  refine s_ixor (pc' := 19) dX6_tell_18 rfl ?_
  exact s_iret dX6_tell_19 rfl (by decide) (by decide) (by simp only [apX_a h94, apX_ap, List.cons_append, List.nil_append]; exact hk)
set_option maxHeartbeats 200000 in
theorem c_X6_give_4 {N : Nat} {S : Nat → Nat × Nat} {I : Nat → Nat → Int32} {J : Nat → Nat → Int64} {Q : Nat → Nat → Option Nat} {κ : Option Value → HP → Prop} {a t : Nat} (hs : ∀ {I' : Nat → Nat → Int32} {J' : Nat → Nat → Int64} {Q' : Nat → Nat → Option Nat}, Sh E1 (N, S, I', J', Q') a 4 0) (h94 : 94 ≤ a) {x : Int32} (ht : I 45 0 = nI t) (hl : t + 1 ≤ 50) (hk : κ (some (.int (x + I a 4))) (N, S, apX I t [10], J, Q)) : CT E1 M_X6_give [.ref a, .int x, .ref 45] (N, S, I, J, Q) κ := by
  refine ofSP mk_X6_give (Nat.le_of_ble_eq_true rfl) (L := [.ref _, .int _, .ref 45]) rfl ?_
  refine s_bipush (pc' := 2) (v := 10) dX6_give_0 rfl (by decide) ?_
  refine s_aload_n (pc' := 3) dX6_give_2 rfl rfl ?_
  refine s_callS (pc' := 6) (As := [.int _, .ref 45]) dX6_give_3 rfl mk_X6_begin ml_X6_51 sm_X6_begin rfl rfl ⟨Nat.le_of_ble_eq_true rfl, Nat.le_of_ble_eq_true rfl, Nat.le_of_ble_eq_true rfl, Nat.le_of_ble_eq_true rfl⟩ (Nat.le_of_ble_eq_true rfl) (c_X6_begin ht (by first | omega | (simp only [List.length]; omega)) ?_)
  refine s_iload_n (pc' := 7) dX6_give_6 rfl rfl ?_
  refine s_aload_n (pc' := 8) dX6_give_7 rfl rfl ?_
  refine t_getI (pc' := 11) dX6_give_8 rfl hs (by decide) fa_X6_25_4 rfl ?_
  refine s_iadd (pc' := 12) dX6_give_11 rfl ?_
  exact s_iret dX6_give_12 rfl (by decide) (by decide) (by simp only [apX_a h94, apX_ap, List.cons_append, List.nil_append]; exact hk)
set_option maxHeartbeats 200000 in
theorem c_X6_open_4 {N : Nat} {S : Nat → Nat × Nat} {I : Nat → Nat → Int32} {J : Nat → Nat → Int64} {Q : Nat → Nat → Option Nat} {κ : Option Value → HP → Prop} {a t : Nat} (hs : ∀ {I' : Nat → Nat → Int32} {J' : Nat → Nat → Int64} {Q' : Nat → Nat → Option Nat}, Sh E1 (N, S, I', J', Q') a 4 0) (h94 : 94 ≤ a) {x : Int32} (ht : I 45 0 = nI t) (hl : t + 1 ≤ 50) (hk : κ (some (.int (x - I a 5))) (N, S, apX I t [12], J, Q)) : CT E1 M_X6_open [.ref a, .int x, .ref 45] (N, S, I, J, Q) κ := by
  refine ofSP mk_X6_open (Nat.le_of_ble_eq_true rfl) (L := [.ref _, .int _, .ref 45]) rfl ?_
  refine s_bipush (pc' := 2) (v := 12) dX6_open_0 rfl (by decide) ?_
  refine s_aload_n (pc' := 3) dX6_open_2 rfl rfl ?_
  refine s_callS (pc' := 6) (As := [.int _, .ref 45]) dX6_open_3 rfl mk_X6_begin ml_X6_51 sm_X6_begin rfl rfl ⟨Nat.le_of_ble_eq_true rfl, Nat.le_of_ble_eq_true rfl, Nat.le_of_ble_eq_true rfl, Nat.le_of_ble_eq_true rfl⟩ (Nat.le_of_ble_eq_true rfl) (c_X6_begin ht (by first | omega | (simp only [List.length]; omega)) ?_)
  refine s_iload_n (pc' := 7) dX6_open_6 rfl rfl ?_
  refine s_aload_n (pc' := 8) dX6_open_7 rfl rfl ?_
  refine t_getI (pc' := 11) dX6_open_8 rfl hs (by decide) fa_X6_28_4 rfl ?_
  refine s_isub (pc' := 12) dX6_open_11 rfl ?_
  exact s_iret dX6_open_12 rfl (by decide) (by decide) (by simp only [apX_a h94, apX_ap, List.cons_append, List.nil_append]; exact hk)
set_option maxHeartbeats 200000 in
theorem c_X4_open_4 {N : Nat} {S : Nat → Nat × Nat} {I : Nat → Nat → Int32} {J : Nat → Nat → Int64} {Q : Nat → Nat → Option Nat} {κ : Option Value → HP → Prop} {a t : Nat} (hs : ∀ {I' : Nat → Nat → Int32} {J' : Nat → Nat → Int64} {Q' : Nat → Nat → Option Nat}, Sh E1 (N, S, I', J', Q') a 4 0) (h94 : 94 ≤ a) {x : Int32} (ht : I 45 0 = nI t) (hl : t + 2 ≤ 50) (hk : κ (some (.int ((x - I a 5) + I a 4))) (N, S, apX I t [60, 12], J, Q)) : CT E1 M_X4_open [.ref a, .int x, .ref 45] (N, S, I, J, Q) κ := by
  refine ofSP mk_X4_open (Nat.le_of_ble_eq_true rfl) (L := [.ref _, .int _, .ref 45]) rfl ?_
  refine s_bipush (pc' := 2) (v := 60) dX4_open_0 rfl (by decide) ?_
  refine s_aload_n (pc' := 3) dX4_open_2 rfl rfl ?_
  refine s_callST (pc' := 6) (As := [.int _, .ref 45]) dX4_open_3 rfl mk_X6_begin ml_X4_9 sw_X4_X6_begin sm_X6_begin rfl rfl ⟨Nat.le_of_ble_eq_true rfl, Nat.le_of_ble_eq_true rfl, Nat.le_of_ble_eq_true rfl, Nat.le_of_ble_eq_true rfl⟩ (Nat.le_of_ble_eq_true rfl) (c_X6_begin ht (by first | omega | (simp only [List.length]; omega)) ?_)
  refine s_aload_n (pc' := 7) dX4_open_6 rfl rfl ?_
  refine s_iload_n (pc' := 8) dX4_open_7 rfl rfl ?_
  refine s_aload_n (pc' := 9) dX4_open_8 rfl rfl ?_
  refine s_callSU (pc' := 12) (As := [.int _, .ref 45]) dX4_open_9 rfl mk_X6_open ml_X4_15 sw_X6_X6_open su_X4 im_X6_open (Or.inl rfl) (by decide) hs (by decide) rfl rfl ⟨Nat.le_of_ble_eq_true rfl, Nat.le_of_ble_eq_true rfl, Nat.le_of_ble_eq_true rfl, Nat.le_of_ble_eq_true rfl⟩ (Nat.le_of_ble_eq_true rfl) (c_X6_open_4 hs h94 (apX_t _ _ _ ht) (by first | omega | (simp only [List.length]; omega)) ?_)
  refine s_aload_n (pc' := 13) dX4_open_12 rfl rfl ?_
  refine t_getI (pc' := 16) dX4_open_13 rfl hs (by decide) fa_X4_19_4 rfl ?_
  refine s_iadd (pc' := 17) dX4_open_16 rfl ?_
  exact s_iret dX4_open_17 rfl (by decide) (by decide) (by simp only [apX_a h94, apX_ap, List.cons_append, List.nil_append]; exact hk)
set_option maxHeartbeats 200000 in
theorem c_X6_fit_4 {N : Nat} {S : Nat → Nat × Nat} {I : Nat → Nat → Int32} {J : Nat → Nat → Int64} {Q : Nat → Nat → Option Nat} {κ : Option Value → HP → Prop} {a t : Nat} (hs : ∀ {I' : Nat → Nat → Int32} {J' : Nat → Nat → Int64} {Q' : Nat → Nat → Option Nat}, Sh E1 (N, S, I', J', Q') a 4 0) (h94 : 94 ≤ a) {x : Int32} (ht : I 45 0 = nI t) (hl : t + 2 ≤ 50) (hk : κ (some (.int ((x + I a 4) * 2))) (N, S, apX I t [11, 10], J, Q)) : CT E1 M_X6_fit [.ref a, .int x, .ref 45] (N, S, I, J, Q) κ := by
  refine ofSP mk_X6_fit (Nat.le_of_ble_eq_true rfl) (L := [.ref _, .int _, .ref 45]) rfl ?_
  refine s_bipush (pc' := 2) (v := 11) dX6_fit_0 rfl (by decide) ?_
  refine s_aload_n (pc' := 3) dX6_fit_2 rfl rfl ?_
  refine s_callS (pc' := 6) (As := [.int _, .ref 45]) dX6_fit_3 rfl mk_X6_begin ml_X6_51 sm_X6_begin rfl rfl ⟨Nat.le_of_ble_eq_true rfl, Nat.le_of_ble_eq_true rfl, Nat.le_of_ble_eq_true rfl, Nat.le_of_ble_eq_true rfl⟩ (Nat.le_of_ble_eq_true rfl) (c_X6_begin ht (by first | omega | (simp only [List.length]; omega)) ?_)
  refine s_aload_n (pc' := 7) dX6_fit_6 rfl rfl ?_
  refine s_iload_n (pc' := 8) dX6_fit_7 rfl rfl ?_
  refine s_aload_n (pc' := 9) dX6_fit_8 rfl rfl ?_
  refine s_callU (pc' := 12) (ci := 4) (owner := RX6) (As := [.int _, .ref 45]) dX6_fit_9 rfl mk_X6_give ml_X6_55 sw_X6_X6_give im_X6_give mk_X6_give.1 mk_X6_give.2.2.1 se_X4_X6_X6_give im_X6_give hs (by decide) rfl rfl ⟨Nat.le_of_ble_eq_true rfl, Nat.le_of_ble_eq_true rfl, Nat.le_of_ble_eq_true rfl, Nat.le_of_ble_eq_true rfl⟩ (Nat.le_of_ble_eq_true rfl) (c_X6_give_4 hs h94 (apX_t _ _ _ ht) (by first | omega | (simp only [List.length]; omega)) ?_)
  refine s_iconst (pc' := 13) (v := 2) dX6_fit_12 rfl (by decide) ?_
  refine s_imul (pc' := 14) dX6_fit_13 rfl ?_
  exact s_iret dX6_fit_14 rfl (by decide) (by decide) (by simp only [apX_a h94, apX_ap, List.cons_append, List.nil_append]; exact hk)
set_option maxHeartbeats 200000 in
theorem c_X4_fit_4 {N : Nat} {S : Nat → Nat × Nat} {I : Nat → Nat → Int32} {J : Nat → Nat → Int64} {Q : Nat → Nat → Option Nat} {κ : Option Value → HP → Prop} {a t : Nat} (hs : ∀ {I' : Nat → Nat → Int32} {J' : Nat → Nat → Int64} {Q' : Nat → Nat → Option Nat}, Sh E1 (N, S, I', J', Q') a 4 0) (h94 : 94 ≤ a) {x : Int32} (ht : I 45 0 = nI t) (hl : t + 3 ≤ 50) (hk : κ (some (.int (((x - I a 5) + I a 4) * 2))) (N, S, apX I t [61, 11, 10], J, Q)) : CT E1 M_X4_fit [.ref a, .int x, .ref 45] (N, S, I, J, Q) κ := by
  refine ofSP mk_X4_fit (Nat.le_of_ble_eq_true rfl) (L := [.ref _, .int _, .ref 45]) rfl ?_
  refine s_bipush (pc' := 2) (v := 61) dX4_fit_0 rfl (by decide) ?_
  refine s_aload_n (pc' := 3) dX4_fit_2 rfl rfl ?_
  refine s_callST (pc' := 6) (As := [.int _, .ref 45]) dX4_fit_3 rfl mk_X6_begin ml_X4_9 sw_X4_X6_begin sm_X6_begin rfl rfl ⟨Nat.le_of_ble_eq_true rfl, Nat.le_of_ble_eq_true rfl, Nat.le_of_ble_eq_true rfl, Nat.le_of_ble_eq_true rfl⟩ (Nat.le_of_ble_eq_true rfl) (c_X6_begin ht (by first | omega | (simp only [List.length]; omega)) ?_)
  refine s_aload_n (pc' := 7) dX4_fit_6 rfl rfl ?_
  refine s_iload_n (pc' := 8) dX4_fit_7 rfl rfl ?_
  refine s_aload_n (pc' := 9) dX4_fit_8 rfl rfl ?_
  refine t_getI (pc' := 12) dX4_fit_9 rfl hs (by decide) fa_X4_23_4 rfl ?_
  refine s_isub (pc' := 13) dX4_fit_12 rfl ?_
  refine s_aload_n (pc' := 14) dX4_fit_13 rfl rfl ?_
  refine s_callSU (pc' := 17) (As := [.int _, .ref 45]) dX4_fit_14 rfl mk_X6_fit ml_X4_26 sw_X6_X6_fit su_X4 im_X6_fit (Or.inl rfl) (by decide) hs (by decide) rfl rfl ⟨Nat.le_of_ble_eq_true rfl, Nat.le_of_ble_eq_true rfl, Nat.le_of_ble_eq_true rfl, Nat.le_of_ble_eq_true rfl⟩ (Nat.le_of_ble_eq_true rfl) (c_X6_fit_4 hs h94 (apX_t _ _ _ ht) (by first | omega | (simp only [List.length]; omega)) ?_)
  exact s_iret dX4_fit_17 rfl (by decide) (by decide) (by simp only [apX_a h94, apX_ap, List.cons_append, List.nil_append]; exact hk)
set_option maxHeartbeats 200000 in
theorem c_X6_tell_4 {N : Nat} {S : Nat → Nat × Nat} {I : Nat → Nat → Int32} {J : Nat → Nat → Int64} {Q : Nat → Nat → Option Nat} {κ : Option Value → HP → Prop} {a t : Nat} (hs : ∀ {I' : Nat → Nat → Int32} {J' : Nat → Nat → Int64} {Q' : Nat → Nat → Option Nat}, Sh E1 (N, S, I', J', Q') a 4 0) (h94 : 94 ≤ a) {x : Int32} (ht : I 45 0 = nI t) (hl : t + 6 ≤ 50) (hk : κ (some (.int ((((x - I a 5) + I a 4) * 2) ^^^ ((x - I a 5) + I a 4)))) (N, S, apX I t [13, 61, 11, 10, 60, 12], J, Q)) : CT E1 M_X6_tell [.ref a, .int x, .ref 45] (N, S, I, J, Q) κ := by
  refine ofSP mk_X6_tell (Nat.le_of_ble_eq_true rfl) (L := [.ref _, .int _, .ref 45]) rfl ?_
  refine s_bipush (pc' := 2) (v := 13) dX6_tell_0 rfl (by decide) ?_
  refine s_aload_n (pc' := 3) dX6_tell_2 rfl rfl ?_
  refine s_callS (pc' := 6) (As := [.int _, .ref 45]) dX6_tell_3 rfl mk_X6_begin ml_X6_51 sm_X6_begin rfl rfl ⟨Nat.le_of_ble_eq_true rfl, Nat.le_of_ble_eq_true rfl, Nat.le_of_ble_eq_true rfl, Nat.le_of_ble_eq_true rfl⟩ (Nat.le_of_ble_eq_true rfl) (c_X6_begin ht (by first | omega | (simp only [List.length]; omega)) ?_)
  refine s_aload_n (pc' := 7) dX6_tell_6 rfl rfl ?_
  refine s_iload_n (pc' := 8) dX6_tell_7 rfl rfl ?_
  refine s_aload_n (pc' := 9) dX6_tell_8 rfl rfl ?_
  refine s_callU (pc' := 12) (ci := 4) (owner := RX6) (As := [.int _, .ref 45]) dX6_tell_9 rfl mk_X4_fit ml_X6_59 sw_X6_X6_fit im_X6_fit mk_X6_fit.1 mk_X6_fit.2.2.1 se_X4_X6_X4_fit im_X4_fit hs (by decide) rfl rfl ⟨Nat.le_of_ble_eq_true rfl, Nat.le_of_ble_eq_true rfl, Nat.le_of_ble_eq_true rfl, Nat.le_of_ble_eq_true rfl⟩ (Nat.le_of_ble_eq_true rfl) (c_X4_fit_4 hs h94 (apX_t _ _ _ ht) (by first | omega | (simp only [List.length]; omega)) ?_)
  refine s_aload_n (pc' := 13) dX6_tell_12 rfl rfl ?_
  refine s_iload_n (pc' := 14) dX6_tell_13 rfl rfl ?_
  refine s_aload_n (pc' := 15) dX6_tell_14 rfl rfl ?_
  refine s_callU (pc' := 18) (ci := 4) (owner := RX6) (As := [.int _, .ref 45]) dX6_tell_15 rfl mk_X4_open ml_X6_62 sw_X6_X6_open im_X6_open mk_X6_open.1 mk_X6_open.2.2.1 se_X4_X6_X4_open im_X4_open hs (by decide) rfl rfl ⟨Nat.le_of_ble_eq_true rfl, Nat.le_of_ble_eq_true rfl, Nat.le_of_ble_eq_true rfl, Nat.le_of_ble_eq_true rfl⟩ (Nat.le_of_ble_eq_true rfl) (c_X4_open_4 hs h94 (apX_t _ _ _ (apX_t _ _ _ ht)) (by first | omega | (simp only [List.length]; omega)) ?_)
  refine s_ixor (pc' := 19) dX6_tell_18 rfl ?_
  exact s_iret dX6_tell_19 rfl (by decide) (by decide) (by simp only [apX_a h94, apX_ap, List.cons_append, List.nil_append]; exact hk)
set_option maxHeartbeats 200000 in
theorem c_X6_give_0 {N : Nat} {S : Nat → Nat × Nat} {I : Nat → Nat → Int32} {J : Nat → Nat → Int64} {Q : Nat → Nat → Option Nat} {κ : Option Value → HP → Prop} {a t : Nat} (hs : ∀ {I' : Nat → Nat → Int32} {J' : Nat → Nat → Int64} {Q' : Nat → Nat → Option Nat}, Sh E1 (N, S, I', J', Q') a 0 0) (h94 : 94 ≤ a) {x : Int32} (ht : I 45 0 = nI t) (hl : t + 1 ≤ 50) (hk : κ (some (.int (x + I a 4))) (N, S, apX I t [10], J, Q)) : CT E1 M_X6_give [.ref a, .int x, .ref 45] (N, S, I, J, Q) κ := by
  refine ofSP mk_X6_give (Nat.le_of_ble_eq_true rfl) (L := [.ref _, .int _, .ref 45]) rfl ?_
  refine s_bipush (pc' := 2) (v := 10) dX6_give_0 rfl (by decide) ?_
  refine s_aload_n (pc' := 3) dX6_give_2 rfl rfl ?_
  refine s_callS (pc' := 6) (As := [.int _, .ref 45]) dX6_give_3 rfl mk_X6_begin ml_X6_51 sm_X6_begin rfl rfl ⟨Nat.le_of_ble_eq_true rfl, Nat.le_of_ble_eq_true rfl, Nat.le_of_ble_eq_true rfl, Nat.le_of_ble_eq_true rfl⟩ (Nat.le_of_ble_eq_true rfl) (c_X6_begin ht (by first | omega | (simp only [List.length]; omega)) ?_)
  refine s_iload_n (pc' := 7) dX6_give_6 rfl rfl ?_
  refine s_aload_n (pc' := 8) dX6_give_7 rfl rfl ?_
  refine t_getI (pc' := 11) dX6_give_8 rfl hs (by decide) fa_X6_25_0 rfl ?_
  refine s_iadd (pc' := 12) dX6_give_11 rfl ?_
  exact s_iret dX6_give_12 rfl (by decide) (by decide) (by simp only [apX_a h94, apX_ap, List.cons_append, List.nil_append]; exact hk)
set_option maxHeartbeats 200000 in
theorem c_X0_give_0 {N : Nat} {S : Nat → Nat × Nat} {I : Nat → Nat → Int32} {J : Nat → Nat → Int64} {Q : Nat → Nat → Option Nat} {κ : Option Value → HP → Prop} {a t : Nat} (hs : ∀ {I' : Nat → Nat → Int32} {J' : Nat → Nat → Int64} {Q' : Nat → Nat → Option Nat}, Sh E1 (N, S, I', J', Q') a 0 0) (h94 : 94 ≤ a) {x : Int32} (ht : I 45 0 = nI t) (hl : t + 2 ≤ 50) (hk : κ (some (.int ((x + I a 4) ^^^ 5))) (N, S, apX I t [70, 10], J, Q)) : CT E1 M_X0_give [.ref a, .int x, .ref 45] (N, S, I, J, Q) κ := by
  refine ofSP mk_X0_give (Nat.le_of_ble_eq_true rfl) (L := [.ref _, .int _, .ref 45]) rfl ?_
  refine s_bipush (pc' := 2) (v := 70) dX0_give_0 rfl (by decide) ?_
  refine s_aload_n (pc' := 3) dX0_give_2 rfl rfl ?_
  refine s_callST (pc' := 6) (As := [.int _, .ref 45]) dX0_give_3 rfl mk_X6_begin ml_X0_9 sw_X0_X6_begin sm_X6_begin rfl rfl ⟨Nat.le_of_ble_eq_true rfl, Nat.le_of_ble_eq_true rfl, Nat.le_of_ble_eq_true rfl, Nat.le_of_ble_eq_true rfl⟩ (Nat.le_of_ble_eq_true rfl) (c_X6_begin ht (by first | omega | (simp only [List.length]; omega)) ?_)
  refine s_aload_n (pc' := 7) dX0_give_6 rfl rfl ?_
  refine s_iload_n (pc' := 8) dX0_give_7 rfl rfl ?_
  refine s_aload_n (pc' := 9) dX0_give_8 rfl rfl ?_
  refine s_callSU (pc' := 12) (As := [.int _, .ref 45]) dX0_give_9 rfl mk_X6_give ml_X0_15 sw_X4_X6_give su_X0 im_X6_give (Or.inr su_X4) (by decide) hs (by decide) rfl rfl ⟨Nat.le_of_ble_eq_true rfl, Nat.le_of_ble_eq_true rfl, Nat.le_of_ble_eq_true rfl, Nat.le_of_ble_eq_true rfl⟩ (Nat.le_of_ble_eq_true rfl) (c_X6_give_0 hs h94 (apX_t _ _ _ ht) (by first | omega | (simp only [List.length]; omega)) ?_)
  refine s_iconst (pc' := 13) (v := 5) dX0_give_12 rfl (by decide) ?_
  refine s_ixor (pc' := 14) dX0_give_13 rfl ?_
  exact s_iret dX0_give_14 rfl (by decide) (by decide) (by simp only [apX_a h94, apX_ap, List.cons_append, List.nil_append]; exact hk)
set_option maxHeartbeats 200000 in
theorem c_X6_open_0 {N : Nat} {S : Nat → Nat × Nat} {I : Nat → Nat → Int32} {J : Nat → Nat → Int64} {Q : Nat → Nat → Option Nat} {κ : Option Value → HP → Prop} {a t : Nat} (hs : ∀ {I' : Nat → Nat → Int32} {J' : Nat → Nat → Int64} {Q' : Nat → Nat → Option Nat}, Sh E1 (N, S, I', J', Q') a 0 0) (h94 : 94 ≤ a) {x : Int32} (ht : I 45 0 = nI t) (hl : t + 1 ≤ 50) (hk : κ (some (.int (x - I a 5))) (N, S, apX I t [12], J, Q)) : CT E1 M_X6_open [.ref a, .int x, .ref 45] (N, S, I, J, Q) κ := by
  refine ofSP mk_X6_open (Nat.le_of_ble_eq_true rfl) (L := [.ref _, .int _, .ref 45]) rfl ?_
  refine s_bipush (pc' := 2) (v := 12) dX6_open_0 rfl (by decide) ?_
  refine s_aload_n (pc' := 3) dX6_open_2 rfl rfl ?_
  refine s_callS (pc' := 6) (As := [.int _, .ref 45]) dX6_open_3 rfl mk_X6_begin ml_X6_51 sm_X6_begin rfl rfl ⟨Nat.le_of_ble_eq_true rfl, Nat.le_of_ble_eq_true rfl, Nat.le_of_ble_eq_true rfl, Nat.le_of_ble_eq_true rfl⟩ (Nat.le_of_ble_eq_true rfl) (c_X6_begin ht (by first | omega | (simp only [List.length]; omega)) ?_)
  refine s_iload_n (pc' := 7) dX6_open_6 rfl rfl ?_
  refine s_aload_n (pc' := 8) dX6_open_7 rfl rfl ?_
  refine t_getI (pc' := 11) dX6_open_8 rfl hs (by decide) fa_X6_28_0 rfl ?_
  refine s_isub (pc' := 12) dX6_open_11 rfl ?_
  exact s_iret dX6_open_12 rfl (by decide) (by decide) (by simp only [apX_a h94, apX_ap, List.cons_append, List.nil_append]; exact hk)
set_option maxHeartbeats 200000 in
theorem c_X4_open_0 {N : Nat} {S : Nat → Nat × Nat} {I : Nat → Nat → Int32} {J : Nat → Nat → Int64} {Q : Nat → Nat → Option Nat} {κ : Option Value → HP → Prop} {a t : Nat} (hs : ∀ {I' : Nat → Nat → Int32} {J' : Nat → Nat → Int64} {Q' : Nat → Nat → Option Nat}, Sh E1 (N, S, I', J', Q') a 0 0) (h94 : 94 ≤ a) {x : Int32} (ht : I 45 0 = nI t) (hl : t + 2 ≤ 50) (hk : κ (some (.int ((x - I a 5) + I a 4))) (N, S, apX I t [60, 12], J, Q)) : CT E1 M_X4_open [.ref a, .int x, .ref 45] (N, S, I, J, Q) κ := by
  refine ofSP mk_X4_open (Nat.le_of_ble_eq_true rfl) (L := [.ref _, .int _, .ref 45]) rfl ?_
  refine s_bipush (pc' := 2) (v := 60) dX4_open_0 rfl (by decide) ?_
  refine s_aload_n (pc' := 3) dX4_open_2 rfl rfl ?_
  refine s_callST (pc' := 6) (As := [.int _, .ref 45]) dX4_open_3 rfl mk_X6_begin ml_X4_9 sw_X4_X6_begin sm_X6_begin rfl rfl ⟨Nat.le_of_ble_eq_true rfl, Nat.le_of_ble_eq_true rfl, Nat.le_of_ble_eq_true rfl, Nat.le_of_ble_eq_true rfl⟩ (Nat.le_of_ble_eq_true rfl) (c_X6_begin ht (by first | omega | (simp only [List.length]; omega)) ?_)
  refine s_aload_n (pc' := 7) dX4_open_6 rfl rfl ?_
  refine s_iload_n (pc' := 8) dX4_open_7 rfl rfl ?_
  refine s_aload_n (pc' := 9) dX4_open_8 rfl rfl ?_
  refine s_callSU (pc' := 12) (As := [.int _, .ref 45]) dX4_open_9 rfl mk_X6_open ml_X4_15 sw_X6_X6_open su_X4 im_X6_open (Or.inl rfl) (by decide) hs (by decide) rfl rfl ⟨Nat.le_of_ble_eq_true rfl, Nat.le_of_ble_eq_true rfl, Nat.le_of_ble_eq_true rfl, Nat.le_of_ble_eq_true rfl⟩ (Nat.le_of_ble_eq_true rfl) (c_X6_open_0 hs h94 (apX_t _ _ _ ht) (by first | omega | (simp only [List.length]; omega)) ?_)
  refine s_aload_n (pc' := 13) dX4_open_12 rfl rfl ?_
  refine t_getI (pc' := 16) dX4_open_13 rfl hs (by decide) fa_X4_19_0 rfl ?_
  refine s_iadd (pc' := 17) dX4_open_16 rfl ?_
  exact s_iret dX4_open_17 rfl (by decide) (by decide) (by simp only [apX_a h94, apX_ap, List.cons_append, List.nil_append]; exact hk)
set_option maxHeartbeats 200000 in
theorem c_X6_fit_0 {N : Nat} {S : Nat → Nat × Nat} {I : Nat → Nat → Int32} {J : Nat → Nat → Int64} {Q : Nat → Nat → Option Nat} {κ : Option Value → HP → Prop} {a t : Nat} (hs : ∀ {I' : Nat → Nat → Int32} {J' : Nat → Nat → Int64} {Q' : Nat → Nat → Option Nat}, Sh E1 (N, S, I', J', Q') a 0 0) (h94 : 94 ≤ a) {x : Int32} (ht : I 45 0 = nI t) (hl : t + 3 ≤ 50) (hk : κ (some (.int (((x + I a 4) ^^^ 5) * 2))) (N, S, apX I t [11, 70, 10], J, Q)) : CT E1 M_X6_fit [.ref a, .int x, .ref 45] (N, S, I, J, Q) κ := by
  refine ofSP mk_X6_fit (Nat.le_of_ble_eq_true rfl) (L := [.ref _, .int _, .ref 45]) rfl ?_
  refine s_bipush (pc' := 2) (v := 11) dX6_fit_0 rfl (by decide) ?_
  refine s_aload_n (pc' := 3) dX6_fit_2 rfl rfl ?_
  refine s_callS (pc' := 6) (As := [.int _, .ref 45]) dX6_fit_3 rfl mk_X6_begin ml_X6_51 sm_X6_begin rfl rfl ⟨Nat.le_of_ble_eq_true rfl, Nat.le_of_ble_eq_true rfl, Nat.le_of_ble_eq_true rfl, Nat.le_of_ble_eq_true rfl⟩ (Nat.le_of_ble_eq_true rfl) (c_X6_begin ht (by first | omega | (simp only [List.length]; omega)) ?_)
  refine s_aload_n (pc' := 7) dX6_fit_6 rfl rfl ?_
  refine s_iload_n (pc' := 8) dX6_fit_7 rfl rfl ?_
  refine s_aload_n (pc' := 9) dX6_fit_8 rfl rfl ?_
  refine s_callU (pc' := 12) (ci := 0) (owner := RX6) (As := [.int _, .ref 45]) dX6_fit_9 rfl mk_X0_give ml_X6_55 sw_X6_X6_give im_X6_give mk_X6_give.1 mk_X6_give.2.2.1 se_X0_X6_X0_give im_X0_give hs (by decide) rfl rfl ⟨Nat.le_of_ble_eq_true rfl, Nat.le_of_ble_eq_true rfl, Nat.le_of_ble_eq_true rfl, Nat.le_of_ble_eq_true rfl⟩ (Nat.le_of_ble_eq_true rfl) (c_X0_give_0 hs h94 (apX_t _ _ _ ht) (by first | omega | (simp only [List.length]; omega)) ?_)
  refine s_iconst (pc' := 13) (v := 2) dX6_fit_12 rfl (by decide) ?_
  refine s_imul (pc' := 14) dX6_fit_13 rfl ?_
  exact s_iret dX6_fit_14 rfl (by decide) (by decide) (by simp only [apX_a h94, apX_ap, List.cons_append, List.nil_append]; exact hk)
set_option maxHeartbeats 200000 in
theorem c_X4_fit_0 {N : Nat} {S : Nat → Nat × Nat} {I : Nat → Nat → Int32} {J : Nat → Nat → Int64} {Q : Nat → Nat → Option Nat} {κ : Option Value → HP → Prop} {a t : Nat} (hs : ∀ {I' : Nat → Nat → Int32} {J' : Nat → Nat → Int64} {Q' : Nat → Nat → Option Nat}, Sh E1 (N, S, I', J', Q') a 0 0) (h94 : 94 ≤ a) {x : Int32} (ht : I 45 0 = nI t) (hl : t + 4 ≤ 50) (hk : κ (some (.int ((((x - I a 5) + I a 4) ^^^ 5) * 2))) (N, S, apX I t [61, 11, 70, 10], J, Q)) : CT E1 M_X4_fit [.ref a, .int x, .ref 45] (N, S, I, J, Q) κ := by
  refine ofSP mk_X4_fit (Nat.le_of_ble_eq_true rfl) (L := [.ref _, .int _, .ref 45]) rfl ?_
  refine s_bipush (pc' := 2) (v := 61) dX4_fit_0 rfl (by decide) ?_
  refine s_aload_n (pc' := 3) dX4_fit_2 rfl rfl ?_
  refine s_callST (pc' := 6) (As := [.int _, .ref 45]) dX4_fit_3 rfl mk_X6_begin ml_X4_9 sw_X4_X6_begin sm_X6_begin rfl rfl ⟨Nat.le_of_ble_eq_true rfl, Nat.le_of_ble_eq_true rfl, Nat.le_of_ble_eq_true rfl, Nat.le_of_ble_eq_true rfl⟩ (Nat.le_of_ble_eq_true rfl) (c_X6_begin ht (by first | omega | (simp only [List.length]; omega)) ?_)
  refine s_aload_n (pc' := 7) dX4_fit_6 rfl rfl ?_
  refine s_iload_n (pc' := 8) dX4_fit_7 rfl rfl ?_
  refine s_aload_n (pc' := 9) dX4_fit_8 rfl rfl ?_
  refine t_getI (pc' := 12) dX4_fit_9 rfl hs (by decide) fa_X4_23_0 rfl ?_
  refine s_isub (pc' := 13) dX4_fit_12 rfl ?_
  refine s_aload_n (pc' := 14) dX4_fit_13 rfl rfl ?_
  refine s_callSU (pc' := 17) (As := [.int _, .ref 45]) dX4_fit_14 rfl mk_X6_fit ml_X4_26 sw_X6_X6_fit su_X4 im_X6_fit (Or.inl rfl) (by decide) hs (by decide) rfl rfl ⟨Nat.le_of_ble_eq_true rfl, Nat.le_of_ble_eq_true rfl, Nat.le_of_ble_eq_true rfl, Nat.le_of_ble_eq_true rfl⟩ (Nat.le_of_ble_eq_true rfl) (c_X6_fit_0 hs h94 (apX_t _ _ _ ht) (by first | omega | (simp only [List.length]; omega)) ?_)
  exact s_iret dX4_fit_17 rfl (by decide) (by decide) (by simp only [apX_a h94, apX_ap, List.cons_append, List.nil_append]; exact hk)
set_option maxHeartbeats 200000 in
theorem c_X0_fit_0 {N : Nat} {S : Nat → Nat × Nat} {I : Nat → Nat → Int32} {J : Nat → Nat → Int64} {Q : Nat → Nat → Option Nat} {κ : Option Value → HP → Prop} {a t : Nat} (hs : ∀ {I' : Nat → Nat → Int32} {J' : Nat → Nat → Int64} {Q' : Nat → Nat → Option Nat}, Sh E1 (N, S, I', J', Q') a 0 0) (h94 : 94 ≤ a) {x : Int32} (ht : I 45 0 = nI t) (hl : t + 7 ≤ 50) (hk : κ (some (.int (((((x - I a 5) + I a 4) ^^^ 5) * 2) + ((0 - I a 5) + I a 4)))) (N, S, apX I t [71, 61, 11, 70, 10, 60, 12], J, Q)) : CT E1 M_X0_fit [.ref a, .int x, .ref 45] (N, S, I, J, Q) κ := by
  refine ofSP mk_X0_fit (Nat.le_of_ble_eq_true rfl) (L := [.ref _, .int _, .ref 45]) rfl ?_
  refine s_bipush (pc' := 2) (v := 71) dX0_fit_0 rfl (by decide) ?_
  refine s_aload_n (pc' := 3) dX0_fit_2 rfl rfl ?_
  refine s_callST (pc' := 6) (As := [.int _, .ref 45]) dX0_fit_3 rfl mk_X6_begin ml_X0_9 sw_X0_X6_begin sm_X6_begin rfl rfl ⟨Nat.le_of_ble_eq_true rfl, Nat.le_of_ble_eq_true rfl, Nat.le_of_ble_eq_true rfl, Nat.le_of_ble_eq_true rfl⟩ (Nat.le_of_ble_eq_true rfl) (c_X6_begin ht (by first | omega | (simp only [List.length]; omega)) ?_)
  refine s_aload_n (pc' := 7) dX0_fit_6 rfl rfl ?_
  refine s_iload_n (pc' := 8) dX0_fit_7 rfl rfl ?_
  refine s_aload_n (pc' := 9) dX0_fit_8 rfl rfl ?_
  refine s_callSU (pc' := 12) (As := [.int _, .ref 45]) dX0_fit_9 rfl mk_X4_fit ml_X0_19 sw_X4_X4_fit su_X0 im_X4_fit (Or.inl rfl) (by decide) hs (by decide) rfl rfl ⟨Nat.le_of_ble_eq_true rfl, Nat.le_of_ble_eq_true rfl, Nat.le_of_ble_eq_true rfl, Nat.le_of_ble_eq_true rfl⟩ (Nat.le_of_ble_eq_true rfl) (c_X4_fit_0 hs h94 (apX_t _ _ _ ht) (by first | omega | (simp only [List.length]; omega)) ?_)
  refine s_aload_n (pc' := 13) dX0_fit_12 rfl rfl ?_
  refine s_iconst (pc' := 14) (v := 0) dX0_fit_13 rfl (by decide) ?_
  refine s_aload_n (pc' := 15) dX0_fit_14 rfl rfl ?_
  refine s_callU (pc' := 18) (ci := 0) (owner := RX4) (As := [.int _, .ref 45]) dX0_fit_15 rfl mk_X4_open ml_X0_22 sw_X0_X4_open im_X4_open mk_X4_open.1 mk_X4_open.2.2.1 se_X0_X0_X4_open im_X4_open hs (by decide) rfl rfl ⟨Nat.le_of_ble_eq_true rfl, Nat.le_of_ble_eq_true rfl, Nat.le_of_ble_eq_true rfl, Nat.le_of_ble_eq_true rfl⟩ (Nat.le_of_ble_eq_true rfl) (c_X4_open_0 hs h94 (apX_t _ _ _ (apX_t _ _ _ ht)) (by first | omega | (simp only [List.length]; omega)) ?_)
  refine s_iadd (pc' := 19) dX0_fit_18 rfl ?_
  exact s_iret dX0_fit_19 rfl (by decide) (by decide) (by simp only [apX_a h94, apX_ap, List.cons_append, List.nil_append]; exact hk)
set_option maxHeartbeats 200000 in
theorem c_X6_tell_0 {N : Nat} {S : Nat → Nat × Nat} {I : Nat → Nat → Int32} {J : Nat → Nat → Int64} {Q : Nat → Nat → Option Nat} {κ : Option Value → HP → Prop} {a t : Nat} (hs : ∀ {I' : Nat → Nat → Int32} {J' : Nat → Nat → Int64} {Q' : Nat → Nat → Option Nat}, Sh E1 (N, S, I', J', Q') a 0 0) (h94 : 94 ≤ a) {x : Int32} (ht : I 45 0 = nI t) (hl : t + 10 ≤ 50) (hk : κ (some (.int ((((((x - I a 5) + I a 4) ^^^ 5) * 2) + ((0 - I a 5) + I a 4)) ^^^ ((x - I a 5) + I a 4)))) (N, S, apX I t [13, 71, 61, 11, 70, 10, 60, 12, 60, 12], J, Q)) : CT E1 M_X6_tell [.ref a, .int x, .ref 45] (N, S, I, J, Q) κ := by
  refine ofSP mk_X6_tell (Nat.le_of_ble_eq_true rfl) (L := [.ref _, .int _, .ref 45]) rfl ?_
  refine s_bipush (pc' := 2) (v := 13) dX6_tell_0 rfl (by decide) ?_
  refine s_aload_n (pc' := 3) dX6_tell_2 rfl rfl ?_
  refine s_callS (pc' := 6) (As := [.int _, .ref 45]) dX6_tell_3 rfl mk_X6_begin ml_X6_51 sm_X6_begin rfl rfl ⟨Nat.le_of_ble_eq_true rfl, Nat.le_of_ble_eq_true rfl, Nat.le_of_ble_eq_true rfl, Nat.le_of_ble_eq_true rfl⟩ (Nat.le_of_ble_eq_true rfl) (c_X6_begin ht (by first | omega | (simp only [List.length]; omega)) ?_)
  refine s_aload_n (pc' := 7) dX6_tell_6 rfl rfl ?_
  refine s_iload_n (pc' := 8) dX6_tell_7 rfl rfl ?_
  refine s_aload_n (pc' := 9) dX6_tell_8 rfl rfl ?_
  refine s_callU (pc' := 12) (ci := 0) (owner := RX6) (As := [.int _, .ref 45]) dX6_tell_9 rfl mk_X0_fit ml_X6_59 sw_X6_X6_fit im_X6_fit mk_X6_fit.1 mk_X6_fit.2.2.1 se_X0_X6_X0_fit im_X0_fit hs (by decide) rfl rfl ⟨Nat.le_of_ble_eq_true rfl, Nat.le_of_ble_eq_true rfl, Nat.le_of_ble_eq_true rfl, Nat.le_of_ble_eq_true rfl⟩ (Nat.le_of_ble_eq_true rfl) (c_X0_fit_0 hs h94 (apX_t _ _ _ ht) (by first | omega | (simp only [List.length]; omega)) ?_)
  refine s_aload_n (pc' := 13) dX6_tell_12 rfl rfl ?_
  refine s_iload_n (pc' := 14) dX6_tell_13 rfl rfl ?_
  refine s_aload_n (pc' := 15) dX6_tell_14 rfl rfl ?_
  refine s_callU (pc' := 18) (ci := 0) (owner := RX6) (As := [.int _, .ref 45]) dX6_tell_15 rfl mk_X4_open ml_X6_62 sw_X6_X6_open im_X6_open mk_X6_open.1 mk_X6_open.2.2.1 se_X0_X6_X4_open im_X4_open hs (by decide) rfl rfl ⟨Nat.le_of_ble_eq_true rfl, Nat.le_of_ble_eq_true rfl, Nat.le_of_ble_eq_true rfl, Nat.le_of_ble_eq_true rfl⟩ (Nat.le_of_ble_eq_true rfl) (c_X4_open_0 hs h94 (apX_t _ _ _ (apX_t _ _ _ ht)) (by first | omega | (simp only [List.length]; omega)) ?_)
  refine s_ixor (pc' := 19) dX6_tell_18 rfl ?_
  exact s_iret dX6_tell_19 rfl (by decide) (by decide) (by simp only [apX_a h94, apX_ap, List.cons_append, List.nil_append]; exact hk)
