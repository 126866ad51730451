def WL : List (Nat × Nat × Nat) := [(1, 1, 2), (1, 2, 3), (1, 3, 4), (1, 4, 5), (1, 5, 6), (1, 6, 7), (1, 8, 8), (1, 10, 9), (1, 11, 10), (1, 12, 11), (0, 0, 1), (12, 1, 13), (12, 2, 14), (12, 3, 15), (12, 4, 16), (12, 5, 17), (12, 6, 18), (12, 8, 19), (12, 10, 20), (12, 11, 21), (12, 12, 22), (0, 1, 12), (24, 0, 25), (24, 1, 26), (24, 2, 27), (24, 3, 28), (24, 7, 29), (24, 8, 30), (24, 9, 31), (24, 10, 32), (24, 12, 33), (24, 13, 34), (24, 14, 35), (23, 1, 24), (23, 3, 36), (23, 4, 37), (23, 5, 38), (23, 6, 39), (23, 7, 40), (23, 9, 41), (23, 0, 1), (0, 2, 23), (0, 6, 42), (0, 7, 42), (0, 8, 43), (0, 9, 44), (0, 11, 45), (46, 0, 47), (46, 1, 48), (46, 2, 49), (46, 3, 50), (0, 12, 46), (0, 13, 51), (0, 14, 52), (0, 15, 53), (54, 0, 55), (54, 1, 56), (54, 2, 57), (54, 3, 58), (54, 4, 59), (54, 5, 60), (54, 6, 61), (54, 7, 62), (54, 8, 63), (54, 9, 64), (54, 10, 65), (54, 11, 66), (54, 12, 67), (54, 13, 68), (54, 14, 69), (54, 15, 70), (54, 16, 71), (54, 17, 72), (54, 18, 73), (54, 19, 74), (54, 20, 75), (54, 21, 76), (54, 28, 77), (54, 29, 78), (54, 30, 79), (54, 33, 80), (54, 34, 81), (54, 35, 82), (54, 36, 83), (54, 40, 84), (54, 41, 85), (54, 42, 86), (54, 43, 87), (54, 44, 88), (54, 45, 89), (54, 46, 90), (54, 48, 91), (54, 49, 92), (54, 50, 93)]
/-! ===== the constructors: pictures ===== -/
def eS (N : Nat) : Nat → Nat × Nat := fun a => if a < N then SHl.getD a (0, 0) else (0, 0)
def eI (t : Nat) : Nat → Nat → Int32 := fun a j => if 1 ≤ t ∧ a = 23 ∧ j = 2 then 1 else if a = 51 ∧ j + 2 ≤ t then -1 else 0
def j0 : Nat → Nat → Int64 := fun _ _ => 0
def WW_ (k : Nat) : Nat × Nat × Nat := WL.getD k (0, 0, 0)
def qE : Nat → Nat → Nat → Option Nat
  | 0 => fun _ _ => none
  | k + 1 => up2 (qE k) (WW_ k).1 (WW_ k).2.1 (some (WW_ k).2.2)
section PI
variable {N n t k a j v ci : Nat}
theorem nS_e {q : Nat × Nat} (h : SHl.getD N (0, 0) = q) : nS (eS N) N q = eS (N + 1) := by
  funext a
  unfold nS eS
  by_cases e : a = N
  · rw [if_pos e, if_pos (by omega), e, h]
  · rw [if_neg e]
    by_cases z : a < N
    · rw [if_pos z, if_pos (by omega)]
    · rw [if_neg z, if_neg (by omega)]
theorem zI_e (h1 : N ≠ 23 ∨ t = 0) (h2 : N ≠ 51 ∨ t ≤ 1) : zI (eI t) N = eI t := by
  funext a j
  unfold zI
  by_cases e : a = N
  · rw [if_pos e, e]; unfold eI
    rw [if_neg (by omega), if_neg (by omega)]
  · rw [if_neg e]
theorem zJ_e : zJ j0 N = j0 := by
  funext a j
  unfold zJ j0
  split <;> rfl
theorem qE_n : ∀ k, (∀ i, i < k → (WW_ i).1 ≠ N) → ∀ j, qE k N j = none
  | 0, _, _ => rfl
  | k + 1, h, j => by
    rw [qE, up2_o (fun z => h k (by omega) z.symm)]
    exact qE_n k (fun i hi => h i (by omega)) j
theorem zQ_e (h : ∀ i, i < k → (WW_ i).1 ≠ N) : zQ (qE k) N = qE k := by
  funext a j
  unfold zQ
  by_cases e : a = N
  · rw [if_pos e, e, qE_n k h j]
  · rw [if_neg e]
theorem p_new (h1 : SHl.getD N (0, 0) = (ci, 0)) (h2 : N ≠ 23 ∨ t = 0) (h3 : N ≠ 51 ∨ t ≤ 1) (h4 : ∀ i, i < k → (WW_ i).1 ≠ N) : ((N + 1, nS (eS N) N (ci, 0), zI (eI t) N, j0, zQ (qE k) N) : HP) = (N + 1, eS (N + 1), eI t, j0, qE k) := by
  rw [nS_e h1, zI_e h2 h3, zQ_e h4]
theorem p_I (h1 : SHl.getD N (0, 0) = (ci, n)) (h2 : N ≠ 23 ∨ t = 0) (h3 : N ≠ 51 ∨ t ≤ 1) : ((N + 1, nS (eS N) N (ci, n), zI (eI t) N, j0, qE k) : HP) = (N + 1, eS (N + 1), eI t, j0, qE k) := by
  rw [nS_e h1, zI_e h2 h3]
theorem p_J (h1 : SHl.getD N (0, 0) = (14, n)) : ((N + 1, nS (eS N) N (14, n), eI t, zJ j0 N, qE k) : HP) = (N + 1, eS (N + 1), eI t, j0, qE k) := by
  rw [nS_e h1, zJ_e]
theorem p_R (h1 : SHl.getD N (0, 0) = (16, n)) (h4 : ∀ i, i < k → (WW_ i).1 ≠ N) : ((N + 1, nS (eS N) N (16, n), eI t, j0, zQ (qE k) N) : HP) = (N + 1, eS (N + 1), eI t, j0, qE k) := by
  rw [nS_e h1, zQ_e h4]
theorem up_0 (h : eI t a j = 0) : up2 (eI t) a j 0 = eI t := by
  funext b i
  by_cases e : b = a ∧ i = j
  · rw [e.1, e.2, up2_s, h]
  · rw [up2_n e]
theorem p_0 (h : eI t a j = 0) : ((N, eS N, up2 (eI t) a j 0, j0, qE k) : HP) = (N, eS N, eI t, j0, qE k) := by rw [up_0 h]
theorem p_1 : ((N, eS N, up2 (eI 0) 23 2 1, j0, qE k) : HP) = (N, eS N, eI 1, j0, qE k) := by
  congr 3
  funext b i
  by_cases e : b = 23 ∧ i = 2
  · rw [e.1, e.2, up2_s]; rfl
  · rw [up2_n e]; unfold eI
    rw [if_neg (by omega), if_neg (by omega), if_neg (by omega), if_neg (by omega)]
theorem p_51 (h : 1 ≤ t) : ((N, eS N, up2 (eI t) 51 (t - 1) (-1), j0, qE k) : HP) = (N, eS N, eI (t + 1), j0, qE k) := by
  congr 3
  funext b i
  by_cases e : b = 51 ∧ i = t - 1
  · rw [e.1, e.2, up2_s]; unfold eI
    rw [if_neg (by omega), if_pos (by omega)]
  · rw [up2_n e]; unfold eI
    by_cases z : b = 23 ∧ i = 2
    · rw [if_pos (by omega), if_pos (by omega)]
    · rw [if_neg (show ¬ (1 ≤ t ∧ b = 23 ∧ i = 2) by omega), if_neg (show ¬ (1 ≤ t + 1 ∧ b = 23 ∧ i = 2) by omega)]
      by_cases y : b = 51 ∧ i + 2 ≤ t
      · rw [if_pos y, if_pos (show b = 51 ∧ i + 2 ≤ t + 1 by omega)]
      · rw [if_neg y, if_neg (show ¬ (b = 51 ∧ i + 2 ≤ t + 1) by omega)]
theorem p_ref (h : WW_ k = (a, j, v)) : ((N, eS N, eI t, j0, up2 (qE k) a j (some v)) : HP) = (N, eS N, eI t, j0, qE (k + 1)) := by
  rw [qE, h]
theorem p_multi (h : ∀ i, i < k → (WW_ i).1 ≠ 46) (h0 : WW_ k = (46, 0, 47)) (h1 : WW_ (k + 1) = (46, 1, 48)) (h2 : WW_ (k + 2) = (46, 2, 49)) (h3 : WW_ (k + 3) = (46, 3, 50)) : ((46 + 5, gS5 (eS 46) 46, gI5 (eI 1) 46, j0, gQ5 (qE k) 46) : HP) = (51, eS 51, eI 1, j0, qE (k + 4)) := by
  have e1 : gS5 (eS 46) 46 = eS 51 := by
    funext a
    unfold gS5 eS
    rcases Nat.lt_or_ge a 46 with z | z
    · rw [if_neg (by omega), if_neg (by omega), if_pos z, if_pos (by omega)]
    · rcases Nat.lt_or_ge a 51 with y | y
      · rcases (show a = 46 ∨ a = 47 ∨ a = 48 ∨ a = 49 ∨ a = 50 by omega) with rfl | rfl | rfl | rfl | rfl <;> rfl
      · rw [if_neg (by omega), if_neg (by omega), if_neg (by omega), if_neg (by omega)]
  have e2 : gI5 (eI 1) 46 = eI 1 := by
    funext a j
    unfold gI5
    by_cases z : 46 < a ∧ a ≤ 46 + 4
    · rw [if_pos z]; unfold eI; rw [if_neg (by omega), if_neg (by omega)]
    · rw [if_neg z]
  have e3 : gQ5 (qE k) 46 = qE (k + 4) := by
    funext a j
    show gQ5 (qE k) 46 a j = up2 (up2 (up2 (up2 (qE k) (WW_ k).1 (WW_ k).2.1 (some (WW_ k).2.2)) (WW_ (k + 1)).1 (WW_ (k + 1)).2.1 (some (WW_ (k + 1)).2.2)) (WW_ (k + 2)).1 (WW_ (k + 2)).2.1 (some (WW_ (k + 2)).2.2)) (WW_ (k + 3)).1 (WW_ (k + 3)).2.1 (some (WW_ (k + 3)).2.2) a j
    rw [h0, h1, h2, h3]
    show gQ5 (qE k) 46 a j = up2 (up2 (up2 (up2 (qE k) 46 0 (some 47)) 46 1 (some 48)) 46 2 (some 49)) 46 3 (some 50) a j
    unfold gQ5
    by_cases z : a = 46
    · rw [if_pos z, z]
      by_cases y : j < 4
      · rw [if_pos y]
        rcases (show j = 0 ∨ j = 1 ∨ j = 2 ∨ j = 3 by omega) with rfl | rfl | rfl | rfl
        · rw [up2_e (by decide), up2_e (by decide), up2_e (by decide), up2_s]
        · rw [up2_e (by decide), up2_e (by decide), up2_s]
        · rw [up2_e (by decide), up2_s]
        · rw [up2_s]
      · rw [if_neg y, up2_e (by omega), up2_e (by omega), up2_e (by omega), up2_e (by omega), qE_n k h j]
    · rw [if_neg z, up2_o z, up2_o z, up2_o z, up2_o z]
  rw [e1, e2, e3]
end PI
theorem cl_multi : Cond.classLink M_X11_init.1.cls 64 ("[" ++ (FieldType.array .int).toString) ∈ lw_u := by
  have e : "[" ++ (FieldType.array .int).toString = "[[I" := by decide
  rw [e]; exact cl_X11_64
set_option maxHeartbeats 1000000 in
theorem n_X8_init_1 {κ : Option Value → HP → Prop} (hk : κ none (12, eS 12, eI 0, j0, qE 10)) : CT E0 M_X8_init [.ref 1] (2, eS 2, eI 0, j0, qE 0) κ := by
  refine ofSP mk_X8_init (Nat.le_of_ble_eq_true rfl) (L := [.ref 1]) rfl ?_
  refine s_aload_n (pc' := 1) dX8_init_0 rfl rfl ?_
  refine s_objInit (pc' := 4) dX8_init_1 rfl ml_X8_3 (by decide) (by decide) ?_
  refine s_aload_n (pc' := 5) dX8_init_4 rfl rfl ?_
  refine s_iconst (pc' := 6) (v := 0) dX8_init_5 rfl (by decide) ?_
  refine t_putI (pc' := 9) (x := 0) dX8_init_6 rfl (Sh.dy (by decide) (by decide) rfl) (by decide) fa_X8_9_8 (Or.inl rfl) rfl rfl rfl ?_
  refine s_eq (h' := (2, eS 2, eI 0, j0, qE 0)) rfl rfl (p_0 (a := 1) (j := 0) rfl) ?_
  refine s_aload_n (pc' := 10) dX8_init_9 rfl rfl ?_
  refine s_bipush (pc' := 12) (v := 10) dX8_init_10 rfl (by decide) ?_
  refine s_newI (pc' := 14) (n := 10) dX8_init_12 rfl rfl (by decide) (Nat.le_of_ble_eq_true rfl) (Nat.le_of_ble_eq_true rfl) ?_
  refine s_eq (h' := (3, eS 3, eI 0, j0, qE 0)) rfl rfl (p_I (N := 2) rfl (Or.inl (by decide)) (Or.inl (by decide))) ?_
  refine t_putR (pc' := 17) (r := some 2) dX8_init_14 rfl rfl (Sh.dy (by decide) (by decide) rfl) (by decide) fa_X8_15_8 (Or.inr ⟨rfl, rfl, rfl⟩) rfl (fun z => absurd z (Nat.not_lt_zero _)) ?_
  refine s_eq (h' := (3, eS 3, eI 0, j0, qE 1)) rfl rfl (p_ref (k := 0) rfl) ?_
  refine s_aload_n (pc' := 18) dX8_init_17 rfl rfl ?_
  refine s_bipush (pc' := 20) (v := 10) dX8_init_18 rfl (by decide) ?_
  refine s_newI (pc' := 22) (n := 10) dX8_init_20 rfl rfl (by decide) (Nat.le_of_ble_eq_true rfl) (Nat.le_of_ble_eq_true rfl) ?_
  refine s_eq (h' := (4, eS 4, eI 0, j0, qE 1)) rfl rfl (p_I (N := 3) rfl (Or.inl (by decide)) (Or.inl (by decide))) ?_
  refine t_putR (pc' := 25) (r := some 3) dX8_init_22 rfl rfl (Sh.dy (by decide) (by decide) rfl) (by decide) fa_X8_19_8 (Or.inr ⟨rfl, rfl, rfl⟩) rfl (fun z => absurd z (Nat.not_lt_zero _)) ?_
  refine s_eq (h' := (4, eS 4, eI 0, j0, qE 2)) rfl rfl (p_ref (k := 1) rfl) ?_
  refine s_aload_n (pc' := 26) dX8_init_25 rfl rfl ?_
  refine s_bipush (pc' := 28) (v := 10) dX8_init_26 rfl (by decide) ?_
  refine s_newI (pc' := 30) (n := 10) dX8_init_28 rfl rfl (by decide) (Nat.le_of_ble_eq_true rfl) (Nat.le_of_ble_eq_true rfl) ?_
  refine s_eq (h' := (5, eS 5, eI 0, j0, qE 2)) rfl rfl (p_I (N := 4) rfl (Or.inl (by decide)) (Or.inl (by decide))) ?_
  refine t_putR (pc' := 33) (r := some 4) dX8_init_30 rfl rfl (Sh.dy (by decide) (by decide) rfl) (by decide) fa_X8_22_8 (Or.inr ⟨rfl, rfl, rfl⟩) rfl (fun z => absurd z (Nat.not_lt_zero _)) ?_
  refine s_eq (h' := (5, eS 5, eI 0, j0, qE 3)) rfl rfl (p_ref (k := 2) rfl) ?_
  refine s_aload_n (pc' := 34) dX8_init_33 rfl rfl ?_
  refine s_bipush (pc' := 36) (v := 10) dX8_init_34 rfl (by decide) ?_
  refine s_newI (pc' := 38) (n := 10) dX8_init_36 rfl rfl (by decide) (Nat.le_of_ble_eq_true rfl) (Nat.le_of_ble_eq_true rfl) ?_
  refine s_eq (h' := (6, eS 6, eI 0, j0, qE 3)) rfl rfl (p_I (N := 5) rfl (Or.inl (by decide)) (Or.inl (by decide))) ?_
  refine t_putR (pc' := 41) (r := some 5) dX8_init_38 rfl rfl (Sh.dy (by decide) (by decide) rfl) (by decide) fa_X8_25_8 (Or.inr ⟨rfl, rfl, rfl⟩) rfl (fun z => absurd z (Nat.not_lt_zero _)) ?_
  refine s_eq (h' := (6, eS 6, eI 0, j0, qE 4)) rfl rfl (p_ref (k := 3) rfl) ?_
  refine s_aload_n (pc' := 42) dX8_init_41 rfl rfl ?_
  refine s_bipush (pc' := 44) (v := 10) dX8_init_42 rfl (by decide) ?_
  refine s_newI (pc' := 46) (n := 10) dX8_init_44 rfl rfl (by decide) (Nat.le_of_ble_eq_true rfl) (Nat.le_of_ble_eq_true rfl) ?_
  refine s_eq (h' := (7, eS 7, eI 0, j0, qE 4)) rfl rfl (p_I (N := 6) rfl (Or.inl (by decide)) (Or.inl (by decide))) ?_
  refine t_putR (pc' := 49) (r := some 6) dX8_init_46 rfl rfl (Sh.dy (by decide) (by decide) rfl) (by decide) fa_X8_28_8 (Or.inr ⟨rfl, rfl, rfl⟩) rfl (fun z => absurd z (Nat.not_lt_zero _)) ?_
  refine s_eq (h' := (7, eS 7, eI 0, j0, qE 5)) rfl rfl (p_ref (k := 4) rfl) ?_
  refine s_aload_n (pc' := 50) dX8_init_49 rfl rfl ?_
  refine s_bipush (pc' := 52) (v := 10) dX8_init_50 rfl (by decide) ?_
  refine s_newI (pc' := 54) (n := 10) dX8_init_52 rfl rfl (by decide) (Nat.le_of_ble_eq_true rfl) (Nat.le_of_ble_eq_true rfl) ?_
  refine s_eq (h' := (8, eS 8, eI 0, j0, qE 5)) rfl rfl (p_I (N := 7) rfl (Or.inl (by decide)) (Or.inl (by decide))) ?_
  refine t_putR (pc' := 57) (r := some 7) dX8_init_54 rfl rfl (Sh.dy (by decide) (by decide) rfl) (by decide) fa_X8_31_8 (Or.inr ⟨rfl, rfl, rfl⟩) rfl (fun z => absurd z (Nat.not_lt_zero _)) ?_
  refine s_eq (h' := (8, eS 8, eI 0, j0, qE 6)) rfl rfl (p_ref (k := 5) rfl) ?_
  refine s_aload_n (pc' := 58) dX8_init_57 rfl rfl ?_
  refine s_iconst (pc' := 59) (v := 0) dX8_init_58 rfl (by decide) ?_
  refine t_putI (pc' := 62) (x := 0) dX8_init_59 rfl (Sh.dy (by decide) (by decide) rfl) (by decide) fa_X8_34_8 (Or.inl rfl) rfl rfl rfl ?_
  refine s_eq (h' := (8, eS 8, eI 0, j0, qE 6)) rfl rfl (p_0 (a := 1) (j := 7) rfl) ?_
  refine s_aload_n (pc' := 63) dX8_init_62 rfl rfl ?_
  refine s_bipush (pc' := 65) (v := 30) dX8_init_63 rfl (by decide) ?_
  refine s_newR (pc' := 68) (n := 30) dX8_init_65 rfl cl_X8_37 rfl (by decide) (Nat.le_of_ble_eq_true rfl) (Nat.le_of_ble_eq_true rfl) ?_
  refine s_eq (h' := (9, eS 9, eI 0, j0, qE 6)) rfl rfl (p_R (N := 8) rfl (by decide)) ?_
  refine t_putR (pc' := 71) (r := some 8) dX8_init_68 rfl rfl (Sh.dy (by decide) (by decide) rfl) (by decide) fa_X8_39_8 (Or.inr ⟨rfl, rfl, rfl⟩) rfl (fun z => absurd z (Nat.not_lt_zero _)) ?_
  refine s_eq (h' := (9, eS 9, eI 0, j0, qE 7)) rfl rfl (p_ref (k := 6) rfl) ?_
  refine s_aload_n (pc' := 72) dX8_init_71 rfl rfl ?_
  refine s_iconst (pc' := 73) (v := 0) dX8_init_72 rfl (by decide) ?_
  refine t_putI (pc' := 76) (x := 0) dX8_init_73 rfl (Sh.dy (by decide) (by decide) rfl) (by decide) fa_X8_43_8 (Or.inl rfl) rfl rfl rfl ?_
  refine s_eq (h' := (9, eS 9, eI 0, j0, qE 7)) rfl rfl (p_0 (a := 1) (j := 9) rfl) ?_
  refine s_aload_n (pc' := 77) dX8_init_76 rfl rfl ?_
  refine s_bipush (pc' := 79) (v := 10) dX8_init_77 rfl (by decide) ?_
  refine s_newI (pc' := 81) (n := 10) dX8_init_79 rfl rfl (by decide) (Nat.le_of_ble_eq_true rfl) (Nat.le_of_ble_eq_true rfl) ?_
  refine s_eq (h' := (10, eS 10, eI 0, j0, qE 7)) rfl rfl (p_I (N := 9) rfl (Or.inl (by decide)) (Or.inl (by decide))) ?_
  refine t_putR (pc' := 84) (r := some 9) dX8_init_81 rfl rfl (Sh.dy (by decide) (by decide) rfl) (by decide) fa_X8_46_8 (Or.inr ⟨rfl, rfl, rfl⟩) rfl (fun z => absurd z (Nat.not_lt_zero _)) ?_
  refine s_eq (h' := (10, eS 10, eI 0, j0, qE 8)) rfl rfl (p_ref (k := 7) rfl) ?_
  refine s_aload_n (pc' := 85) dX8_init_84 rfl rfl ?_
  refine s_bipush (pc' := 87) (v := 10) dX8_init_85 rfl (by decide) ?_
  refine s_newI (pc' := 89) (n := 10) dX8_init_87 rfl rfl (by decide) (Nat.le_of_ble_eq_true rfl) (Nat.le_of_ble_eq_true rfl) ?_
  refine s_eq (h' := (11, eS 11, eI 0, j0, qE 8)) rfl rfl (p_I (N := 10) rfl (Or.inl (by decide)) (Or.inl (by decide))) ?_
  refine t_putR (pc' := 92) (r := some 10) dX8_init_89 rfl rfl (Sh.dy (by decide) (by decide) rfl) (by decide) fa_X8_49_8 (Or.inr ⟨rfl, rfl, rfl⟩) rfl (fun z => absurd z (Nat.not_lt_zero _)) ?_
  refine s_eq (h' := (11, eS 11, eI 0, j0, qE 9)) rfl rfl (p_ref (k := 8) rfl) ?_
  refine s_aload_n (pc' := 93) dX8_init_92 rfl rfl ?_
  refine s_bipush (pc' := 95) (v := 10) dX8_init_93 rfl (by decide) ?_
  refine s_newI (pc' := 97) (n := 10) dX8_init_95 rfl rfl (by decide) (Nat.le_of_ble_eq_true rfl) (Nat.le_of_ble_eq_true rfl) ?_
  refine s_eq (h' := (12, eS 12, eI 0, j0, qE 9)) rfl rfl (p_I (N := 11) rfl (Or.inl (by decide)) (Or.inl (by decide))) ?_
  refine t_putR (pc' := 100) (r := some 11) dX8_init_97 rfl rfl (Sh.dy (by decide) (by decide) rfl) (by decide) fa_X8_52_8 (Or.inr ⟨rfl, rfl, rfl⟩) rfl (fun z => absurd z (Nat.not_lt_zero _)) ?_
  refine s_eq (h' := (12, eS 12, eI 0, j0, qE 10)) rfl rfl (p_ref (k := 9) rfl) ?_
  refine s_aload_n (pc' := 101) dX8_init_100 rfl rfl ?_
  refine s_iconst (pc' := 102) (v := 0) dX8_init_101 rfl (by decide) ?_
  refine t_putI (pc' := 105) (x := 0) dX8_init_102 rfl (Sh.dy (by decide) (by decide) rfl) (by decide) fa_X8_55_8 (Or.inl rfl) rfl rfl rfl ?_
  refine s_eq (h' := (12, eS 12, eI 0, j0, qE 10)) rfl rfl (p_0 (a := 1) (j := 13) rfl) ?_
  refine s_aload_n (pc' := 106) dX8_init_105 rfl rfl ?_
  refine s_iconst (pc' := 107) (v := 0) dX8_init_106 rfl (by decide) ?_
  refine t_putI (pc' := 110) (x := 0) dX8_init_107 rfl (Sh.dy (by decide) (by decide) rfl) (by decide) fa_X8_58_8 (Or.inl rfl) rfl rfl rfl ?_
  refine s_eq (h' := (12, eS 12, eI 0, j0, qE 10)) rfl rfl (p_0 (a := 1) (j := 14) rfl) ?_
  refine s_aload_n (pc' := 111) dX8_init_110 rfl rfl ?_
  refine s_iconst (pc' := 112) (v := 0) dX8_init_111 rfl (by decide) ?_
  refine t_putI (pc' := 115) (x := 0) dX8_init_112 rfl (Sh.dy (by decide) (by decide) rfl) (by decide) fa_X8_61_8 (Or.inl rfl) rfl rfl rfl ?_
  refine s_eq (h' := (12, eS 12, eI 0, j0, qE 10)) rfl rfl (p_0 (a := 1) (j := 15) rfl) ?_
  refine s_aload_n (pc' := 116) dX8_init_115 rfl rfl ?_
  refine s_iconst (pc' := 117) (v := 0) dX8_init_116 rfl (by decide) ?_
  refine t_putI (pc' := 120) (x := 0) dX8_init_117 rfl (Sh.dy (by decide) (by decide) rfl) (by decide) fa_X8_64_8 (Or.inl rfl) rfl rfl rfl ?_
  refine s_eq (h' := (12, eS 12, eI 0, j0, qE 10)) rfl rfl (p_0 (a := 1) (j := 16) rfl) ?_
  exact s_vret dX8_init_120 rfl (by decide) (by decide) hk
set_option maxHeartbeats 1000000 in
theorem n_X8_init_12 {κ : Option Value → HP → Prop} (hk : κ none (23, eS 23, eI 0, j0, qE 21)) : CT E0 M_X8_init [.ref 12] (13, eS 13, eI 0, j0, qE 11) κ := by
  refine ofSP mk_X8_init (Nat.le_of_ble_eq_true rfl) (L := [.ref 12]) rfl ?_
  refine s_aload_n (pc' := 1) dX8_init_0 rfl rfl ?_
  refine s_objInit (pc' := 4) dX8_init_1 rfl ml_X8_3 (by decide) (by decide) ?_
  refine s_aload_n (pc' := 5) dX8_init_4 rfl rfl ?_
  refine s_iconst (pc' := 6) (v := 0) dX8_init_5 rfl (by decide) ?_
  refine t_putI (pc' := 9) (x := 0) dX8_init_6 rfl (Sh.dy (by decide) (by decide) rfl) (by decide) fa_X8_9_8 (Or.inl rfl) rfl rfl rfl ?_
  refine s_eq (h' := (13, eS 13, eI 0, j0, qE 11)) rfl rfl (p_0 (a := 12) (j := 0) rfl) ?_
  refine s_aload_n (pc' := 10) dX8_init_9 rfl rfl ?_
  refine s_bipush (pc' := 12) (v := 10) dX8_init_10 rfl (by decide) ?_
  refine s_newI (pc' := 14) (n := 10) dX8_init_12 rfl rfl (by decide) (Nat.le_of_ble_eq_true rfl) (Nat.le_of_ble_eq_true rfl) ?_
  refine s_eq (h' := (14, eS 14, eI 0, j0, qE 11)) rfl rfl (p_I (N := 13) rfl (Or.inl (by decide)) (Or.inl (by decide))) ?_
  refine t_putR (pc' := 17) (r := some 13) dX8_init_14 rfl rfl (Sh.dy (by decide) (by decide) rfl) (by decide) fa_X8_15_8 (Or.inr ⟨rfl, rfl, rfl⟩) rfl (fun z => absurd z (Nat.not_lt_zero _)) ?_
  refine s_eq (h' := (14, eS 14, eI 0, j0, qE 12)) rfl rfl (p_ref (k := 11) rfl) ?_
  refine s_aload_n (pc' := 18) dX8_init_17 rfl rfl ?_
  refine s_bipush (pc' := 20) (v := 10) dX8_init_18 rfl (by decide) ?_
  refine s_newI (pc' := 22) (n := 10) dX8_init_20 rfl rfl (by decide) (Nat.le_of_ble_eq_true rfl) (Nat.le_of_ble_eq_true rfl) ?_
  refine s_eq (h' := (15, eS 15, eI 0, j0, qE 12)) rfl rfl (p_I (N := 14) rfl (Or.inl (by decide)) (Or.inl (by decide))) ?_
  refine t_putR (pc' := 25) (r := some 14) dX8_init_22 rfl rfl (Sh.dy (by decide) (by decide) rfl) (by decide) fa_X8_19_8 (Or.inr ⟨rfl, rfl, rfl⟩) rfl (fun z => absurd z (Nat.not_lt_zero _)) ?_
  refine s_eq (h' := (15, eS 15, eI 0, j0, qE 13)) rfl rfl (p_ref (k := 12) rfl) ?_
  refine s_aload_n (pc' := 26) dX8_init_25 rfl rfl ?_
  refine s_bipush (pc' := 28) (v := 10) dX8_init_26 rfl (by decide) ?_
  refine s_newI (pc' := 30) (n := 10) dX8_init_28 rfl rfl (by decide) (Nat.le_of_ble_eq_true rfl) (Nat.le_of_ble_eq_true rfl) ?_
  refine s_eq (h' := (16, eS 16, eI 0, j0, qE 13)) rfl rfl (p_I (N := 15) rfl (Or.inl (by decide)) (Or.inl (by decide))) ?_
  refine t_putR (pc' := 33) (r := some 15) dX8_init_30 rfl rfl (Sh.dy (by decide) (by decide) rfl) (by decide) fa_X8_22_8 (Or.inr ⟨rfl, rfl, rfl⟩) rfl (fun z => absurd z (Nat.not_lt_zero _)) ?_
  refine s_eq (h' := (16, eS 16, eI 0, j0, qE 14)) rfl rfl (p_ref (k := 13) rfl) ?_
  refine s_aload_n (pc' := 34) dX8_init_33 rfl rfl ?_
  refine s_bipush (pc' := 36) (v := 10) dX8_init_34 rfl (by decide) ?_
  refine s_newI (pc' := 38) (n := 10) dX8_init_36 rfl rfl (by decide) (Nat.le_of_ble_eq_true rfl) (Nat.le_of_ble_eq_true rfl) ?_
  refine s_eq (h' := (17, eS 17, eI 0, j0, qE 14)) rfl rfl (p_I (N := 16) rfl (Or.inl (by decide)) (Or.inl (by decide))) ?_
  refine t_putR (pc' := 41) (r := some 16) dX8_init_38 rfl rfl (Sh.dy (by decide) (by decide) rfl) (by decide) fa_X8_25_8 (Or.inr ⟨rfl, rfl, rfl⟩) rfl (fun z => absurd z (Nat.not_lt_zero _)) ?_
  refine s_eq (h' := (17, eS 17, eI 0, j0, qE 15)) rfl rfl (p_ref (k := 14) rfl) ?_
  refine s_aload_n (pc' := 42) dX8_init_41 rfl rfl ?_
  refine s_bipush (pc' := 44) (v := 10) dX8_init_42 rfl (by decide) ?_
  refine s_newI (pc' := 46) (n := 10) dX8_init_44 rfl rfl (by decide) (Nat.le_of_ble_eq_true rfl) (Nat.le_of_ble_eq_true rfl) ?_
  refine s_eq (h' := (18, eS 18, eI 0, j0, qE 15)) rfl rfl (p_I (N := 17) rfl (Or.inl (by decide)) (Or.inl (by decide))) ?_
  refine t_putR (pc' := 49) (r := some 17) dX8_init_46 rfl rfl (Sh.dy (by decide) (by decide) rfl) (by decide) fa_X8_28_8 (Or.inr ⟨rfl, rfl, rfl⟩) rfl (fun z => absurd z (Nat.not_lt_zero _)) ?_
  refine s_eq (h' := (18, eS 18, eI 0, j0, qE 16)) rfl rfl (p_ref (k := 15) rfl) ?_
  refine s_aload_n (pc' := 50) dX8_init_49 rfl rfl ?_
  refine s_bipush (pc' := 52) (v := 10) dX8_init_50 rfl (by decide) ?_
  refine s_newI (pc' := 54) (n := 10) dX8_init_52 rfl rfl (by decide) (Nat.le_of_ble_eq_true rfl) (Nat.le_of_ble_eq_true rfl) ?_
  refine s_eq (h' := (19, eS 19, eI 0, j0, qE 16)) rfl rfl (p_I (N := 18) rfl (Or.inl (by decide)) (Or.inl (by decide))) ?_
  refine t_putR (pc' := 57) (r := some 18) dX8_init_54 rfl rfl (Sh.dy (by decide) (by decide) rfl) (by decide) fa_X8_31_8 (Or.inr ⟨rfl, rfl, rfl⟩) rfl (fun z => absurd z (Nat.not_lt_zero _)) ?_
  refine s_eq (h' := (19, eS 19, eI 0, j0, qE 17)) rfl rfl (p_ref (k := 16) rfl) ?_
  refine s_aload_n (pc' := 58) dX8_init_57 rfl rfl ?_
  refine s_iconst (pc' := 59) (v := 0) dX8_init_58 rfl (by decide) ?_
  refine t_putI (pc' := 62) (x := 0) dX8_init_59 rfl (Sh.dy (by decide) (by decide) rfl) (by decide) fa_X8_34_8 (Or.inl rfl) rfl rfl rfl ?_
  refine s_eq (h' := (19, eS 19, eI 0, j0, qE 17)) rfl rfl (p_0 (a := 12) (j := 7) rfl) ?_
  refine s_aload_n (pc' := 63) dX8_init_62 rfl rfl ?_
  refine s_bipush (pc' := 65) (v := 30) dX8_init_63 rfl (by decide) ?_
  refine s_newR (pc' := 68) (n := 30) dX8_init_65 rfl cl_X8_37 rfl (by decide) (Nat.le_of_ble_eq_true rfl) (Nat.le_of_ble_eq_true rfl) ?_
  refine s_eq (h' := (20, eS 20, eI 0, j0, qE 17)) rfl rfl (p_R (N := 19) rfl (by decide)) ?_
  refine t_putR (pc' := 71) (r := some 19) dX8_init_68 rfl rfl (Sh.dy (by decide) (by decide) rfl) (by decide) fa_X8_39_8 (Or.inr ⟨rfl, rfl, rfl⟩) rfl (fun z => absurd z (Nat.not_lt_zero _)) ?_
  refine s_eq (h' := (20, eS 20, eI 0, j0, qE 18)) rfl rfl (p_ref (k := 17) rfl) ?_
  refine s_aload_n (pc' := 72) dX8_init_71 rfl rfl ?_
  refine s_iconst (pc' := 73) (v := 0) dX8_init_72 rfl (by decide) ?_
  refine t_putI (pc' := 76) (x := 0) dX8_init_73 rfl (Sh.dy (by decide) (by decide) rfl) (by decide) fa_X8_43_8 (Or.inl rfl) rfl rfl rfl ?_
  refine s_eq (h' := (20, eS 20, eI 0, j0, qE 18)) rfl rfl (p_0 (a := 12) (j := 9) rfl) ?_
  refine s_aload_n (pc' := 77) dX8_init_76 rfl rfl ?_
  refine s_bipush (pc' := 79) (v := 10) dX8_init_77 rfl (by decide) ?_
  refine s_newI (pc' := 81) (n := 10) dX8_init_79 rfl rfl (by decide) (Nat.le_of_ble_eq_true rfl) (Nat.le_of_ble_eq_true rfl) ?_
  refine s_eq (h' := (21, eS 21, eI 0, j0, qE 18)) rfl rfl (p_I (N := 20) rfl (Or.inl (by decide)) (Or.inl (by decide))) ?_
  refine t_putR (pc' := 84) (r := some 20) dX8_init_81 rfl rfl (Sh.dy (by decide) (by decide) rfl) (by decide) fa_X8_46_8 (Or.inr ⟨rfl, rfl, rfl⟩) rfl (fun z => absurd z (Nat.not_lt_zero _)) ?_
  refine s_eq (h' := (21, eS 21, eI 0, j0, qE 19)) rfl rfl (p_ref (k := 18) rfl) ?_
  refine s_aload_n (pc' := 85) dX8_init_84 rfl rfl ?_
  refine s_bipush (pc' := 87) (v := 10) dX8_init_85 rfl (by decide) ?_
  refine s_newI (pc' := 89) (n := 10) dX8_init_87 rfl rfl (by decide) (Nat.le_of_ble_eq_true rfl) (Nat.le_of_ble_eq_true rfl) ?_
  refine s_eq (h' := (22, eS 22, eI 0, j0, qE 19)) rfl rfl (p_I (N := 21) rfl (Or.inl (by decide)) (Or.inl (by decide))) ?_
  refine t_putR (pc' := 92) (r := some 21) dX8_init_89 rfl rfl (Sh.dy (by decide) (by decide) rfl) (by decide) fa_X8_49_8 (Or.inr ⟨rfl, rfl, rfl⟩) rfl (fun z => absurd z (Nat.not_lt_zero _)) ?_
  refine s_eq (h' := (22, eS 22, eI 0, j0, qE 20)) rfl rfl (p_ref (k := 19) rfl) ?_
  refine s_aload_n (pc' := 93) dX8_init_92 rfl rfl ?_
  refine s_bipush (pc' := 95) (v := 10) dX8_init_93 rfl (by decide) ?_
  refine s_newI (pc' := 97) (n := 10) dX8_init_95 rfl rfl (by decide) (Nat.le_of_ble_eq_true rfl) (Nat.le_of_ble_eq_true rfl) ?_
  refine s_eq (h' := (23, eS 23, eI 0, j0, qE 20)) rfl rfl (p_I (N := 22) rfl (Or.inl (by decide)) (Or.inl (by decide))) ?_
  refine t_putR (pc' := 100) (r := some 22) dX8_init_97 rfl rfl (Sh.dy (by decide) (by decide) rfl) (by decide) fa_X8_52_8 (Or.inr ⟨rfl, rfl, rfl⟩) rfl (fun z => absurd z (Nat.not_lt_zero _)) ?_
  refine s_eq (h' := (23, eS 23, eI 0, j0, qE 21)) rfl rfl (p_ref (k := 20) rfl) ?_
  refine s_aload_n (pc' := 101) dX8_init_100 rfl rfl ?_
  refine s_iconst (pc' := 102) (v := 0) dX8_init_101 rfl (by decide) ?_
  refine t_putI (pc' := 105) (x := 0) dX8_init_102 rfl (Sh.dy (by decide) (by decide) rfl) (by decide) fa_X8_55_8 (Or.inl rfl) rfl rfl rfl ?_
  refine s_eq (h' := (23, eS 23, eI 0, j0, qE 21)) rfl rfl (p_0 (a := 12) (j := 13) rfl) ?_
  refine s_aload_n (pc' := 106) dX8_init_105 rfl rfl ?_
  refine s_iconst (pc' := 107) (v := 0) dX8_init_106 rfl (by decide) ?_
  refine t_putI (pc' := 110) (x := 0) dX8_init_107 rfl (Sh.dy (by decide) (by decide) rfl) (by decide) fa_X8_58_8 (Or.inl rfl) rfl rfl rfl ?_
  refine s_eq (h' := (23, eS 23, eI 0, j0, qE 21)) rfl rfl (p_0 (a := 12) (j := 14) rfl) ?_
  refine s_aload_n (pc' := 111) dX8_init_110 rfl rfl ?_
  refine s_iconst (pc' := 112) (v := 0) dX8_init_111 rfl (by decide) ?_
  refine t_putI (pc' := 115) (x := 0) dX8_init_112 rfl (Sh.dy (by decide) (by decide) rfl) (by decide) fa_X8_61_8 (Or.inl rfl) rfl rfl rfl ?_
  refine s_eq (h' := (23, eS 23, eI 0, j0, qE 21)) rfl rfl (p_0 (a := 12) (j := 15) rfl) ?_
  refine s_aload_n (pc' := 116) dX8_init_115 rfl rfl ?_
  refine s_iconst (pc' := 117) (v := 0) dX8_init_116 rfl (by decide) ?_
  refine t_putI (pc' := 120) (x := 0) dX8_init_117 rfl (Sh.dy (by decide) (by decide) rfl) (by decide) fa_X8_64_8 (Or.inl rfl) rfl rfl rfl ?_
  refine s_eq (h' := (23, eS 23, eI 0, j0, qE 21)) rfl rfl (p_0 (a := 12) (j := 16) rfl) ?_
  exact s_vret dX8_init_120 rfl (by decide) (by decide) hk
set_option maxHeartbeats 1000000 in
theorem n_X5_init_24 {κ : Option Value → HP → Prop} (hk : κ none (36, eS 36, eI 0, j0, qE 33)) : CT E0 M_X5_init [.ref 24] (25, eS 25, eI 0, j0, qE 22) κ := by
  refine ofSP mk_X5_init (Nat.le_of_ble_eq_true rfl) (L := [.ref 24]) rfl ?_
  refine s_aload_n (pc' := 1) dX5_init_0 rfl rfl ?_
  refine s_objInit (pc' := 4) dX5_init_1 rfl ml_X5_3 (by decide) (by decide) ?_
  refine s_aload_n (pc' := 5) dX5_init_4 rfl rfl ?_
  refine s_bipush (pc' := 7) (v := 10) dX5_init_5 rfl (by decide) ?_
  refine s_newJ (pc' := 9) (n := 10) dX5_init_7 rfl rfl (by decide) (Nat.le_of_ble_eq_true rfl) (Nat.le_of_ble_eq_true rfl) ?_
  refine s_eq (h' := (26, eS 26, eI 0, j0, qE 22)) rfl rfl (p_J (N := 25) rfl) ?_
  refine t_putR (pc' := 12) (r := some 25) dX5_init_9 rfl rfl (Sh.dy (by decide) (by decide) rfl) (by decide) fa_X5_9_5 (Or.inr ⟨rfl, rfl, rfl⟩) rfl (fun z => absurd z (Nat.not_lt_zero _)) ?_
  refine s_eq (h' := (26, eS 26, eI 0, j0, qE 23)) rfl rfl (p_ref (k := 22) rfl) ?_
  refine s_aload_n (pc' := 13) dX5_init_12 rfl rfl ?_
  refine s_bipush (pc' := 15) (v := 30) dX5_init_13 rfl (by decide) ?_
  refine s_newJ (pc' := 17) (n := 30) dX5_init_15 rfl rfl (by decide) (Nat.le_of_ble_eq_true rfl) (Nat.le_of_ble_eq_true rfl) ?_
  refine s_eq (h' := (27, eS 27, eI 0, j0, qE 23)) rfl rfl (p_J (N := 26) rfl) ?_
  refine t_putR (pc' := 20) (r := some 26) dX5_init_17 rfl rfl (Sh.dy (by decide) (by decide) rfl) (by decide) fa_X5_15_5 (Or.inr ⟨rfl, rfl, rfl⟩) rfl (fun z => absurd z (Nat.not_lt_zero _)) ?_
  refine s_eq (h' := (27, eS 27, eI 0, j0, qE 24)) rfl rfl (p_ref (k := 23) rfl) ?_
  refine s_aload_n (pc' := 21) dX5_init_20 rfl rfl ?_
  refine s_bipush (pc' := 23) (v := 30) dX5_init_21 rfl (by decide) ?_
  refine s_newI (pc' := 25) (n := 30) dX5_init_23 rfl rfl (by decide) (Nat.le_of_ble_eq_true rfl) (Nat.le_of_ble_eq_true rfl) ?_
  refine s_eq (h' := (28, eS 28, eI 0, j0, qE 24)) rfl rfl (p_I (N := 27) rfl (Or.inl (by decide)) (Or.inl (by decide))) ?_
  refine t_putR (pc' := 28) (r := some 27) dX5_init_25 rfl rfl (Sh.dy (by decide) (by decide) rfl) (by decide) fa_X5_18_5 (Or.inr ⟨rfl, rfl, rfl⟩) rfl (fun z => absurd z (Nat.not_lt_zero _)) ?_
  refine s_eq (h' := (28, eS 28, eI 0, j0, qE 25)) rfl rfl (p_ref (k := 24) rfl) ?_
  refine s_aload_n (pc' := 29) dX5_init_28 rfl rfl ?_
  refine s_bipush (pc' := 31) (v := 30) dX5_init_29 rfl (by decide) ?_
  refine s_newI (pc' := 33) (n := 30) dX5_init_31 rfl rfl (by decide) (Nat.le_of_ble_eq_true rfl) (Nat.le_of_ble_eq_true rfl) ?_
  refine s_eq (h' := (29, eS 29, eI 0, j0, qE 25)) rfl rfl (p_I (N := 28) rfl (Or.inl (by decide)) (Or.inl (by decide))) ?_
  refine t_putR (pc' := 36) (r := some 28) dX5_init_33 rfl rfl (Sh.dy (by decide) (by decide) rfl) (by decide) fa_X5_22_5 (Or.inr ⟨rfl, rfl, rfl⟩) rfl (fun z => absurd z (Nat.not_lt_zero _)) ?_
  refine s_eq (h' := (29, eS 29, eI 0, j0, qE 26)) rfl rfl (p_ref (k := 25) rfl) ?_
  refine s_aload_n (pc' := 37) dX5_init_36 rfl rfl ?_
  refine s_iconst (pc' := 38) (v := 0) dX5_init_37 rfl (by decide) ?_
  refine t_putI (pc' := 41) (x := 0) dX5_init_38 rfl (Sh.dy (by decide) (by decide) rfl) (by decide) fa_X5_25_5 (Or.inl rfl) rfl rfl rfl ?_
  refine s_eq (h' := (29, eS 29, eI 0, j0, qE 26)) rfl rfl (p_0 (a := 24) (j := 4) rfl) ?_
  refine s_aload_n (pc' := 42) dX5_init_41 rfl rfl ?_
  refine s_iconst (pc' := 43) (v := 0) dX5_init_42 rfl (by decide) ?_
  refine t_putI (pc' := 46) (x := 0) dX5_init_43 rfl (Sh.dy (by decide) (by decide) rfl) (by decide) fa_X5_29_5 (Or.inl rfl) rfl rfl rfl ?_
  refine s_eq (h' := (29, eS 29, eI 0, j0, qE 26)) rfl rfl (p_0 (a := 24) (j := 5) rfl) ?_
  refine s_aload_n (pc' := 47) dX5_init_46 rfl rfl ?_
  refine s_iconst (pc' := 48) (v := 0) dX5_init_47 rfl (by decide) ?_
  refine t_putI (pc' := 51) (x := 0) dX5_init_48 rfl (Sh.dy (by decide) (by decide) rfl) (by decide) fa_X5_32_5 (Or.inl rfl) rfl rfl rfl ?_
  refine s_eq (h' := (29, eS 29, eI 0, j0, qE 26)) rfl rfl (p_0 (a := 24) (j := 6) rfl) ?_
  refine s_aload_n (pc' := 52) dX5_init_51 rfl rfl ?_
  refine s_bipush (pc' := 54) (v := 10) dX5_init_52 rfl (by decide) ?_
  refine s_newI (pc' := 56) (n := 10) dX5_init_54 rfl rfl (by decide) (Nat.le_of_ble_eq_true rfl) (Nat.le_of_ble_eq_true rfl) ?_
  refine s_eq (h' := (30, eS 30, eI 0, j0, qE 26)) rfl rfl (p_I (N := 29) rfl (Or.inl (by decide)) (Or.inl (by decide))) ?_
  refine t_putR (pc' := 59) (r := some 29) dX5_init_56 rfl rfl (Sh.dy (by decide) (by decide) rfl) (by decide) fa_X5_35_5 (Or.inr ⟨rfl, rfl, rfl⟩) rfl (fun z => absurd z (Nat.not_lt_zero _)) ?_
  refine s_eq (h' := (30, eS 30, eI 0, j0, qE 27)) rfl rfl (p_ref (k := 26) rfl) ?_
  refine s_aload_n (pc' := 60) dX5_init_59 rfl rfl ?_
  refine s_bipush (pc' := 62) (v := 30) dX5_init_60 rfl (by decide) ?_
  refine s_newI (pc' := 64) (n := 30) dX5_init_62 rfl rfl (by decide) (Nat.le_of_ble_eq_true rfl) (Nat.le_of_ble_eq_true rfl) ?_
  refine s_eq (h' := (31, eS 31, eI 0, j0, qE 27)) rfl rfl (p_I (N := 30) rfl (Or.inl (by decide)) (Or.inl (by decide))) ?_
  refine t_putR (pc' := 67) (r := some 30) dX5_init_64 rfl rfl (Sh.dy (by decide) (by decide) rfl) (by decide) fa_X5_38_5 (Or.inr ⟨rfl, rfl, rfl⟩) rfl (fun z => absurd z (Nat.not_lt_zero _)) ?_
  refine s_eq (h' := (31, eS 31, eI 0, j0, qE 28)) rfl rfl (p_ref (k := 27) rfl) ?_
  refine s_aload_n (pc' := 68) dX5_init_67 rfl rfl ?_
  refine s_bipush (pc' := 70) (v := 11) dX5_init_68 rfl (by decide) ?_
  refine s_newI (pc' := 72) (n := 11) dX5_init_70 rfl rfl (by decide) (Nat.le_of_ble_eq_true rfl) (Nat.le_of_ble_eq_true rfl) ?_
  refine s_eq (h' := (32, eS 32, eI 0, j0, qE 28)) rfl rfl (p_I (N := 31) rfl (Or.inl (by decide)) (Or.inl (by decide))) ?_
  refine t_putR (pc' := 75) (r := some 31) dX5_init_72 rfl rfl (Sh.dy (by decide) (by decide) rfl) (by decide) fa_X5_41_5 (Or.inr ⟨rfl, rfl, rfl⟩) rfl (fun z => absurd z (Nat.not_lt_zero _)) ?_
  refine s_eq (h' := (32, eS 32, eI 0, j0, qE 29)) rfl rfl (p_ref (k := 28) rfl) ?_
  refine s_aload_n (pc' := 76) dX5_init_75 rfl rfl ?_
  refine s_bipush (pc' := 78) (v := 30) dX5_init_76 rfl (by decide) ?_
  refine s_newR (pc' := 81) (n := 30) dX5_init_78 rfl cl_X5_44 rfl (by decide) (Nat.le_of_ble_eq_true rfl) (Nat.le_of_ble_eq_true rfl) ?_
  refine s_eq (h' := (33, eS 33, eI 0, j0, qE 29)) rfl rfl (p_R (N := 32) rfl (by decide)) ?_
  refine t_putR (pc' := 84) (r := some 32) dX5_init_81 rfl rfl (Sh.dy (by decide) (by decide) rfl) (by decide) fa_X5_46_5 (Or.inr ⟨rfl, rfl, rfl⟩) rfl (fun z => absurd z (Nat.not_lt_zero _)) ?_
  refine s_eq (h' := (33, eS 33, eI 0, j0, qE 30)) rfl rfl (p_ref (k := 29) rfl) ?_
  refine s_aload_n (pc' := 85) dX5_init_84 rfl rfl ?_
  refine s_iconst (pc' := 86) (v := 0) dX5_init_85 rfl (by decide) ?_
  refine t_putI (pc' := 89) (x := 0) dX5_init_86 rfl (Sh.dy (by decide) (by decide) rfl) (by decide) fa_X5_50_5 (Or.inl rfl) rfl rfl rfl ?_
  refine s_eq (h' := (33, eS 33, eI 0, j0, qE 30)) rfl rfl (p_0 (a := 24) (j := 11) rfl) ?_
  refine s_aload_n (pc' := 90) dX5_init_89 rfl rfl ?_
  refine s_bipush (pc' := 92) (v := 21) dX5_init_90 rfl (by decide) ?_
  refine s_newI (pc' := 94) (n := 21) dX5_init_92 rfl rfl (by decide) (Nat.le_of_ble_eq_true rfl) (Nat.le_of_ble_eq_true rfl) ?_
  refine s_eq (h' := (34, eS 34, eI 0, j0, qE 30)) rfl rfl (p_I (N := 33) rfl (Or.inl (by decide)) (Or.inl (by decide))) ?_
  refine t_putR (pc' := 97) (r := some 33) dX5_init_94 rfl rfl (Sh.dy (by decide) (by decide) rfl) (by decide) fa_X5_53_5 (Or.inr ⟨rfl, rfl, rfl⟩) rfl (fun z => absurd z (Nat.not_lt_zero _)) ?_
  refine s_eq (h' := (34, eS 34, eI 0, j0, qE 31)) rfl rfl (p_ref (k := 30) rfl) ?_
  refine s_aload_n (pc' := 98) dX5_init_97 rfl rfl ?_
  refine s_bipush (pc' := 100) (v := 6) dX5_init_98 rfl (by decide) ?_
  refine s_newI (pc' := 102) (n := 6) dX5_init_100 rfl rfl (by decide) (Nat.le_of_ble_eq_true rfl) (Nat.le_of_ble_eq_true rfl) ?_
  refine s_eq (h' := (35, eS 35, eI 0, j0, qE 31)) rfl rfl (p_I (N := 34) rfl (Or.inl (by decide)) (Or.inl (by decide))) ?_
  refine t_putR (pc' := 105) (r := some 34) dX5_init_102 rfl rfl (Sh.dy (by decide) (by decide) rfl) (by decide) fa_X5_56_5 (Or.inr ⟨rfl, rfl, rfl⟩) rfl (fun z => absurd z (Nat.not_lt_zero _)) ?_
  refine s_eq (h' := (35, eS 35, eI 0, j0, qE 32)) rfl rfl (p_ref (k := 31) rfl) ?_
  refine s_aload_n (pc' := 106) dX5_init_105 rfl rfl ?_
  refine s_bipush (pc' := 108) (v := 6) dX5_init_106 rfl (by decide) ?_
  refine s_newI (pc' := 110) (n := 6) dX5_init_108 rfl rfl (by decide) (Nat.le_of_ble_eq_true rfl) (Nat.le_of_ble_eq_true rfl) ?_
  refine s_eq (h' := (36, eS 36, eI 0, j0, qE 32)) rfl rfl (p_I (N := 35) rfl (Or.inl (by decide)) (Or.inl (by decide))) ?_
  refine t_putR (pc' := 113) (r := some 35) dX5_init_110 rfl rfl (Sh.dy (by decide) (by decide) rfl) (by decide) fa_X5_59_5 (Or.inr ⟨rfl, rfl, rfl⟩) rfl (fun z => absurd z (Nat.not_lt_zero _)) ?_
  refine s_eq (h' := (36, eS 36, eI 0, j0, qE 33)) rfl rfl (p_ref (k := 32) rfl) ?_
  exact s_vret dX5_init_113 rfl (by decide) (by decide) hk
set_option maxHeartbeats 1000000 in
theorem n_X1_init_23 {κ : Option Value → HP → Prop} (hk : κ none (42, eS 42, eI 1, j0, qE 41)) : CT E0 M_X1_init [.ref 23, .ref 1] (24, eS 24, eI 0, j0, qE 22) κ := by
  refine ofSP mk_X1_init (Nat.le_of_ble_eq_true rfl) (L := [.ref 23, .ref 1]) rfl ?_
  refine s_aload_n (pc' := 1) dX1_init_0 rfl rfl ?_
  refine s_objInit (pc' := 4) dX1_init_1 rfl ml_X1_3 (by decide) (by decide) ?_
  refine s_aload_n (pc' := 5) dX1_init_4 rfl rfl ?_
  refine s_new (pc' := 8) (ci := 5) dX1_init_5 rfl (by decide) cl_X1_9 ib_X5 in_X5 (Nat.le_of_ble_eq_true rfl) (Nat.le_of_ble_eq_true rfl) ?_
  refine s_eq (h' := (25, eS 25, eI 0, j0, qE 22)) rfl rfl (p_new (N := 24) rfl (Or.inl (by decide)) (Or.inl (by decide)) (by decide)) ?_
  refine s_dup (pc' := 9) dX1_init_8 rfl rfl ?_
  refine s_callIN (pc' := 12) (As := []) dX1_init_9 rfl mk_X5_init mn_X1_11 im_X5_init rfl rfl rfl rfl ⟨Nat.le_of_ble_eq_true rfl, Nat.le_of_ble_eq_true rfl, Nat.le_of_ble_eq_true rfl, Nat.le_of_ble_eq_true rfl⟩ (Nat.le_of_ble_eq_true rfl) (n_X5_init_24 ?_)
  refine t_putR (pc' := 15) (r := some 24) dX1_init_12 rfl rfl (Sh.dy (by decide) (by decide) rfl) (by decide) fa_X1_12_1 (Or.inr ⟨rfl, rfl, rfl⟩) rfl (fun z => absurd z (Nat.not_lt_zero _)) ?_
  refine s_eq (h' := (36, eS 36, eI 0, j0, qE 34)) rfl rfl (p_ref (k := 33) rfl) ?_
  refine s_aload_n (pc' := 16) dX1_init_15 rfl rfl ?_
  refine s_iconst (pc' := 17) (v := 1) dX1_init_16 rfl (by decide) ?_
  refine t_putI (pc' := 20) (x := 1) dX1_init_17 rfl (Sh.dy (by decide) (by decide) rfl) (by decide) fa_X1_18_1 (Or.inl rfl) rfl rfl rfl ?_
  refine s_eq (h' := (36, eS 36, eI 1, j0, qE 34)) rfl rfl p_1 ?_
  refine s_aload_n (pc' := 21) dX1_init_20 rfl rfl ?_
  refine s_sipush (pc' := 24) (v := 256) dX1_init_21 rfl (by decide) ?_
  refine s_newI (pc' := 26) (n := 256) dX1_init_24 rfl rfl (by decide) (Nat.le_of_ble_eq_true rfl) (Nat.le_of_ble_eq_true rfl) ?_
  refine s_eq (h' := (37, eS 37, eI 1, j0, qE 34)) rfl rfl (p_I (N := 36) rfl (Or.inl (by decide)) (Or.inl (by decide))) ?_
  refine t_putR (pc' := 29) (r := some 36) dX1_init_26 rfl rfl (Sh.dy (by decide) (by decide) rfl) (by decide) fa_X1_22_1 (Or.inr ⟨rfl, rfl, rfl⟩) rfl (fun z => absurd z (Nat.not_lt_zero _)) ?_
  refine s_eq (h' := (37, eS 37, eI 1, j0, qE 35)) rfl rfl (p_ref (k := 34) rfl) ?_
  refine s_aload_n (pc' := 30) dX1_init_29 rfl rfl ?_
  refine s_sipush (pc' := 33) (v := 256) dX1_init_30 rfl (by decide) ?_
  refine s_newI (pc' := 35) (n := 256) dX1_init_33 rfl rfl (by decide) (Nat.le_of_ble_eq_true rfl) (Nat.le_of_ble_eq_true rfl) ?_
  refine s_eq (h' := (38, eS 38, eI 1, j0, qE 35)) rfl rfl (p_I (N := 37) rfl (Or.inl (by decide)) (Or.inl (by decide))) ?_
  refine t_putR (pc' := 38) (r := some 37) dX1_init_35 rfl rfl (Sh.dy (by decide) (by decide) rfl) (by decide) fa_X1_26_1 (Or.inr ⟨rfl, rfl, rfl⟩) rfl (fun z => absurd z (Nat.not_lt_zero _)) ?_
  refine s_eq (h' := (38, eS 38, eI 1, j0, qE 36)) rfl rfl (p_ref (k := 35) rfl) ?_
  refine s_aload_n (pc' := 39) dX1_init_38 rfl rfl ?_
  refine s_sipush (pc' := 42) (v := 2560) dX1_init_39 rfl (by decide) ?_
  refine s_newJ (pc' := 44) (n := 2560) dX1_init_42 rfl rfl (by decide) (Nat.le_of_ble_eq_true rfl) (Nat.le_of_ble_eq_true rfl) ?_
  refine s_eq (h' := (39, eS 39, eI 1, j0, qE 36)) rfl rfl (p_J (N := 38) rfl) ?_
  refine t_putR (pc' := 47) (r := some 38) dX1_init_44 rfl rfl (Sh.dy (by decide) (by decide) rfl) (by decide) fa_X1_29_1 (Or.inr ⟨rfl, rfl, rfl⟩) rfl (fun z => absurd z (Nat.not_lt_zero _)) ?_
  refine s_eq (h' := (39, eS 39, eI 1, j0, qE 37)) rfl rfl (p_ref (k := 36) rfl) ?_
  refine s_aload_n (pc' := 48) dX1_init_47 rfl rfl ?_
  refine s_sipush (pc' := 51) (v := 256) dX1_init_48 rfl (by decide) ?_
  refine s_newJ (pc' := 53) (n := 256) dX1_init_51 rfl rfl (by decide) (Nat.le_of_ble_eq_true rfl) (Nat.le_of_ble_eq_true rfl) ?_
  refine s_eq (h' := (40, eS 40, eI 1, j0, qE 37)) rfl rfl (p_J (N := 39) rfl) ?_
  refine t_putR (pc' := 56) (r := some 39) dX1_init_53 rfl rfl (Sh.dy (by decide) (by decide) rfl) (by decide) fa_X1_33_1 (Or.inr ⟨rfl, rfl, rfl⟩) rfl (fun z => absurd z (Nat.not_lt_zero _)) ?_
  refine s_eq (h' := (40, eS 40, eI 1, j0, qE 38)) rfl rfl (p_ref (k := 37) rfl) ?_
  refine s_aload_n (pc' := 57) dX1_init_56 rfl rfl ?_
  refine s_sipush (pc' := 60) (v := 256) dX1_init_57 rfl (by decide) ?_
  refine s_newJ (pc' := 62) (n := 256) dX1_init_60 rfl rfl (by decide) (Nat.le_of_ble_eq_true rfl) (Nat.le_of_ble_eq_true rfl) ?_
  refine s_eq (h' := (41, eS 41, eI 1, j0, qE 38)) rfl rfl (p_J (N := 40) rfl) ?_
  refine t_putR (pc' := 65) (r := some 40) dX1_init_62 rfl rfl (Sh.dy (by decide) (by decide) rfl) (by decide) fa_X1_36_1 (Or.inr ⟨rfl, rfl, rfl⟩) rfl (fun z => absurd z (Nat.not_lt_zero _)) ?_
  refine s_eq (h' := (41, eS 41, eI 1, j0, qE 39)) rfl rfl (p_ref (k := 38) rfl) ?_
  refine s_aload_n (pc' := 66) dX1_init_65 rfl rfl ?_
  refine s_iconst (pc' := 67) (v := 0) dX1_init_66 rfl (by decide) ?_
  refine t_putI (pc' := 70) (x := 0) dX1_init_67 rfl (Sh.dy (by decide) (by decide) rfl) (by decide) fa_X1_39_1 (Or.inl rfl) rfl rfl rfl ?_
  refine s_eq (h' := (41, eS 41, eI 1, j0, qE 39)) rfl rfl (p_0 (a := 23) (j := 8) rfl) ?_
  refine s_aload_n (pc' := 71) dX1_init_70 rfl rfl ?_
  refine s_sipush (pc' := 74) (v := 256) dX1_init_71 rfl (by decide) ?_
  refine s_newZ (pc' := 76) (n := 256) dX1_init_74 rfl rfl (by decide) (Nat.le_of_ble_eq_true rfl) (Nat.le_of_ble_eq_true rfl) ?_
  refine s_eq (h' := (42, eS 42, eI 1, j0, qE 39)) rfl rfl (p_I (N := 41) rfl (Or.inl (by decide)) (Or.inl (by decide))) ?_
  refine t_putR (pc' := 79) (r := some 41) dX1_init_76 rfl rfl (Sh.dy (by decide) (by decide) rfl) (by decide) fa_X1_42_1 (Or.inr ⟨rfl, rfl, rfl⟩) rfl (fun z => absurd z (Nat.not_lt_zero _)) ?_
  refine s_eq (h' := (42, eS 42, eI 1, j0, qE 40)) rfl rfl (p_ref (k := 39) rfl) ?_
  refine s_aload_n (pc' := 80) dX1_init_79 rfl rfl ?_
  refine s_aload_n (pc' := 81) dX1_init_80 rfl rfl ?_
  refine t_putR (pc' := 84) (r := some 1) dX1_init_81 rfl rfl (Sh.dy (by decide) (by decide) rfl) (by decide) fa_X1_46_1 (Or.inr ⟨rfl, rfl, rfl⟩) rfl (fun z => absurd z (Nat.not_lt_zero _)) ?_
  refine s_eq (h' := (42, eS 42, eI 1, j0, qE 41)) rfl rfl (p_ref (k := 40) rfl) ?_
  exact s_vret dX1_init_84 rfl (by decide) (by decide) hk
set_option maxHeartbeats 1000000 in
theorem n_X9_init_42 {κ : Option Value → HP → Prop} (hk : κ none (43, eS 43, eI 1, j0, qE 42)) : CT E0 M_X9_init [.ref 42, .int 0, .int 0, .int 0] (43, eS 43, eI 1, j0, qE 42) κ := by
  refine ofSP mk_X9_init (Nat.le_of_ble_eq_true rfl) (L := [.ref 42, .int 0, .int 0, .int 0]) rfl ?_
  refine s_aload_n (pc' := 1) dX9_init_0 rfl rfl ?_
  refine s_objInit (pc' := 4) dX9_init_1 rfl ml_X9_3 (by decide) (by decide) ?_
  refine s_aload_n (pc' := 5) dX9_init_4 rfl rfl ?_
  refine s_iload_n (pc' := 6) dX9_init_5 rfl rfl ?_
  refine t_putI (pc' := 9) (x := 0) dX9_init_6 rfl (Sh.dy (by decide) (by decide) rfl) (by decide) fa_X9_9_9 (Or.inr ⟨rfl, rfl, rfl⟩) rfl rfl rfl ?_
  refine s_eq (h' := (43, eS 43, eI 1, j0, qE 42)) rfl rfl (p_0 (a := 42) (j := 0) rfl) ?_
  refine s_aload_n (pc' := 10) dX9_init_9 rfl rfl ?_
  refine s_iload_n (pc' := 11) dX9_init_10 rfl rfl ?_
  refine t_putI (pc' := 14) (x := 0) dX9_init_11 rfl (Sh.dy (by decide) (by decide) rfl) (by decide) fa_X9_15_9 (Or.inr ⟨rfl, rfl, rfl⟩) rfl rfl rfl ?_
  refine s_eq (h' := (43, eS 43, eI 1, j0, qE 42)) rfl rfl (p_0 (a := 42) (j := 1) rfl) ?_
  refine s_aload_n (pc' := 15) dX9_init_14 rfl rfl ?_
  refine s_iload_n (pc' := 16) dX9_init_15 rfl rfl ?_
  refine t_putI (pc' := 19) (x := 0) dX9_init_16 rfl (Sh.dy (by decide) (by decide) rfl) (by decide) fa_X9_18_9 (Or.inr ⟨rfl, rfl, rfl⟩) rfl rfl rfl ?_
  refine s_eq (h' := (43, eS 43, eI 1, j0, qE 42)) rfl rfl (p_0 (a := 42) (j := 2) rfl) ?_
  exact s_vret dX9_init_19 rfl (by decide) (by decide) hk
set_option maxHeartbeats 1000000 in
theorem n_X11_init {κ : Option Value → HP → Prop} (hk : κ none (54, eS 54, eI 5, j0, qE 55)) : CT E0 M_X11_init [.ref 0] (1, eS 1, eI 0, j0, qE 0) κ := by
  refine ofSP mk_X11_init (Nat.le_of_ble_eq_true rfl) (L := [.ref 0]) rfl ?_
  refine s_aload_n (pc' := 1) dX11_init_0 rfl rfl ?_
  refine s_objInit (pc' := 4) dX11_init_1 rfl ml_X11_1 (by decide) (by decide) ?_
  refine s_aload_n (pc' := 5) dX11_init_4 rfl rfl ?_
  refine s_new (pc' := 8) (ci := 8) dX11_init_5 rfl (by decide) cl_X11_7 ib_X8 in_X8 (Nat.le_of_ble_eq_true rfl) (Nat.le_of_ble_eq_true rfl) ?_
  refine s_eq (h' := (2, eS 2, eI 0, j0, qE 0)) rfl rfl (p_new (N := 1) rfl (Or.inl (by decide)) (Or.inl (by decide)) (by decide)) ?_
  refine s_dup (pc' := 9) dX11_init_8 rfl rfl ?_
  refine s_callIN (pc' := 12) (As := []) dX11_init_9 rfl mk_X8_init mn_X11_9 im_X8_init rfl rfl rfl rfl ⟨Nat.le_of_ble_eq_true rfl, Nat.le_of_ble_eq_true rfl, Nat.le_of_ble_eq_true rfl, Nat.le_of_ble_eq_true rfl⟩ (Nat.le_of_ble_eq_true rfl) (n_X8_init_1 ?_)
  refine t_putR (pc' := 15) (r := some 1) dX11_init_12 rfl rfl (Sh.dy (by decide) (by decide) rfl) (by decide) fa_X11_10_11 (Or.inr ⟨rfl, rfl, rfl⟩) rfl (fun z => absurd z (Nat.not_lt_zero _)) ?_
  refine s_eq (h' := (12, eS 12, eI 0, j0, qE 11)) rfl rfl (p_ref (k := 10) rfl) ?_
  refine s_aload_n (pc' := 16) dX11_init_15 rfl rfl ?_
  refine s_new (pc' := 19) (ci := 8) dX11_init_16 rfl (by decide) cl_X11_7 ib_X8 in_X8 (Nat.le_of_ble_eq_true rfl) (Nat.le_of_ble_eq_true rfl) ?_
  refine s_eq (h' := (13, eS 13, eI 0, j0, qE 11)) rfl rfl (p_new (N := 12) rfl (Or.inl (by decide)) (Or.inl (by decide)) (by decide)) ?_
  refine s_dup (pc' := 20) dX11_init_19 rfl rfl ?_
  refine s_callIN (pc' := 23) (As := []) dX11_init_20 rfl mk_X8_init mn_X11_9 im_X8_init rfl rfl rfl rfl ⟨Nat.le_of_ble_eq_true rfl, Nat.le_of_ble_eq_true rfl, Nat.le_of_ble_eq_true rfl, Nat.le_of_ble_eq_true rfl⟩ (Nat.le_of_ble_eq_true rfl) (n_X8_init_12 ?_)
  refine t_putR (pc' := 26) (r := some 12) dX11_init_23 rfl rfl (Sh.dy (by decide) (by decide) rfl) (by decide) fa_X11_16_11 (Or.inr ⟨rfl, rfl, rfl⟩) rfl (fun z => absurd z (Nat.not_lt_zero _)) ?_
  refine s_eq (h' := (23, eS 23, eI 0, j0, qE 22)) rfl rfl (p_ref (k := 21) rfl) ?_
  refine s_aload_n (pc' := 27) dX11_init_26 rfl rfl ?_
  refine s_new (pc' := 30) (ci := 1) dX11_init_27 rfl (by decide) cl_X11_19 ib_X1 in_X1 (Nat.le_of_ble_eq_true rfl) (Nat.le_of_ble_eq_true rfl) ?_
  refine s_eq (h' := (24, eS 24, eI 0, j0, qE 22)) rfl rfl (p_new (N := 23) rfl (Or.inr rfl) (Or.inl (by decide)) (by decide)) ?_
  refine s_dup (pc' := 31) dX11_init_30 rfl rfl ?_
  refine s_aload_n (pc' := 32) dX11_init_31 rfl rfl ?_
  refine t_getR (pc' := 35) (b := 1) dX11_init_32 rfl (Sh.dy (by decide) (by decide) rfl) (by decide) fa_X11_10_11 rfl (by decide) ?_
  refine s_callI (pc' := 38) (As := [.ref _]) dX11_init_35 rfl mk_X1_init ml_X11_21 im_X1_init rfl rfl rfl rfl ⟨Nat.le_of_ble_eq_true rfl, Nat.le_of_ble_eq_true rfl, Nat.le_of_ble_eq_true rfl, Nat.le_of_ble_eq_true rfl⟩ (Nat.le_of_ble_eq_true rfl) (n_X1_init_23 ?_)
  refine t_putR (pc' := 41) (r := some 23) dX11_init_38 rfl rfl (Sh.dy (by decide) (by decide) rfl) (by decide) fa_X11_24_11 (Or.inr ⟨rfl, rfl, rfl⟩) rfl (fun z => absurd z (Nat.not_lt_zero _)) ?_
  refine s_eq (h' := (42, eS 42, eI 1, j0, qE 42)) rfl rfl (p_ref (k := 41) rfl) ?_
  refine s_aload_n (pc' := 42) dX11_init_41 rfl rfl ?_
  refine s_iconst (pc' := 43) (v := 0) dX11_init_42 rfl (by decide) ?_
  refine t_putI (pc' := 46) (x := 0) dX11_init_43 rfl (Sh.dy (by decide) (by decide) rfl) (by decide) fa_X11_28_11 (Or.inl rfl) rfl rfl rfl ?_
  refine s_eq (h' := (42, eS 42, eI 1, j0, qE 42)) rfl rfl (p_0 (a := 0) (j := 3) rfl) ?_
  refine s_aload_n (pc' := 47) dX11_init_46 rfl rfl ?_
  refine s_iconst (pc' := 48) (v := 0) dX11_init_47 rfl (by decide) ?_
  refine t_putI (pc' := 51) (x := 0) dX11_init_48 rfl (Sh.dy (by decide) (by decide) rfl) (by decide) fa_X11_32_11 (Or.inl rfl) rfl rfl rfl ?_
  refine s_eq (h' := (42, eS 42, eI 1, j0, qE 42)) rfl rfl (p_0 (a := 0) (j := 4) rfl) ?_
  refine s_aload_n (pc' := 52) dX11_init_51 rfl rfl ?_
  refine s_iconst (pc' := 53) (v := 0) dX11_init_52 rfl (by decide) ?_
  refine t_putI (pc' := 56) (x := 0) dX11_init_53 rfl (Sh.dy (by decide) (by decide) rfl) (by decide) fa_X11_36_11 (Or.inl rfl) rfl rfl rfl ?_
  refine s_eq (h' := (42, eS 42, eI 1, j0, qE 42)) rfl rfl (p_0 (a := 0) (j := 5) rfl) ?_
  refine s_aload_n (pc' := 57) dX11_init_56 rfl rfl ?_
  refine s_new (pc' := 60) (ci := 9) dX11_init_57 rfl (by decide) cl_X11_39 ib_X9 in_X9 (Nat.le_of_ble_eq_true rfl) (Nat.le_of_ble_eq_true rfl) ?_
  refine s_eq (h' := (43, eS 43, eI 1, j0, qE 42)) rfl rfl (p_new (N := 42) rfl (Or.inl (by decide)) (Or.inl (by decide)) (by decide)) ?_
  refine s_dup (pc' := 61) dX11_init_60 rfl rfl ?_
  refine s_iconst (pc' := 62) (v := 0) dX11_init_61 rfl (by decide) ?_
  refine s_iconst (pc' := 63) (v := 0) dX11_init_62 rfl (by decide) ?_
  refine s_iconst (pc' := 64) (v := 0) dX11_init_63 rfl (by decide) ?_
  refine s_callI (pc' := 67) (As := [.int _, .int _, .int _]) dX11_init_64 rfl mk_X9_init ml_X11_41 im_X9_init rfl rfl rfl rfl ⟨Nat.le_of_ble_eq_true rfl, Nat.le_of_ble_eq_true rfl, Nat.le_of_ble_eq_true rfl, Nat.le_of_ble_eq_true rfl⟩ (Nat.le_of_ble_eq_true rfl) (n_X9_init_42 ?_)
  refine t_putR (pc' := 70) (r := some 42) dX11_init_67 rfl rfl (Sh.dy (by decide) (by decide) rfl) (by decide) fa_X11_44_11 (Or.inr ⟨rfl, rfl, rfl⟩) rfl (fun z => absurd z (Nat.not_lt_zero _)) ?_
  refine s_eq (h' := (43, eS 43, eI 1, j0, qE 43)) rfl rfl (p_ref (k := 42) rfl) ?_
  refine s_aload_n (pc' := 71) dX11_init_70 rfl rfl ?_
  refine s_aload_n (pc' := 72) dX11_init_71 rfl rfl ?_
  refine t_getR (pc' := 75) (b := 42) dX11_init_72 rfl (Sh.dy (by decide) (by decide) rfl) (by decide) fa_X11_44_11 rfl (by decide) ?_
  refine t_putR (pc' := 78) (r := some 42) dX11_init_75 rfl rfl (Sh.dy (by decide) (by decide) rfl) (by decide) fa_X11_48_11 (Or.inl rfl) rfl (fun z => absurd z (Nat.not_lt_zero _)) ?_
  refine s_eq (h' := (43, eS 43, eI 1, j0, qE 44)) rfl rfl (p_ref (k := 43) rfl) ?_
  refine s_aload_n (pc' := 79) dX11_init_78 rfl rfl ?_
  refine s_bipush (pc' := 81) (v := 10) dX11_init_79 rfl (by decide) ?_
  refine s_newI (pc' := 83) (n := 10) dX11_init_81 rfl rfl (by decide) (Nat.le_of_ble_eq_true rfl) (Nat.le_of_ble_eq_true rfl) ?_
  refine s_eq (h' := (44, eS 44, eI 1, j0, qE 44)) rfl rfl (p_I (N := 43) rfl (Or.inl (by decide)) (Or.inl (by decide))) ?_
  refine t_putR (pc' := 86) (r := some 43) dX11_init_83 rfl rfl (Sh.dy (by decide) (by decide) rfl) (by decide) fa_X11_51_11 (Or.inr ⟨rfl, rfl, rfl⟩) rfl (fun z => absurd z (Nat.not_lt_zero _)) ?_
  refine s_eq (h' := (44, eS 44, eI 1, j0, qE 45)) rfl rfl (p_ref (k := 44) rfl) ?_
  refine s_aload_n (pc' := 87) dX11_init_86 rfl rfl ?_
  refine s_bipush (pc' := 89) (v := 10) dX11_init_87 rfl (by decide) ?_
  refine s_newI (pc' := 91) (n := 10) dX11_init_89 rfl rfl (by decide) (Nat.le_of_ble_eq_true rfl) (Nat.le_of_ble_eq_true rfl) ?_
  refine s_eq (h' := (45, eS 45, eI 1, j0, qE 45)) rfl rfl (p_I (N := 44) rfl (Or.inl (by decide)) (Or.inl (by decide))) ?_
  refine t_putR (pc' := 94) (r := some 44) dX11_init_91 rfl rfl (Sh.dy (by decide) (by decide) rfl) (by decide) fa_X11_55_11 (Or.inr ⟨rfl, rfl, rfl⟩) rfl (fun z => absurd z (Nat.not_lt_zero _)) ?_
  refine s_eq (h' := (45, eS 45, eI 1, j0, qE 46)) rfl rfl (p_ref (k := 45) rfl) ?_
  refine s_aload_n (pc' := 95) dX11_init_94 rfl rfl ?_
  refine s_iconst (pc' := 96) (v := 0) dX11_init_95 rfl (by decide) ?_
  refine t_putI (pc' := 99) (x := 0) dX11_init_96 rfl (Sh.dy (by decide) (by decide) rfl) (by decide) fa_X11_58_11 (Or.inl rfl) rfl rfl rfl ?_
  refine s_eq (h' := (45, eS 45, eI 1, j0, qE 46)) rfl rfl (p_0 (a := 0) (j := 10) rfl) ?_
  refine s_aload_n (pc' := 100) dX11_init_99 rfl rfl ?_
  refine s_bipush (pc' := 102) (v := 51) dX11_init_100 rfl (by decide) ?_
  refine s_newI (pc' := 104) (n := 51) dX11_init_102 rfl rfl (by decide) (Nat.le_of_ble_eq_true rfl) (Nat.le_of_ble_eq_true rfl) ?_
  refine s_eq (h' := (46, eS 46, eI 1, j0, qE 46)) rfl rfl (p_I (N := 45) rfl (Or.inl (by decide)) (Or.inl (by decide))) ?_
  refine t_putR (pc' := 107) (r := some 45) dX11_init_104 rfl rfl (Sh.dy (by decide) (by decide) rfl) (by decide) fa_X11_61_11 (Or.inr ⟨rfl, rfl, rfl⟩) rfl (fun z => absurd z (Nat.not_lt_zero _)) ?_
  refine s_eq (h' := (46, eS 46, eI 1, j0, qE 47)) rfl rfl (p_ref (k := 46) rfl) ?_
  refine s_aload_n (pc' := 108) dX11_init_107 rfl rfl ?_
  refine s_iconst (pc' := 109) (v := 4) dX11_init_108 rfl (by decide) ?_
  refine s_bipush (pc' := 111) (v := 40) dX11_init_109 rfl (by decide) ?_
  refine s_multi (pc' := 115) dX11_init_111 rfl cl_multi (Nat.le_of_ble_eq_true rfl) (Nat.le_of_ble_eq_true rfl) ?_
  refine s_eq (h' := (51, eS 51, eI 1, j0, qE 51)) rfl rfl (p_multi (k := 47) (by decide) rfl rfl rfl rfl) ?_
  refine t_putR (pc' := 118) (r := some 46) dX11_init_115 rfl rfl (Sh.dy (by decide) (by decide) rfl) (by decide) fa_X11_66_11 (Or.inr ⟨rfl, rfl, rfl⟩) rfl (fun z => absurd z (Nat.not_lt_zero _)) ?_
  refine s_eq (h' := (51, eS 51, eI 1, j0, qE 52)) rfl rfl (p_ref (k := 51) rfl) ?_
  refine s_aload_n (pc' := 119) dX11_init_118 rfl rfl ?_
  refine s_iconst (pc' := 120) (v := 4) dX11_init_119 rfl (by decide) ?_
  refine s_newI (pc' := 122) (n := 4) dX11_init_120 rfl rfl (by decide) (Nat.le_of_ble_eq_true rfl) (Nat.le_of_ble_eq_true rfl) ?_
  refine s_eq (h' := (52, eS 52, eI 1, j0, qE 52)) rfl rfl (p_I (N := 51) rfl (Or.inl (by decide)) (Or.inr (by decide))) ?_
  refine s_dup (pc' := 123) dX11_init_122 rfl rfl ?_
  refine s_iconst (pc' := 124) (v := 0) dX11_init_123 rfl (by decide) ?_
  refine s_iconst (pc' := 125) (v := -1) dX11_init_124 rfl (by decide) ?_
  refine t_iast (pc' := 126) (q := 0) dX11_init_125 rfl (Sh.dy (by decide) (by decide) rfl) rfl (by decide) ?_
  refine s_eq (h' := (52, eS 52, eI 2, j0, qE 52)) rfl rfl (p_51 (t := 1) (by decide)) ?_
  refine s_dup (pc' := 127) dX11_init_126 rfl rfl ?_
  refine s_iconst (pc' := 128) (v := 1) dX11_init_127 rfl (by decide) ?_
  refine s_iconst (pc' := 129) (v := -1) dX11_init_128 rfl (by decide) ?_
  refine t_iast (pc' := 130) (q := 1) dX11_init_129 rfl (Sh.dy (by decide) (by decide) rfl) rfl (by decide) ?_
  refine s_eq (h' := (52, eS 52, eI 3, j0, qE 52)) rfl rfl (p_51 (t := 2) (by decide)) ?_
  refine s_dup (pc' := 131) dX11_init_130 rfl rfl ?_
  refine s_iconst (pc' := 132) (v := 2) dX11_init_131 rfl (by decide) ?_
  refine s_iconst (pc' := 133) (v := -1) dX11_init_132 rfl (by decide) ?_
  refine t_iast (pc' := 134) (q := 2) dX11_init_133 rfl (Sh.dy (by decide) (by decide) rfl) rfl (by decide) ?_
  refine s_eq (h' := (52, eS 52, eI 4, j0, qE 52)) rfl rfl (p_51 (t := 3) (by decide)) ?_
  refine s_dup (pc' := 135) dX11_init_134 rfl rfl ?_
  refine s_iconst (pc' := 136) (v := 3) dX11_init_135 rfl (by decide) ?_
  refine s_iconst (pc' := 137) (v := -1) dX11_init_136 rfl (by decide) ?_
  refine t_iast (pc' := 138) (q := 3) dX11_init_137 rfl (Sh.dy (by decide) (by decide) rfl) rfl (by decide) ?_
  refine s_eq (h' := (52, eS 52, eI 5, j0, qE 52)) rfl rfl (p_51 (t := 4) (by decide)) ?_
  refine t_putR (pc' := 141) (r := some 51) dX11_init_138 rfl rfl (Sh.dy (by decide) (by decide) rfl) (by decide) fa_X11_69_11 (Or.inr ⟨rfl, rfl, rfl⟩) rfl (fun z => absurd z (Nat.not_lt_zero _)) ?_
  refine s_eq (h' := (52, eS 52, eI 5, j0, qE 53)) rfl rfl (p_ref (k := 52) rfl) ?_
  refine s_aload_n (pc' := 142) dX11_init_141 rfl rfl ?_
  refine s_iconst (pc' := 143) (v := 4) dX11_init_142 rfl (by decide) ?_
  refine s_newI (pc' := 145) (n := 4) dX11_init_143 rfl rfl (by decide) (Nat.le_of_ble_eq_true rfl) (Nat.le_of_ble_eq_true rfl) ?_
  refine s_eq (h' := (53, eS 53, eI 5, j0, qE 53)) rfl rfl (p_I (N := 52) rfl (Or.inl (by decide)) (Or.inl (by decide))) ?_
  refine t_putR (pc' := 148) (r := some 52) dX11_init_145 rfl rfl (Sh.dy (by decide) (by decide) rfl) (by decide) fa_X11_72_11 (Or.inr ⟨rfl, rfl, rfl⟩) rfl (fun z => absurd z (Nat.not_lt_zero _)) ?_
  refine s_eq (h' := (53, eS 53, eI 5, j0, qE 54)) rfl rfl (p_ref (k := 53) rfl) ?_
  refine s_aload_n (pc' := 149) dX11_init_148 rfl rfl ?_
  refine s_bipush (pc' := 151) (v := 61) dX11_init_149 rfl (by decide) ?_
  refine s_newJ (pc' := 153) (n := 61) dX11_init_151 rfl rfl (by decide) (Nat.le_of_ble_eq_true rfl) (Nat.le_of_ble_eq_true rfl) ?_
  refine s_eq (h' := (54, eS 54, eI 5, j0, qE 54)) rfl rfl (p_J (N := 53) rfl) ?_
  refine t_putR (pc' := 156) (r := some 53) dX11_init_153 rfl rfl (Sh.dy (by decide) (by decide) rfl) (by decide) fa_X11_75_11 (Or.inr ⟨rfl, rfl, rfl⟩) rfl (fun z => absurd z (Nat.not_lt_zero _)) ?_
  refine s_eq (h' := (54, eS 54, eI 5, j0, qE 55)) rfl rfl (p_ref (k := 54) rfl) ?_
  exact s_vret dX11_init_156 rfl (by decide) (by decide) hk
set_option maxHeartbeats 1000000 in
theorem n_X12_init {κ : Option Value → HP → Prop} (hk : κ none (94, eS 94, eI 5, j0, qE 94)) : CT E0 M_X12_init [.ref 54] (55, eS 55, eI 5, j0, qE 55) κ := by
  refine ofSP mk_X12_init (Nat.le_of_ble_eq_true rfl) (L := [.ref 54]) rfl ?_
  refine s_aload_n (pc' := 1) dX12_init_0 rfl rfl ?_
  refine s_objInit (pc' := 4) dX12_init_1 rfl ml_X12_1 (by decide) (by decide) ?_
  refine s_aload_n (pc' := 5) dX12_init_4 rfl rfl ?_
  refine s_bipush (pc' := 7) (v := 10) dX12_init_5 rfl (by decide) ?_
  refine s_newI (pc' := 9) (n := 10) dX12_init_7 rfl rfl (by decide) (Nat.le_of_ble_eq_true rfl) (Nat.le_of_ble_eq_true rfl) ?_
  refine s_eq (h' := (56, eS 56, eI 5, j0, qE 55)) rfl rfl (p_I (N := 55) rfl (Or.inl (by decide)) (Or.inl (by decide))) ?_
  refine t_putR (pc' := 12) (r := some 55) dX12_init_9 rfl rfl (Sh.dy (by decide) (by decide) rfl) (by decide) fa_X12_7_12 (Or.inr ⟨rfl, rfl, rfl⟩) rfl (fun z => absurd z (Nat.not_lt_zero _)) ?_
  refine s_eq (h' := (56, eS 56, eI 5, j0, qE 56)) rfl rfl (p_ref (k := 55) rfl) ?_
  refine s_aload_n (pc' := 13) dX12_init_12 rfl rfl ?_
  refine s_bipush (pc' := 15) (v := 10) dX12_init_13 rfl (by decide) ?_
  refine s_newI (pc' := 17) (n := 10) dX12_init_15 rfl rfl (by decide) (Nat.le_of_ble_eq_true rfl) (Nat.le_of_ble_eq_true rfl) ?_
  refine s_eq (h' := (57, eS 57, eI 5, j0, qE 56)) rfl rfl (p_I (N := 56) rfl (Or.inl (by decide)) (Or.inl (by decide))) ?_
  refine t_putR (pc' := 20) (r := some 56) dX12_init_17 rfl rfl (Sh.dy (by decide) (by decide) rfl) (by decide) fa_X12_13_12 (Or.inr ⟨rfl, rfl, rfl⟩) rfl (fun z => absurd z (Nat.not_lt_zero _)) ?_
  refine s_eq (h' := (57, eS 57, eI 5, j0, qE 57)) rfl rfl (p_ref (k := 56) rfl) ?_
  refine s_aload_n (pc' := 21) dX12_init_20 rfl rfl ?_
  refine s_bipush (pc' := 23) (v := 10) dX12_init_21 rfl (by decide) ?_
  refine s_newI (pc' := 25) (n := 10) dX12_init_23 rfl rfl (by decide) (Nat.le_of_ble_eq_true rfl) (Nat.le_of_ble_eq_true rfl) ?_
  refine s_eq (h' := (58, eS 58, eI 5, j0, qE 57)) rfl rfl (p_I (N := 57) rfl (Or.inl (by decide)) (Or.inl (by decide))) ?_
  refine t_putR (pc' := 28) (r := some 57) dX12_init_25 rfl rfl (Sh.dy (by decide) (by decide) rfl) (by decide) fa_X12_16_12 (Or.inr ⟨rfl, rfl, rfl⟩) rfl (fun z => absurd z (Nat.not_lt_zero _)) ?_
  refine s_eq (h' := (58, eS 58, eI 5, j0, qE 58)) rfl rfl (p_ref (k := 57) rfl) ?_
  refine s_aload_n (pc' := 29) dX12_init_28 rfl rfl ?_
  refine s_bipush (pc' := 31) (v := 10) dX12_init_29 rfl (by decide) ?_
  refine s_newI (pc' := 33) (n := 10) dX12_init_31 rfl rfl (by decide) (Nat.le_of_ble_eq_true rfl) (Nat.le_of_ble_eq_true rfl) ?_
  refine s_eq (h' := (59, eS 59, eI 5, j0, qE 58)) rfl rfl (p_I (N := 58) rfl (Or.inl (by decide)) (Or.inl (by decide))) ?_
  refine t_putR (pc' := 36) (r := some 58) dX12_init_33 rfl rfl (Sh.dy (by decide) (by decide) rfl) (by decide) fa_X12_19_12 (Or.inr ⟨rfl, rfl, rfl⟩) rfl (fun z => absurd z (Nat.not_lt_zero _)) ?_
  refine s_eq (h' := (59, eS 59, eI 5, j0, qE 59)) rfl rfl (p_ref (k := 58) rfl) ?_
  refine s_aload_n (pc' := 37) dX12_init_36 rfl rfl ?_
  refine s_bipush (pc' := 39) (v := 10) dX12_init_37 rfl (by decide) ?_
  refine s_newI (pc' := 41) (n := 10) dX12_init_39 rfl rfl (by decide) (Nat.le_of_ble_eq_true rfl) (Nat.le_of_ble_eq_true rfl) ?_
  refine s_eq (h' := (60, eS 60, eI 5, j0, qE 59)) rfl rfl (p_I (N := 59) rfl (Or.inl (by decide)) (Or.inl (by decide))) ?_
  refine t_putR (pc' := 44) (r := some 59) dX12_init_41 rfl rfl (Sh.dy (by decide) (by decide) rfl) (by decide) fa_X12_22_12 (Or.inr ⟨rfl, rfl, rfl⟩) rfl (fun z => absurd z (Nat.not_lt_zero _)) ?_
  refine s_eq (h' := (60, eS 60, eI 5, j0, qE 60)) rfl rfl (p_ref (k := 59) rfl) ?_
  refine s_aload_n (pc' := 45) dX12_init_44 rfl rfl ?_
  refine s_bipush (pc' := 47) (v := 30) dX12_init_45 rfl (by decide) ?_
  refine s_newI (pc' := 49) (n := 30) dX12_init_47 rfl rfl (by decide) (Nat.le_of_ble_eq_true rfl) (Nat.le_of_ble_eq_true rfl) ?_
  refine s_eq (h' := (61, eS 61, eI 5, j0, qE 60)) rfl rfl (p_I (N := 60) rfl (Or.inl (by decide)) (Or.inl (by decide))) ?_
  refine t_putR (pc' := 52) (r := some 60) dX12_init_49 rfl rfl (Sh.dy (by decide) (by decide) rfl) (by decide) fa_X12_25_12 (Or.inr ⟨rfl, rfl, rfl⟩) rfl (fun z => absurd z (Nat.not_lt_zero _)) ?_
  refine s_eq (h' := (61, eS 61, eI 5, j0, qE 61)) rfl rfl (p_ref (k := 60) rfl) ?_
  refine s_aload_n (pc' := 53) dX12_init_52 rfl rfl ?_
  refine s_bipush (pc' := 55) (v := 30) dX12_init_53 rfl (by decide) ?_
  refine s_newI (pc' := 57) (n := 30) dX12_init_55 rfl rfl (by decide) (Nat.le_of_ble_eq_true rfl) (Nat.le_of_ble_eq_true rfl) ?_
  refine s_eq (h' := (62, eS 62, eI 5, j0, qE 61)) rfl rfl (p_I (N := 61) rfl (Or.inl (by decide)) (Or.inl (by decide))) ?_
  refine t_putR (pc' := 60) (r := some 61) dX12_init_57 rfl rfl (Sh.dy (by decide) (by decide) rfl) (by decide) fa_X12_28_12 (Or.inr ⟨rfl, rfl, rfl⟩) rfl (fun z => absurd z (Nat.not_lt_zero _)) ?_
  refine s_eq (h' := (62, eS 62, eI 5, j0, qE 62)) rfl rfl (p_ref (k := 61) rfl) ?_
  refine s_aload_n (pc' := 61) dX12_init_60 rfl rfl ?_
  refine s_bipush (pc' := 63) (v := 30) dX12_init_61 rfl (by decide) ?_
  refine s_newI (pc' := 65) (n := 30) dX12_init_63 rfl rfl (by decide) (Nat.le_of_ble_eq_true rfl) (Nat.le_of_ble_eq_true rfl) ?_
  refine s_eq (h' := (63, eS 63, eI 5, j0, qE 62)) rfl rfl (p_I (N := 62) rfl (Or.inl (by decide)) (Or.inl (by decide))) ?_
  refine t_putR (pc' := 68) (r := some 62) dX12_init_65 rfl rfl (Sh.dy (by decide) (by decide) rfl) (by decide) fa_X12_31_12 (Or.inr ⟨rfl, rfl, rfl⟩) rfl (fun z => absurd z (Nat.not_lt_zero _)) ?_
  refine s_eq (h' := (63, eS 63, eI 5, j0, qE 63)) rfl rfl (p_ref (k := 62) rfl) ?_
  refine s_aload_n (pc' := 69) dX12_init_68 rfl rfl ?_
  refine s_bipush (pc' := 71) (v := 30) dX12_init_69 rfl (by decide) ?_
  refine s_newI (pc' := 73) (n := 30) dX12_init_71 rfl rfl (by decide) (Nat.le_of_ble_eq_true rfl) (Nat.le_of_ble_eq_true rfl) ?_
  refine s_eq (h' := (64, eS 64, eI 5, j0, qE 63)) rfl rfl (p_I (N := 63) rfl (Or.inl (by decide)) (Or.inl (by decide))) ?_
  refine t_putR (pc' := 76) (r := some 63) dX12_init_73 rfl rfl (Sh.dy (by decide) (by decide) rfl) (by decide) fa_X12_34_12 (Or.inr ⟨rfl, rfl, rfl⟩) rfl (fun z => absurd z (Nat.not_lt_zero _)) ?_
  refine s_eq (h' := (64, eS 64, eI 5, j0, qE 64)) rfl rfl (p_ref (k := 63) rfl) ?_
  refine s_aload_n (pc' := 77) dX12_init_76 rfl rfl ?_
  refine s_bipush (pc' := 79) (v := 30) dX12_init_77 rfl (by decide) ?_
  refine s_newI (pc' := 81) (n := 30) dX12_init_79 rfl rfl (by decide) (Nat.le_of_ble_eq_true rfl) (Nat.le_of_ble_eq_true rfl) ?_
  refine s_eq (h' := (65, eS 65, eI 5, j0, qE 64)) rfl rfl (p_I (N := 64) rfl (Or.inl (by decide)) (Or.inl (by decide))) ?_
  refine t_putR (pc' := 84) (r := some 64) dX12_init_81 rfl rfl (Sh.dy (by decide) (by decide) rfl) (by decide) fa_X12_37_12 (Or.inr ⟨rfl, rfl, rfl⟩) rfl (fun z => absurd z (Nat.not_lt_zero _)) ?_
  refine s_eq (h' := (65, eS 65, eI 5, j0, qE 65)) rfl rfl (p_ref (k := 64) rfl) ?_
  refine s_aload_n (pc' := 85) dX12_init_84 rfl rfl ?_
  refine s_bipush (pc' := 87) (v := 30) dX12_init_85 rfl (by decide) ?_
  refine s_newI (pc' := 89) (n := 30) dX12_init_87 rfl rfl (by decide) (Nat.le_of_ble_eq_true rfl) (Nat.le_of_ble_eq_true rfl) ?_
  refine s_eq (h' := (66, eS 66, eI 5, j0, qE 65)) rfl rfl (p_I (N := 65) rfl (Or.inl (by decide)) (Or.inl (by decide))) ?_
  refine t_putR (pc' := 92) (r := some 65) dX12_init_89 rfl rfl (Sh.dy (by decide) (by decide) rfl) (by decide) fa_X12_40_12 (Or.inr ⟨rfl, rfl, rfl⟩) rfl (fun z => absurd z (Nat.not_lt_zero _)) ?_
  refine s_eq (h' := (66, eS 66, eI 5, j0, qE 66)) rfl rfl (p_ref (k := 65) rfl) ?_
  refine s_aload_n (pc' := 93) dX12_init_92 rfl rfl ?_
  refine s_bipush (pc' := 95) (v := 30) dX12_init_93 rfl (by decide) ?_
  refine s_newI (pc' := 97) (n := 30) dX12_init_95 rfl rfl (by decide) (Nat.le_of_ble_eq_true rfl) (Nat.le_of_ble_eq_true rfl) ?_
  refine s_eq (h' := (67, eS 67, eI 5, j0, qE 66)) rfl rfl (p_I (N := 66) rfl (Or.inl (by decide)) (Or.inl (by decide))) ?_
  refine t_putR (pc' := 100) (r := some 66) dX12_init_97 rfl rfl (Sh.dy (by decide) (by decide) rfl) (by decide) fa_X12_43_12 (Or.inr ⟨rfl, rfl, rfl⟩) rfl (fun z => absurd z (Nat.not_lt_zero _)) ?_
  refine s_eq (h' := (67, eS 67, eI 5, j0, qE 67)) rfl rfl (p_ref (k := 66) rfl) ?_
  refine s_aload_n (pc' := 101) dX12_init_100 rfl rfl ?_
  refine s_bipush (pc' := 103) (v := 30) dX12_init_101 rfl (by decide) ?_
  refine s_newI (pc' := 105) (n := 30) dX12_init_103 rfl rfl (by decide) (Nat.le_of_ble_eq_true rfl) (Nat.le_of_ble_eq_true rfl) ?_
  refine s_eq (h' := (68, eS 68, eI 5, j0, qE 67)) rfl rfl (p_I (N := 67) rfl (Or.inl (by decide)) (Or.inl (by decide))) ?_
  refine t_putR (pc' := 108) (r := some 67) dX12_init_105 rfl rfl (Sh.dy (by decide) (by decide) rfl) (by decide) fa_X12_46_12 (Or.inr ⟨rfl, rfl, rfl⟩) rfl (fun z => absurd z (Nat.not_lt_zero _)) ?_
  refine s_eq (h' := (68, eS 68, eI 5, j0, qE 68)) rfl rfl (p_ref (k := 67) rfl) ?_
  refine s_aload_n (pc' := 109) dX12_init_108 rfl rfl ?_
  refine s_bipush (pc' := 111) (v := 30) dX12_init_109 rfl (by decide) ?_
  refine s_newI (pc' := 113) (n := 30) dX12_init_111 rfl rfl (by decide) (Nat.le_of_ble_eq_true rfl) (Nat.le_of_ble_eq_true rfl) ?_
  refine s_eq (h' := (69, eS 69, eI 5, j0, qE 68)) rfl rfl (p_I (N := 68) rfl (Or.inl (by decide)) (Or.inl (by decide))) ?_
  refine t_putR (pc' := 116) (r := some 68) dX12_init_113 rfl rfl (Sh.dy (by decide) (by decide) rfl) (by decide) fa_X12_49_12 (Or.inr ⟨rfl, rfl, rfl⟩) rfl (fun z => absurd z (Nat.not_lt_zero _)) ?_
  refine s_eq (h' := (69, eS 69, eI 5, j0, qE 69)) rfl rfl (p_ref (k := 68) rfl) ?_
  refine s_aload_n (pc' := 117) dX12_init_116 rfl rfl ?_
  refine s_bipush (pc' := 119) (v := 30) dX12_init_117 rfl (by decide) ?_
  refine s_newI (pc' := 121) (n := 30) dX12_init_119 rfl rfl (by decide) (Nat.le_of_ble_eq_true rfl) (Nat.le_of_ble_eq_true rfl) ?_
  refine s_eq (h' := (70, eS 70, eI 5, j0, qE 69)) rfl rfl (p_I (N := 69) rfl (Or.inl (by decide)) (Or.inl (by decide))) ?_
  refine t_putR (pc' := 124) (r := some 69) dX12_init_121 rfl rfl (Sh.dy (by decide) (by decide) rfl) (by decide) fa_X12_52_12 (Or.inr ⟨rfl, rfl, rfl⟩) rfl (fun z => absurd z (Nat.not_lt_zero _)) ?_
  refine s_eq (h' := (70, eS 70, eI 5, j0, qE 70)) rfl rfl (p_ref (k := 69) rfl) ?_
  refine s_aload_n (pc' := 125) dX12_init_124 rfl rfl ?_
  refine s_bipush (pc' := 127) (v := 30) dX12_init_125 rfl (by decide) ?_
  refine s_newI (pc' := 129) (n := 30) dX12_init_127 rfl rfl (by decide) (Nat.le_of_ble_eq_true rfl) (Nat.le_of_ble_eq_true rfl) ?_
  refine s_eq (h' := (71, eS 71, eI 5, j0, qE 70)) rfl rfl (p_I (N := 70) rfl (Or.inl (by decide)) (Or.inl (by decide))) ?_
  refine t_putR (pc' := 132) (r := some 70) dX12_init_129 rfl rfl (Sh.dy (by decide) (by decide) rfl) (by decide) fa_X12_55_12 (Or.inr ⟨rfl, rfl, rfl⟩) rfl (fun z => absurd z (Nat.not_lt_zero _)) ?_
  refine s_eq (h' := (71, eS 71, eI 5, j0, qE 71)) rfl rfl (p_ref (k := 70) rfl) ?_
  refine s_aload_n (pc' := 133) dX12_init_132 rfl rfl ?_
  refine s_bipush (pc' := 135) (v := 30) dX12_init_133 rfl (by decide) ?_
  refine s_newI (pc' := 137) (n := 30) dX12_init_135 rfl rfl (by decide) (Nat.le_of_ble_eq_true rfl) (Nat.le_of_ble_eq_true rfl) ?_
  refine s_eq (h' := (72, eS 72, eI 5, j0, qE 71)) rfl rfl (p_I (N := 71) rfl (Or.inl (by decide)) (Or.inl (by decide))) ?_
  refine t_putR (pc' := 140) (r := some 71) dX12_init_137 rfl rfl (Sh.dy (by decide) (by decide) rfl) (by decide) fa_X12_58_12 (Or.inr ⟨rfl, rfl, rfl⟩) rfl (fun z => absurd z (Nat.not_lt_zero _)) ?_
  refine s_eq (h' := (72, eS 72, eI 5, j0, qE 72)) rfl rfl (p_ref (k := 71) rfl) ?_
  refine s_aload_n (pc' := 141) dX12_init_140 rfl rfl ?_
  refine s_bipush (pc' := 143) (v := 10) dX12_init_141 rfl (by decide) ?_
  refine s_newI (pc' := 145) (n := 10) dX12_init_143 rfl rfl (by decide) (Nat.le_of_ble_eq_true rfl) (Nat.le_of_ble_eq_true rfl) ?_
  refine s_eq (h' := (73, eS 73, eI 5, j0, qE 72)) rfl rfl (p_I (N := 72) rfl (Or.inl (by decide)) (Or.inl (by decide))) ?_
  refine t_putR (pc' := 148) (r := some 72) dX12_init_145 rfl rfl (Sh.dy (by decide) (by decide) rfl) (by decide) fa_X12_61_12 (Or.inr ⟨rfl, rfl, rfl⟩) rfl (fun z => absurd z (Nat.not_lt_zero _)) ?_
  refine s_eq (h' := (73, eS 73, eI 5, j0, qE 73)) rfl rfl (p_ref (k := 72) rfl) ?_
  refine s_aload_n (pc' := 149) dX12_init_148 rfl rfl ?_
  refine s_bipush (pc' := 151) (v := 10) dX12_init_149 rfl (by decide) ?_
  refine s_newI (pc' := 153) (n := 10) dX12_init_151 rfl rfl (by decide) (Nat.le_of_ble_eq_true rfl) (Nat.le_of_ble_eq_true rfl) ?_
  refine s_eq (h' := (74, eS 74, eI 5, j0, qE 73)) rfl rfl (p_I (N := 73) rfl (Or.inl (by decide)) (Or.inl (by decide))) ?_
  refine t_putR (pc' := 156) (r := some 73) dX12_init_153 rfl rfl (Sh.dy (by decide) (by decide) rfl) (by decide) fa_X12_64_12 (Or.inr ⟨rfl, rfl, rfl⟩) rfl (fun z => absurd z (Nat.not_lt_zero _)) ?_
  refine s_eq (h' := (74, eS 74, eI 5, j0, qE 74)) rfl rfl (p_ref (k := 73) rfl) ?_
  refine s_aload_n (pc' := 157) dX12_init_156 rfl rfl ?_
  refine s_bipush (pc' := 159) (v := 10) dX12_init_157 rfl (by decide) ?_
  refine s_newI (pc' := 161) (n := 10) dX12_init_159 rfl rfl (by decide) (Nat.le_of_ble_eq_true rfl) (Nat.le_of_ble_eq_true rfl) ?_
  refine s_eq (h' := (75, eS 75, eI 5, j0, qE 74)) rfl rfl (p_I (N := 74) rfl (Or.inl (by decide)) (Or.inl (by decide))) ?_
  refine t_putR (pc' := 164) (r := some 74) dX12_init_161 rfl rfl (Sh.dy (by decide) (by decide) rfl) (by decide) fa_X12_67_12 (Or.inr ⟨rfl, rfl, rfl⟩) rfl (fun z => absurd z (Nat.not_lt_zero _)) ?_
  refine s_eq (h' := (75, eS 75, eI 5, j0, qE 75)) rfl rfl (p_ref (k := 74) rfl) ?_
  refine s_aload_n (pc' := 165) dX12_init_164 rfl rfl ?_
  refine s_bipush (pc' := 167) (v := 7) dX12_init_165 rfl (by decide) ?_
  refine s_newI (pc' := 169) (n := 7) dX12_init_167 rfl rfl (by decide) (Nat.le_of_ble_eq_true rfl) (Nat.le_of_ble_eq_true rfl) ?_
  refine s_eq (h' := (76, eS 76, eI 5, j0, qE 75)) rfl rfl (p_I (N := 75) rfl (Or.inl (by decide)) (Or.inl (by decide))) ?_
  refine t_putR (pc' := 172) (r := some 75) dX12_init_169 rfl rfl (Sh.dy (by decide) (by decide) rfl) (by decide) fa_X12_70_12 (Or.inr ⟨rfl, rfl, rfl⟩) rfl (fun z => absurd z (Nat.not_lt_zero _)) ?_
  refine s_eq (h' := (76, eS 76, eI 5, j0, qE 76)) rfl rfl (p_ref (k := 75) rfl) ?_
  refine s_aload_n (pc' := 173) dX12_init_172 rfl rfl ?_
  refine s_sipush (pc' := 176) (v := 450) dX12_init_173 rfl (by decide) ?_
  refine s_newI (pc' := 178) (n := 450) dX12_init_176 rfl rfl (by decide) (Nat.le_of_ble_eq_true rfl) (Nat.le_of_ble_eq_true rfl) ?_
  refine s_eq (h' := (77, eS 77, eI 5, j0, qE 76)) rfl rfl (p_I (N := 76) rfl (Or.inl (by decide)) (Or.inl (by decide))) ?_
  refine t_putR (pc' := 181) (r := some 76) dX12_init_178 rfl rfl (Sh.dy (by decide) (by decide) rfl) (by decide) fa_X12_73_12 (Or.inr ⟨rfl, rfl, rfl⟩) rfl (fun z => absurd z (Nat.not_lt_zero _)) ?_
  refine s_eq (h' := (77, eS 77, eI 5, j0, qE 77)) rfl rfl (p_ref (k := 76) rfl) ?_
  refine s_aload_n (pc' := 182) dX12_init_181 rfl rfl ?_
  refine s_bipush (pc' := 184) (v := 10) dX12_init_182 rfl (by decide) ?_
  refine s_newI (pc' := 186) (n := 10) dX12_init_184 rfl rfl (by decide) (Nat.le_of_ble_eq_true rfl) (Nat.le_of_ble_eq_true rfl) ?_
  refine s_eq (h' := (78, eS 78, eI 5, j0, qE 77)) rfl rfl (p_I (N := 77) rfl (Or.inl (by decide)) (Or.inl (by decide))) ?_
  refine t_putR (pc' := 189) (r := some 77) dX12_init_186 rfl rfl (Sh.dy (by decide) (by decide) rfl) (by decide) fa_X12_76_12 (Or.inr ⟨rfl, rfl, rfl⟩) rfl (fun z => absurd z (Nat.not_lt_zero _)) ?_
  refine s_eq (h' := (78, eS 78, eI 5, j0, qE 78)) rfl rfl (p_ref (k := 77) rfl) ?_
  refine s_aload_n (pc' := 190) dX12_init_189 rfl rfl ?_
  refine s_bipush (pc' := 192) (v := 10) dX12_init_190 rfl (by decide) ?_
  refine s_newI (pc' := 194) (n := 10) dX12_init_192 rfl rfl (by decide) (Nat.le_of_ble_eq_true rfl) (Nat.le_of_ble_eq_true rfl) ?_
  refine s_eq (h' := (79, eS 79, eI 5, j0, qE 78)) rfl rfl (p_I (N := 78) rfl (Or.inl (by decide)) (Or.inl (by decide))) ?_
  refine t_putR (pc' := 197) (r := some 78) dX12_init_194 rfl rfl (Sh.dy (by decide) (by decide) rfl) (by decide) fa_X12_79_12 (Or.inr ⟨rfl, rfl, rfl⟩) rfl (fun z => absurd z (Nat.not_lt_zero _)) ?_
  refine s_eq (h' := (79, eS 79, eI 5, j0, qE 79)) rfl rfl (p_ref (k := 78) rfl) ?_
  refine s_aload_n (pc' := 198) dX12_init_197 rfl rfl ?_
  refine s_bipush (pc' := 200) (v := 10) dX12_init_198 rfl (by decide) ?_
  refine s_newI (pc' := 202) (n := 10) dX12_init_200 rfl rfl (by decide) (Nat.le_of_ble_eq_true rfl) (Nat.le_of_ble_eq_true rfl) ?_
  refine s_eq (h' := (80, eS 80, eI 5, j0, qE 79)) rfl rfl (p_I (N := 79) rfl (Or.inl (by decide)) (Or.inl (by decide))) ?_
  refine t_putR (pc' := 205) (r := some 79) dX12_init_202 rfl rfl (Sh.dy (by decide) (by decide) rfl) (by decide) fa_X12_82_12 (Or.inr ⟨rfl, rfl, rfl⟩) rfl (fun z => absurd z (Nat.not_lt_zero _)) ?_
  refine s_eq (h' := (80, eS 80, eI 5, j0, qE 80)) rfl rfl (p_ref (k := 79) rfl) ?_
  refine s_aload_n (pc' := 206) dX12_init_205 rfl rfl ?_
  refine s_sipush (pc' := 209) (v := 2560) dX12_init_206 rfl (by decide) ?_
  refine s_newJ (pc' := 211) (n := 2560) dX12_init_209 rfl rfl (by decide) (Nat.le_of_ble_eq_true rfl) (Nat.le_of_ble_eq_true rfl) ?_
  refine s_eq (h' := (81, eS 81, eI 5, j0, qE 80)) rfl rfl (p_J (N := 80) rfl) ?_
  refine t_putR (pc' := 214) (r := some 80) dX12_init_211 rfl rfl (Sh.dy (by decide) (by decide) rfl) (by decide) fa_X12_85_12 (Or.inr ⟨rfl, rfl, rfl⟩) rfl (fun z => absurd z (Nat.not_lt_zero _)) ?_
  refine s_eq (h' := (81, eS 81, eI 5, j0, qE 81)) rfl rfl (p_ref (k := 80) rfl) ?_
  refine s_aload_n (pc' := 215) dX12_init_214 rfl rfl ?_
  refine s_sipush (pc' := 218) (v := 256) dX12_init_215 rfl (by decide) ?_
  refine s_newI (pc' := 220) (n := 256) dX12_init_218 rfl rfl (by decide) (Nat.le_of_ble_eq_true rfl) (Nat.le_of_ble_eq_true rfl) ?_
  refine s_eq (h' := (82, eS 82, eI 5, j0, qE 81)) rfl rfl (p_I (N := 81) rfl (Or.inl (by decide)) (Or.inl (by decide))) ?_
  refine t_putR (pc' := 223) (r := some 81) dX12_init_220 rfl rfl (Sh.dy (by decide) (by decide) rfl) (by decide) fa_X12_89_12 (Or.inr ⟨rfl, rfl, rfl⟩) rfl (fun z => absurd z (Nat.not_lt_zero _)) ?_
  refine s_eq (h' := (82, eS 82, eI 5, j0, qE 82)) rfl rfl (p_ref (k := 81) rfl) ?_
  refine s_aload_n (pc' := 224) dX12_init_223 rfl rfl ?_
  refine s_sipush (pc' := 227) (v := 256) dX12_init_224 rfl (by decide) ?_
  refine s_newI (pc' := 229) (n := 256) dX12_init_227 rfl rfl (by decide) (Nat.le_of_ble_eq_true rfl) (Nat.le_of_ble_eq_true rfl) ?_
  refine s_eq (h' := (83, eS 83, eI 5, j0, qE 82)) rfl rfl (p_I (N := 82) rfl (Or.inl (by decide)) (Or.inl (by decide))) ?_
  refine t_putR (pc' := 232) (r := some 82) dX12_init_229 rfl rfl (Sh.dy (by decide) (by decide) rfl) (by decide) fa_X12_92_12 (Or.inr ⟨rfl, rfl, rfl⟩) rfl (fun z => absurd z (Nat.not_lt_zero _)) ?_
  refine s_eq (h' := (83, eS 83, eI 5, j0, qE 83)) rfl rfl (p_ref (k := 82) rfl) ?_
  refine s_aload_n (pc' := 233) dX12_init_232 rfl rfl ?_
  refine s_sipush (pc' := 236) (v := 256) dX12_init_233 rfl (by decide) ?_
  refine s_newZ (pc' := 238) (n := 256) dX12_init_236 rfl rfl (by decide) (Nat.le_of_ble_eq_true rfl) (Nat.le_of_ble_eq_true rfl) ?_
  refine s_eq (h' := (84, eS 84, eI 5, j0, qE 83)) rfl rfl (p_I (N := 83) rfl (Or.inl (by decide)) (Or.inl (by decide))) ?_
  refine t_putR (pc' := 241) (r := some 83) dX12_init_238 rfl rfl (Sh.dy (by decide) (by decide) rfl) (by decide) fa_X12_95_12 (Or.inr ⟨rfl, rfl, rfl⟩) rfl (fun z => absurd z (Nat.not_lt_zero _)) ?_
  refine s_eq (h' := (84, eS 84, eI 5, j0, qE 84)) rfl rfl (p_ref (k := 83) rfl) ?_
  refine s_aload_n (pc' := 242) dX12_init_241 rfl rfl ?_
  refine s_bipush (pc' := 244) (v := 30) dX12_init_242 rfl (by decide) ?_
  refine s_newI (pc' := 246) (n := 30) dX12_init_244 rfl rfl (by decide) (Nat.le_of_ble_eq_true rfl) (Nat.le_of_ble_eq_true rfl) ?_
  refine s_eq (h' := (85, eS 85, eI 5, j0, qE 84)) rfl rfl (p_I (N := 84) rfl (Or.inl (by decide)) (Or.inl (by decide))) ?_
  refine t_putR (pc' := 249) (r := some 84) dX12_init_246 rfl rfl (Sh.dy (by decide) (by decide) rfl) (by decide) fa_X12_99_12 (Or.inr ⟨rfl, rfl, rfl⟩) rfl (fun z => absurd z (Nat.not_lt_zero _)) ?_
  refine s_eq (h' := (85, eS 85, eI 5, j0, qE 85)) rfl rfl (p_ref (k := 84) rfl) ?_
  refine s_aload_n (pc' := 250) dX12_init_249 rfl rfl ?_
  refine s_bipush (pc' := 252) (v := 30) dX12_init_250 rfl (by decide) ?_
  refine s_newI (pc' := 254) (n := 30) dX12_init_252 rfl rfl (by decide) (Nat.le_of_ble_eq_true rfl) (Nat.le_of_ble_eq_true rfl) ?_
  refine s_eq (h' := (86, eS 86, eI 5, j0, qE 85)) rfl rfl (p_I (N := 85) rfl (Or.inl (by decide)) (Or.inl (by decide))) ?_
  refine t_putR (pc' := 257) (r := some 85) dX12_init_254 rfl rfl (Sh.dy (by decide) (by decide) rfl) (by decide) fa_X12_102_12 (Or.inr ⟨rfl, rfl, rfl⟩) rfl (fun z => absurd z (Nat.not_lt_zero _)) ?_
  refine s_eq (h' := (86, eS 86, eI 5, j0, qE 86)) rfl rfl (p_ref (k := 85) rfl) ?_
  refine s_aload_n (pc' := 258) dX12_init_257 rfl rfl ?_
  refine s_bipush (pc' := 260) (v := 10) dX12_init_258 rfl (by decide) ?_
  refine s_newZ (pc' := 262) (n := 10) dX12_init_260 rfl rfl (by decide) (Nat.le_of_ble_eq_true rfl) (Nat.le_of_ble_eq_true rfl) ?_
  refine s_eq (h' := (87, eS 87, eI 5, j0, qE 86)) rfl rfl (p_I (N := 86) rfl (Or.inl (by decide)) (Or.inl (by decide))) ?_
  refine t_putR (pc' := 265) (r := some 86) dX12_init_262 rfl rfl (Sh.dy (by decide) (by decide) rfl) (by decide) fa_X12_105_12 (Or.inr ⟨rfl, rfl, rfl⟩) rfl (fun z => absurd z (Nat.not_lt_zero _)) ?_
  refine s_eq (h' := (87, eS 87, eI 5, j0, qE 87)) rfl rfl (p_ref (k := 86) rfl) ?_
  refine s_aload_n (pc' := 266) dX12_init_265 rfl rfl ?_
  refine s_sipush (pc' := 269) (v := 256) dX12_init_266 rfl (by decide) ?_
  refine s_newZ (pc' := 271) (n := 256) dX12_init_269 rfl rfl (by decide) (Nat.le_of_ble_eq_true rfl) (Nat.le_of_ble_eq_true rfl) ?_
  refine s_eq (h' := (88, eS 88, eI 5, j0, qE 87)) rfl rfl (p_I (N := 87) rfl (Or.inl (by decide)) (Or.inl (by decide))) ?_
  refine t_putR (pc' := 274) (r := some 87) dX12_init_271 rfl rfl (Sh.dy (by decide) (by decide) rfl) (by decide) fa_X12_108_12 (Or.inr ⟨rfl, rfl, rfl⟩) rfl (fun z => absurd z (Nat.not_lt_zero _)) ?_
  refine s_eq (h' := (88, eS 88, eI 5, j0, qE 88)) rfl rfl (p_ref (k := 87) rfl) ?_
  refine s_aload_n (pc' := 275) dX12_init_274 rfl rfl ?_
  refine s_bipush (pc' := 277) (v := 64) dX12_init_275 rfl (by decide) ?_
  refine s_newJ (pc' := 279) (n := 64) dX12_init_277 rfl rfl (by decide) (Nat.le_of_ble_eq_true rfl) (Nat.le_of_ble_eq_true rfl) ?_
  refine s_eq (h' := (89, eS 89, eI 5, j0, qE 88)) rfl rfl (p_J (N := 88) rfl) ?_
  refine t_putR (pc' := 282) (r := some 88) dX12_init_279 rfl rfl (Sh.dy (by decide) (by decide) rfl) (by decide) fa_X12_111_12 (Or.inr ⟨rfl, rfl, rfl⟩) rfl (fun z => absurd z (Nat.not_lt_zero _)) ?_
  refine s_eq (h' := (89, eS 89, eI 5, j0, qE 89)) rfl rfl (p_ref (k := 88) rfl) ?_
  refine s_aload_n (pc' := 283) dX12_init_282 rfl rfl ?_
  refine s_bipush (pc' := 285) (v := 64) dX12_init_283 rfl (by decide) ?_
  refine s_newJ (pc' := 287) (n := 64) dX12_init_285 rfl rfl (by decide) (Nat.le_of_ble_eq_true rfl) (Nat.le_of_ble_eq_true rfl) ?_
  refine s_eq (h' := (90, eS 90, eI 5, j0, qE 89)) rfl rfl (p_J (N := 89) rfl) ?_
  refine t_putR (pc' := 290) (r := some 89) dX12_init_287 rfl rfl (Sh.dy (by decide) (by decide) rfl) (by decide) fa_X12_114_12 (Or.inr ⟨rfl, rfl, rfl⟩) rfl (fun z => absurd z (Nat.not_lt_zero _)) ?_
  refine s_eq (h' := (90, eS 90, eI 5, j0, qE 90)) rfl rfl (p_ref (k := 89) rfl) ?_
  refine s_aload_n (pc' := 291) dX12_init_290 rfl rfl ?_
  refine s_bipush (pc' := 293) (v := 50) dX12_init_291 rfl (by decide) ?_
  refine s_newI (pc' := 295) (n := 50) dX12_init_293 rfl rfl (by decide) (Nat.le_of_ble_eq_true rfl) (Nat.le_of_ble_eq_true rfl) ?_
  refine s_eq (h' := (91, eS 91, eI 5, j0, qE 90)) rfl rfl (p_I (N := 90) rfl (Or.inl (by decide)) (Or.inl (by decide))) ?_
  refine t_putR (pc' := 298) (r := some 90) dX12_init_295 rfl rfl (Sh.dy (by decide) (by decide) rfl) (by decide) fa_X12_117_12 (Or.inr ⟨rfl, rfl, rfl⟩) rfl (fun z => absurd z (Nat.not_lt_zero _)) ?_
  refine s_eq (h' := (91, eS 91, eI 5, j0, qE 91)) rfl rfl (p_ref (k := 90) rfl) ?_
  refine s_aload_n (pc' := 299) dX12_init_298 rfl rfl ?_
  refine s_iconst (pc' := 300) (v := 4) dX12_init_299 rfl (by decide) ?_
  refine s_newI (pc' := 302) (n := 4) dX12_init_300 rfl rfl (by decide) (Nat.le_of_ble_eq_true rfl) (Nat.le_of_ble_eq_true rfl) ?_
  refine s_eq (h' := (92, eS 92, eI 5, j0, qE 91)) rfl rfl (p_I (N := 91) rfl (Or.inl (by decide)) (Or.inl (by decide))) ?_
  refine t_putR (pc' := 305) (r := some 91) dX12_init_302 rfl rfl (Sh.dy (by decide) (by decide) rfl) (by decide) fa_X12_120_12 (Or.inr ⟨rfl, rfl, rfl⟩) rfl (fun z => absurd z (Nat.not_lt_zero _)) ?_
  refine s_eq (h' := (92, eS 92, eI 5, j0, qE 92)) rfl rfl (p_ref (k := 91) rfl) ?_
  refine s_aload_n (pc' := 306) dX12_init_305 rfl rfl ?_
  refine s_iconst (pc' := 307) (v := 4) dX12_init_306 rfl (by decide) ?_
  refine s_newI (pc' := 309) (n := 4) dX12_init_307 rfl rfl (by decide) (Nat.le_of_ble_eq_true rfl) (Nat.le_of_ble_eq_true rfl) ?_
  refine s_eq (h' := (93, eS 93, eI 5, j0, qE 92)) rfl rfl (p_I (N := 92) rfl (Or.inl (by decide)) (Or.inl (by decide))) ?_
  refine t_putR (pc' := 312) (r := some 92) dX12_init_309 rfl rfl (Sh.dy (by decide) (by decide) rfl) (by decide) fa_X12_123_12 (Or.inr ⟨rfl, rfl, rfl⟩) rfl (fun z => absurd z (Nat.not_lt_zero _)) ?_
  refine s_eq (h' := (93, eS 93, eI 5, j0, qE 93)) rfl rfl (p_ref (k := 92) rfl) ?_
  refine s_aload_n (pc' := 313) dX12_init_312 rfl rfl ?_
  refine s_sipush (pc' := 316) (v := 160) dX12_init_313 rfl (by decide) ?_
  refine s_newI (pc' := 318) (n := 160) dX12_init_316 rfl rfl (by decide) (Nat.le_of_ble_eq_true rfl) (Nat.le_of_ble_eq_true rfl) ?_
  refine s_eq (h' := (94, eS 94, eI 5, j0, qE 93)) rfl rfl (p_I (N := 93) rfl (Or.inl (by decide)) (Or.inl (by decide))) ?_
  refine t_putR (pc' := 321) (r := some 93) dX12_init_318 rfl rfl (Sh.dy (by decide) (by decide) rfl) (by decide) fa_X12_126_12 (Or.inr ⟨rfl, rfl, rfl⟩) rfl (fun z => absurd z (Nat.not_lt_zero _)) ?_
  refine s_eq (h' := (94, eS 94, eI 5, j0, qE 94)) rfl rfl (p_ref (k := 93) rfl) ?_
  exact s_vret dX12_init_321 rfl (by decide) (by decide) hk
