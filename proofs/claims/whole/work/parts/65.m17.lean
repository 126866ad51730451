set_option maxHeartbeats 200000 in
theorem c_X12_notes {N : Nat} {S : Nat → Nat × Nat} {I : Nat → Nat → Int32} {J : Nat → Nat → Int64} {Q : Nat → Nat → Option Nat} {κ : Option Value → HP → Prop} {b : Int32} {t : Nat} (ht : I 54 47 = nI t) (h50 : t + 1 ≤ 50) (hk : κ none (N, S, up2 (up2 I 90 t b) 54 47 (nI (t + 1)), J, Q)) : CT E1 M_X12_notes [.ref 54, .int b] (N, S, I, J, Q) κ := by
  refine ofSP mk_X12_notes (Nat.le_of_ble_eq_true rfl) (L := [.ref 54, .int _]) rfl ?_
  refine s_aload_n (pc' := 1) dX12_notes_0 rfl rfl ?_
  refine t_getI (pc' := 4) dX12_notes_1 rfl sh_54 (by decide) fa_X12_304_12 rfl ?_
  refine s_bipush (pc' := 6) (v := 50) dX12_notes_4 rfl (by decide) ?_
  refine s_icmpgeF (pc' := 9) (tgt := 19) dX12_notes_6 (by decide) rfl (by rw [ht]; exact nI_ge (b := 50) (by omega) (by decide)) ?_
  refine s_aload_n (pc' := 10) dX12_notes_9 rfl rfl ?_
  refine s_getS (pc' := 13) (b := 90) dX12_notes_10 rfl (by decide) rfl (by decide) fa_X12_117_12 rfl rfl ?_
  refine s_aload_n (pc' := 14) dX12_notes_13 rfl rfl ?_
  refine t_getI (pc' := 17) dX12_notes_14 rfl sh_54 (by decide) fa_X12_304_12 rfl ?_
  refine s_iload_n (pc' := 18) dX12_notes_17 rfl rfl ?_
  refine t_iast (pc' := 19) (q := t) dX12_notes_18 rfl sh_90 ht (by omega) ?_
  refine s_aload_n (pc' := 20) dX12_notes_19 rfl rfl ?_
  refine s_dup (pc' := 21) dX12_notes_20 rfl rfl ?_
  refine t_getI (pc' := 24) dX12_notes_21 rfl sh_54 (by decide) fa_X12_304_12 rfl ?_
  refine s_iconst (pc' := 25) (v := 1) dX12_notes_24 rfl (by decide) ?_
  refine s_iadd (pc' := 26) dX12_notes_25 rfl ?_
  refine t_putI (pc' := 29) dX12_notes_26 rfl sh_54 (by decide) fa_X12_304_12 (Or.inl rfl) rfl rfl rfl ?_
  exact s_vret dX12_notes_29 rfl (by decide) (by decide) (by rw [up2_d (by decide), ht, nI_1]; exact hk)
set_option maxHeartbeats 200000 in
theorem c_X12_plainGive {N : Nat} {S : Nat → Nat × Nat} {I : Nat → Nat → Int32} {J : Nat → Nat → Int64} {Q : Nat → Nat → Option Nat} {κ : Option Value → HP → Prop} {t : Nat} (ht : I 54 47 = nI t) (h50 : t + 1 ≤ 50) {r : Nat} {kd rk sc : Int32} (hr : r < 30) (h60 : I 60 r = kd) (h62 : I 62 r = rk) (h63 : I 63 r = sc) {x : Int32} (hk : κ (some (.int (x + rk))) (N, S, (apM I t [10]), J, Q)) : CT E1 M_X12_plainGive [.ref 54, .int (nI r), .int x] (N, S, I, J, Q) κ := by
  refine ofSP mk_X12_plainGive (Nat.le_of_ble_eq_true rfl) (L := [.ref 54, .int _, .int _]) rfl ?_
  refine s_aload_n (pc' := 1) dX12_plainGive_0 rfl rfl ?_
  refine s_bipush (pc' := 3) (v := 10) dX12_plainGive_1 rfl (by decide) ?_
  refine s_callV (pc' := 6) (As := [.int _]) dX12_plainGive_3 rfl mk_X12_notes ml_X12_307 im_X12_notes se_X12_X12_X12_notes sh_54 (by decide) rfl rfl rfl ⟨Nat.le_of_ble_eq_true rfl, Nat.le_of_ble_eq_true rfl, Nat.le_of_ble_eq_true rfl, Nat.le_of_ble_eq_true rfl⟩ (Nat.le_of_ble_eq_true rfl) (c_X12_notes (t := t) ht (by omega) ?_)
  refine s_iload_n (pc' := 7) dX12_plainGive_6 rfl rfl ?_
  refine s_aload_n (pc' := 8) dX12_plainGive_7 rfl rfl ?_
  refine s_getS (pc' := 11) (b := 62) dX12_plainGive_8 rfl (by decide) rfl (by decide) fa_X12_31_12 rfl rfl ?_
  refine s_iload_n (pc' := 12) dX12_plainGive_11 rfl rfl ?_
  refine t_iald (pc' := 13) dX12_plainGive_12 rfl sh_62 rfl hr ?_
  refine s_iadd (pc' := 14) dX12_plainGive_13 rfl ?_
  exact s_iret dX12_plainGive_14 rfl (by decide) (by decide) (by rw [up2_d (by decide), up2_d (by decide), h62]; exact hk)
set_option maxHeartbeats 200000 in
theorem c_X12_give {N : Nat} {S : Nat → Nat × Nat} {I : Nat → Nat → Int32} {J : Nat → Nat → Int64} {Q : Nat → Nat → Option Nat} {κ : Option Value → HP → Prop} {t : Nat} (ht : I 54 47 = nI t) (h50 : t + 2 ≤ 50) {r : Nat} {kd rk sc : Int32} (hr : r < 30) (h60 : I 60 r = kd) (h62 : I 62 r = rk) (h63 : I 63 r = sc) {x : Int32} (hk : κ (some (.int (gvV kd (nI r) rk x))) (N, S, (apM I t (gvL kd)), J, Q)) : CT E1 M_X12_give [.ref 54, .int (nI r), .int x] (N, S, I, J, Q) κ := by
  refine ofSP mk_X12_give (Nat.le_of_ble_eq_true rfl) (L := [.ref 54, .int _, .int _]) rfl ?_
  refine s_aload_n (pc' := 1) dX12_give_0 rfl rfl ?_
  refine s_getS (pc' := 4) (b := 60) dX12_give_1 rfl (by decide) rfl (by decide) fa_X12_25_12 rfl rfl ?_
  refine s_iload_n (pc' := 5) dX12_give_4 rfl rfl ?_
  refine t_iald (pc' := 6) dX12_give_5 rfl sh_60 rfl hr ?_
  refine s_iconst (pc' := 7) (v := 1) dX12_give_6 rfl (by decide) ?_
  refine s_icmpne (pc' := 10) (tgt := 25) dX12_give_7 (by decide) rfl (fun c7 => ?_) (fun c7 => ?_)
  · refine s_aload_n (pc' := 26) dX12_give_25 rfl rfl ?_
    refine s_getS (pc' := 29) (b := 60) dX12_give_26 rfl (by decide) rfl (by decide) fa_X12_25_12 rfl rfl ?_
    refine s_iload_n (pc' := 30) dX12_give_29 rfl rfl ?_
    refine t_iald (pc' := 31) dX12_give_30 rfl sh_60 rfl hr ?_
    refine s_bipush (pc' := 33) (v := 6) dX12_give_31 rfl (by decide) ?_
    refine s_icmpne (pc' := 36) (tgt := 51) dX12_give_33 (by decide) rfl (fun c33 => ?_) (fun c33 => ?_)
    · refine s_aload_n (pc' := 52) dX12_give_51 rfl rfl ?_
      refine s_iload_n (pc' := 53) dX12_give_52 rfl rfl ?_
      refine s_iload_n (pc' := 54) dX12_give_53 rfl rfl ?_
      refine s_callV (pc' := 57) (As := [.int _, .int _]) dX12_give_54 rfl mk_X12_plainGive ml_X12_310 im_X12_plainGive se_X12_X12_X12_plainGive sh_54 (by decide) rfl rfl rfl ⟨Nat.le_of_ble_eq_true rfl, Nat.le_of_ble_eq_true rfl, Nat.le_of_ble_eq_true rfl, Nat.le_of_ble_eq_true rfl⟩ (Nat.le_of_ble_eq_true rfl) (c_X12_plainGive (kd := kd) (rk := rk) (sc := sc) (t := t) ht (by omega) hr (by exact h60) (by exact h62) (by exact h63) ?_)
      exact s_iret dX12_give_57 rfl (by decide) (by decide) (by
    have n1 : kd ≠ 1 := by rw [← h60]; exact c7
    have n6 : kd ≠ 6 := by rw [← h60]; exact c33
    unfold gvV gvL at hk; rw [if_neg n1, if_neg n1, if_neg n6, if_neg n6] at hk; exact hk)
    · refine s_aload_n (pc' := 37) dX12_give_36 rfl rfl ?_
      refine s_bipush (pc' := 39) (v := 70) dX12_give_37 rfl (by decide) ?_
      refine s_callV (pc' := 42) (As := [.int _]) dX12_give_39 rfl mk_X12_notes ml_X12_307 im_X12_notes se_X12_X12_X12_notes sh_54 (by decide) rfl rfl rfl ⟨Nat.le_of_ble_eq_true rfl, Nat.le_of_ble_eq_true rfl, Nat.le_of_ble_eq_true rfl, Nat.le_of_ble_eq_true rfl⟩ (Nat.le_of_ble_eq_true rfl) (c_X12_notes (t := t) ht (by omega) ?_)
      refine s_aload_n (pc' := 43) dX12_give_42 rfl rfl ?_
      refine s_iload_n (pc' := 44) dX12_give_43 rfl rfl ?_
      refine s_iload_n (pc' := 45) dX12_give_44 rfl rfl ?_
      refine s_callV (pc' := 48) (As := [.int _, .int _]) dX12_give_45 rfl mk_X12_plainGive ml_X12_310 im_X12_plainGive se_X12_X12_X12_plainGive sh_54 (by decide) rfl rfl rfl ⟨Nat.le_of_ble_eq_true rfl, Nat.le_of_ble_eq_true rfl, Nat.le_of_ble_eq_true rfl, Nat.le_of_ble_eq_true rfl⟩ (Nat.le_of_ble_eq_true rfl) (c_X12_plainGive (kd := kd) (rk := rk) (sc := sc) (t := t + 1) up2_s (by omega) hr (by rw [up2_d (by decide), up2_d (by decide)]; exact h60) (by rw [up2_d (by decide), up2_d (by decide)]; exact h62) (by rw [up2_d (by decide), up2_d (by decide)]; exact h63) ?_)
      refine s_iconst (pc' := 49) (v := 5) dX12_give_48 rfl (by decide) ?_
      refine s_ixor (pc' := 50) dX12_give_49 rfl ?_
      exact s_iret dX12_give_50 rfl (by decide) (by decide) (by
    have n1 : kd ≠ 1 := by rw [← h60]; exact c7
    have e : kd = 6 := by rw [← h60]; simpa using c33
    unfold gvV gvL at hk; rw [if_neg n1, if_neg n1, if_pos e, if_pos e] at hk; exact hk)
  · refine s_aload_n (pc' := 11) dX12_give_10 rfl rfl ?_
    refine s_bipush (pc' := 13) (v := 20) dX12_give_11 rfl (by decide) ?_
    refine s_callV (pc' := 16) (As := [.int _]) dX12_give_13 rfl mk_X12_notes ml_X12_307 im_X12_notes se_X12_X12_X12_notes sh_54 (by decide) rfl rfl rfl ⟨Nat.le_of_ble_eq_true rfl, Nat.le_of_ble_eq_true rfl, Nat.le_of_ble_eq_true rfl, Nat.le_of_ble_eq_true rfl⟩ (Nat.le_of_ble_eq_true rfl) (c_X12_notes (t := t) ht (by omega) ?_)
    refine s_aload_n (pc' := 17) dX12_give_16 rfl rfl ?_
    refine s_iload_n (pc' := 18) dX12_give_17 rfl rfl ?_
    refine s_iload_n (pc' := 19) dX12_give_18 rfl rfl ?_
    refine s_callV (pc' := 22) (As := [.int _, .int _]) dX12_give_19 rfl mk_X12_plainGive ml_X12_310 im_X12_plainGive se_X12_X12_X12_plainGive sh_54 (by decide) rfl rfl rfl ⟨Nat.le_of_ble_eq_true rfl, Nat.le_of_ble_eq_true rfl, Nat.le_of_ble_eq_true rfl, Nat.le_of_ble_eq_true rfl⟩ (Nat.le_of_ble_eq_true rfl) (c_X12_plainGive (kd := kd) (rk := rk) (sc := sc) (t := t + 1) up2_s (by omega) hr (by rw [up2_d (by decide), up2_d (by decide)]; exact h60) (by rw [up2_d (by decide), up2_d (by decide)]; exact h62) (by rw [up2_d (by decide), up2_d (by decide)]; exact h63) ?_)
    refine s_iload_n (pc' := 23) dX12_give_22 rfl rfl ?_
    refine s_iadd (pc' := 24) dX12_give_23 rfl ?_
    exact s_iret dX12_give_24 rfl (by decide) (by decide) (by
    have e : kd = 1 := by rw [← h60]; simpa using c7
    unfold gvV gvL at hk; rw [if_pos e, if_pos e] at hk; exact hk)
set_option maxHeartbeats 200000 in
theorem c_X12_plainOpen {N : Nat} {S : Nat → Nat × Nat} {I : Nat → Nat → Int32} {J : Nat → Nat → Int64} {Q : Nat → Nat → Option Nat} {κ : Option Value → HP → Prop} {t : Nat} (ht : I 54 47 = nI t) (h50 : t + 1 ≤ 50) {r : Nat} {kd rk sc : Int32} (hr : r < 30) (h60 : I 60 r = kd) (h62 : I 62 r = rk) (h63 : I 63 r = sc) {x : Int32} (hk : κ (some (.int (x - sc))) (N, S, (apM I t [12]), J, Q)) : CT E1 M_X12_plainOpen [.ref 54, .int (nI r), .int x] (N, S, I, J, Q) κ := by
  refine ofSP mk_X12_plainOpen (Nat.le_of_ble_eq_true rfl) (L := [.ref 54, .int _, .int _]) rfl ?_
  refine s_aload_n (pc' := 1) dX12_plainOpen_0 rfl rfl ?_
  refine s_bipush (pc' := 3) (v := 12) dX12_plainOpen_1 rfl (by decide) ?_
  refine s_callV (pc' := 6) (As := [.int _]) dX12_plainOpen_3 rfl mk_X12_notes ml_X12_307 im_X12_notes se_X12_X12_X12_notes sh_54 (by decide) rfl rfl rfl ⟨Nat.le_of_ble_eq_true rfl, Nat.le_of_ble_eq_true rfl, Nat.le_of_ble_eq_true rfl, Nat.le_of_ble_eq_true rfl⟩ (Nat.le_of_ble_eq_true rfl) (c_X12_notes (t := t) ht (by omega) ?_)
  refine s_iload_n (pc' := 7) dX12_plainOpen_6 rfl rfl ?_
  refine s_aload_n (pc' := 8) dX12_plainOpen_7 rfl rfl ?_
  refine s_getS (pc' := 11) (b := 63) dX12_plainOpen_8 rfl (by decide) rfl (by decide) fa_X12_34_12 rfl rfl ?_
  refine s_iload_n (pc' := 12) dX12_plainOpen_11 rfl rfl ?_
  refine t_iald (pc' := 13) dX12_plainOpen_12 rfl sh_63 rfl hr ?_
  refine s_isub (pc' := 14) dX12_plainOpen_13 rfl ?_
  exact s_iret dX12_plainOpen_14 rfl (by decide) (by decide) (by rw [up2_d (by decide), up2_d (by decide), h63]; exact hk)
set_option maxHeartbeats 200000 in
theorem c_X12_open {N : Nat} {S : Nat → Nat × Nat} {I : Nat → Nat → Int32} {J : Nat → Nat → Int64} {Q : Nat → Nat → Option Nat} {κ : Option Value → HP → Prop} {t : Nat} (ht : I 54 47 = nI t) (h50 : t + 2 ≤ 50) {r : Nat} {kd rk sc : Int32} (hr : r < 30) (h60 : I 60 r = kd) (h62 : I 62 r = rk) (h63 : I 63 r = sc) {x : Int32} (hk : κ (some (.int (opV kd rk sc x))) (N, S, (apM I t (opL kd)), J, Q)) : CT E1 M_X12_open [.ref 54, .int (nI r), .int x] (N, S, I, J, Q) κ := by
  refine ofSP mk_X12_open (Nat.le_of_ble_eq_true rfl) (L := [.ref 54, .int _, .int _]) rfl ?_
  refine s_aload_n (pc' := 1) dX12_open_0 rfl rfl ?_
  refine s_getS (pc' := 4) (b := 60) dX12_open_1 rfl (by decide) rfl (by decide) fa_X12_25_12 rfl rfl ?_
  refine s_iload_n (pc' := 5) dX12_open_4 rfl rfl ?_
  refine t_iald (pc' := 6) dX12_open_5 rfl sh_60 rfl hr ?_
  refine s_iconst (pc' := 7) (v := 4) dX12_open_6 rfl (by decide) ?_
  refine s_icmpne (pc' := 10) (tgt := 25) dX12_open_7 (by decide) rfl (fun c7 => ?_) (fun c7 => ?_)
  · refine s_aload_n (pc' := 26) dX12_open_25 rfl rfl ?_
    refine s_getS (pc' := 29) (b := 60) dX12_open_26 rfl (by decide) rfl (by decide) fa_X12_25_12 rfl rfl ?_
    refine s_iload_n (pc' := 30) dX12_open_29 rfl rfl ?_
    refine t_iald (pc' := 31) dX12_open_30 rfl sh_60 rfl hr ?_
    refine s_iconst (pc' := 32) (v := 5) dX12_open_31 rfl (by decide) ?_
    refine s_icmplt (pc' := 35) (tgt := 55) dX12_open_32 (by decide) rfl (fun c32 => ?_) (fun c32 => ?_)
    · refine s_aload_n (pc' := 56) dX12_open_55 rfl rfl ?_
      refine s_iload_n (pc' := 57) dX12_open_56 rfl rfl ?_
      refine s_iload_n (pc' := 58) dX12_open_57 rfl rfl ?_
      refine s_callV (pc' := 61) (As := [.int _, .int _]) dX12_open_58 rfl mk_X12_plainOpen ml_X12_313 im_X12_plainOpen se_X12_X12_X12_plainOpen sh_54 (by decide) rfl rfl rfl ⟨Nat.le_of_ble_eq_true rfl, Nat.le_of_ble_eq_true rfl, Nat.le_of_ble_eq_true rfl, Nat.le_of_ble_eq_true rfl⟩ (Nat.le_of_ble_eq_true rfl) (c_X12_plainOpen (kd := kd) (rk := rk) (sc := sc) (t := t) ht (by omega) hr (by exact h60) (by exact h62) (by exact h63) ?_)
      exact s_iret dX12_open_61 rfl (by decide) (by decide) (by
    have n1 : kd ≠ 4 := by rw [← h60]; exact c7
    have n6 : ¬ 5 ≤ kd := by rw [← h60]; exact Int32.not_le.mpr c32
    unfold opV opL at hk; rw [if_neg n1, if_neg n1, if_neg n6, if_neg n6] at hk; exact hk)
    · refine s_aload_n (pc' := 36) dX12_open_35 rfl rfl ?_
      refine s_bipush (pc' := 38) (v := 60) dX12_open_36 rfl (by decide) ?_
      refine s_callV (pc' := 41) (As := [.int _]) dX12_open_38 rfl mk_X12_notes ml_X12_307 im_X12_notes se_X12_X12_X12_notes sh_54 (by decide) rfl rfl rfl ⟨Nat.le_of_ble_eq_true rfl, Nat.le_of_ble_eq_true rfl, Nat.le_of_ble_eq_true rfl, Nat.le_of_ble_eq_true rfl⟩ (Nat.le_of_ble_eq_true rfl) (c_X12_notes (t := t) ht (by omega) ?_)
      refine s_aload_n (pc' := 42) dX12_open_41 rfl rfl ?_
      refine s_iload_n (pc' := 43) dX12_open_42 rfl rfl ?_
      refine s_iload_n (pc' := 44) dX12_open_43 rfl rfl ?_
      refine s_callV (pc' := 47) (As := [.int _, .int _]) dX12_open_44 rfl mk_X12_plainOpen ml_X12_313 im_X12_plainOpen se_X12_X12_X12_plainOpen sh_54 (by decide) rfl rfl rfl ⟨Nat.le_of_ble_eq_true rfl, Nat.le_of_ble_eq_true rfl, Nat.le_of_ble_eq_true rfl, Nat.le_of_ble_eq_true rfl⟩ (Nat.le_of_ble_eq_true rfl) (c_X12_plainOpen (kd := kd) (rk := rk) (sc := sc) (t := t + 1) up2_s (by omega) hr (by rw [up2_d (by decide), up2_d (by decide)]; exact h60) (by rw [up2_d (by decide), up2_d (by decide)]; exact h62) (by rw [up2_d (by decide), up2_d (by decide)]; exact h63) ?_)
      refine s_aload_n (pc' := 48) dX12_open_47 rfl rfl ?_
      refine s_getS (pc' := 51) (b := 62) dX12_open_48 rfl (by decide) rfl (by decide) fa_X12_31_12 rfl rfl ?_
      refine s_iload_n (pc' := 52) dX12_open_51 rfl rfl ?_
      refine t_iald (pc' := 53) dX12_open_52 rfl sh_62 rfl hr ?_
      refine s_iadd (pc' := 54) dX12_open_53 rfl ?_
      exact s_iret dX12_open_54 rfl (by decide) (by decide) (by
    have n1 : kd ≠ 4 := by rw [← h60]; exact c7
    have e : 5 ≤ kd := by rw [← h60]; exact Int32.not_lt.mp c32
    unfold opV opL at hk; rw [if_neg n1, if_neg n1, if_pos e, if_pos e] at hk; rw [apM_o (by decide) (by decide), up2_d (by decide), up2_d (by decide), h62]; exact hk)
  · refine s_aload_n (pc' := 11) dX12_open_10 rfl rfl ?_
    refine s_bipush (pc' := 13) (v := 50) dX12_open_11 rfl (by decide) ?_
    refine s_callV (pc' := 16) (As := [.int _]) dX12_open_13 rfl mk_X12_notes ml_X12_307 im_X12_notes se_X12_X12_X12_notes sh_54 (by decide) rfl rfl rfl ⟨Nat.le_of_ble_eq_true rfl, Nat.le_of_ble_eq_true rfl, Nat.le_of_ble_eq_true rfl, Nat.le_of_ble_eq_true rfl⟩ (Nat.le_of_ble_eq_true rfl) (c_X12_notes (t := t) ht (by omega) ?_)
    refine s_aload_n (pc' := 17) dX12_open_16 rfl rfl ?_
    refine s_iload_n (pc' := 18) dX12_open_17 rfl rfl ?_
    refine s_iload_n (pc' := 19) dX12_open_18 rfl rfl ?_
    refine s_callV (pc' := 22) (As := [.int _, .int _]) dX12_open_19 rfl mk_X12_plainOpen ml_X12_313 im_X12_plainOpen se_X12_X12_X12_plainOpen sh_54 (by decide) rfl rfl rfl ⟨Nat.le_of_ble_eq_true rfl, Nat.le_of_ble_eq_true rfl, Nat.le_of_ble_eq_true rfl, Nat.le_of_ble_eq_true rfl⟩ (Nat.le_of_ble_eq_true rfl) (c_X12_plainOpen (kd := kd) (rk := rk) (sc := sc) (t := t + 1) up2_s (by omega) hr (by rw [up2_d (by decide), up2_d (by decide)]; exact h60) (by rw [up2_d (by decide), up2_d (by decide)]; exact h62) (by rw [up2_d (by decide), up2_d (by decide)]; exact h63) ?_)
    refine s_iconst (pc' := 23) (v := 3) dX12_open_22 rfl (by decide) ?_
    refine s_imul (pc' := 24) dX12_open_23 rfl ?_
    exact s_iret dX12_open_24 rfl (by decide) (by decide) (by
    have e : kd = 4 := by rw [← h60]; simpa using c7
    unfold opV opL at hk; rw [if_pos e, if_pos e] at hk; exact hk)
set_option maxHeartbeats 200000 in
theorem c_X12_plainFit {N : Nat} {S : Nat → Nat × Nat} {I : Nat → Nat → Int32} {J : Nat → Nat → Int64} {Q : Nat → Nat → Option Nat} {κ : Option Value → HP → Prop} {t : Nat} (ht : I 54 47 = nI t) (h50 : t + 3 ≤ 50) {r : Nat} {kd rk sc : Int32} (hr : r < 30) (h60 : I 60 r = kd) (h62 : I 62 r = rk) (h63 : I 63 r = sc) {x : Int32} (hk : κ (some (.int (pfV kd (nI r) rk x))) (N, S, (apM I t (pfL kd)), J, Q)) : CT E1 M_X12_plainFit [.ref 54, .int (nI r), .int x] (N, S, I, J, Q) κ := by
  refine ofSP mk_X12_plainFit (Nat.le_of_ble_eq_true rfl) (L := [.ref 54, .int _, .int _]) rfl ?_
  refine s_aload_n (pc' := 1) dX12_plainFit_0 rfl rfl ?_
  refine s_bipush (pc' := 3) (v := 11) dX12_plainFit_1 rfl (by decide) ?_
  refine s_callV (pc' := 6) (As := [.int _]) dX12_plainFit_3 rfl mk_X12_notes ml_X12_307 im_X12_notes se_X12_X12_X12_notes sh_54 (by decide) rfl rfl rfl ⟨Nat.le_of_ble_eq_true rfl, Nat.le_of_ble_eq_true rfl, Nat.le_of_ble_eq_true rfl, Nat.le_of_ble_eq_true rfl⟩ (Nat.le_of_ble_eq_true rfl) (c_X12_notes (t := t) ht (by omega) ?_)
  refine s_aload_n (pc' := 7) dX12_plainFit_6 rfl rfl ?_
  refine s_iload_n (pc' := 8) dX12_plainFit_7 rfl rfl ?_
  refine s_iload_n (pc' := 9) dX12_plainFit_8 rfl rfl ?_
  refine s_callV (pc' := 12) (As := [.int _, .int _]) dX12_plainFit_9 rfl mk_X12_give ml_X12_316 im_X12_give se_X12_X12_X12_give sh_54 (by decide) rfl rfl rfl ⟨Nat.le_of_ble_eq_true rfl, Nat.le_of_ble_eq_true rfl, Nat.le_of_ble_eq_true rfl, Nat.le_of_ble_eq_true rfl⟩ (Nat.le_of_ble_eq_true rfl) (c_X12_give (kd := kd) (rk := rk) (sc := sc) (t := t + 1) up2_s (by omega) hr (by rw [up2_d (by decide), up2_d (by decide)]; exact h60) (by rw [up2_d (by decide), up2_d (by decide)]; exact h62) (by rw [up2_d (by decide), up2_d (by decide)]; exact h63) ?_)
  refine s_iconst (pc' := 13) (v := 2) dX12_plainFit_12 rfl (by decide) ?_
  refine s_imul (pc' := 14) dX12_plainFit_13 rfl ?_
  exact s_iret dX12_plainFit_14 rfl (by decide) (by decide) hk
set_option maxHeartbeats 200000 in
theorem c_X12_openFit {N : Nat} {S : Nat → Nat × Nat} {I : Nat → Nat → Int32} {J : Nat → Nat → Int64} {Q : Nat → Nat → Option Nat} {κ : Option Value → HP → Prop} {t : Nat} (ht : I 54 47 = nI t) (h50 : t + 4 ≤ 50) {r : Nat} {kd rk sc : Int32} (hr : r < 30) (h60 : I 60 r = kd) (h62 : I 62 r = rk) (h63 : I 63 r = sc) {x : Int32} (hk : κ (some (.int (ofV kd (nI r) rk sc x))) (N, S, (apM I t (ofL kd)), J, Q)) : CT E1 M_X12_openFit [.ref 54, .int (nI r), .int x] (N, S, I, J, Q) κ := by
  refine ofSP mk_X12_openFit (Nat.le_of_ble_eq_true rfl) (L := [.ref 54, .int _, .int _]) rfl ?_
  refine s_aload_n (pc' := 1) dX12_openFit_0 rfl rfl ?_
  refine s_bipush (pc' := 3) (v := 61) dX12_openFit_1 rfl (by decide) ?_
  refine s_callV (pc' := 6) (As := [.int _]) dX12_openFit_3 rfl mk_X12_notes ml_X12_307 im_X12_notes se_X12_X12_X12_notes sh_54 (by decide) rfl rfl rfl ⟨Nat.le_of_ble_eq_true rfl, Nat.le_of_ble_eq_true rfl, Nat.le_of_ble_eq_true rfl, Nat.le_of_ble_eq_true rfl⟩ (Nat.le_of_ble_eq_true rfl) (c_X12_notes (t := t) ht (by omega) ?_)
  refine s_aload_n (pc' := 7) dX12_openFit_6 rfl rfl ?_
  refine s_iload_n (pc' := 8) dX12_openFit_7 rfl rfl ?_
  refine s_iload_n (pc' := 9) dX12_openFit_8 rfl rfl ?_
  refine s_aload_n (pc' := 10) dX12_openFit_9 rfl rfl ?_
  refine s_getS (pc' := 13) (b := 63) dX12_openFit_10 rfl (by decide) rfl (by decide) fa_X12_34_12 rfl rfl ?_
  refine s_iload_n (pc' := 14) dX12_openFit_13 rfl rfl ?_
  refine t_iald (pc' := 15) dX12_openFit_14 rfl sh_63 rfl hr ?_
  refine s_isub (pc' := 16) dX12_openFit_15 rfl ?_
  rw [show up2 (up2 I 90 t 61) 54 47 (nI (t + 1)) 63 r = sc by rw [up2_d (by decide), up2_d (by decide)]; exact h63]
  refine s_callV (pc' := 19) (As := [.int _, .int _]) dX12_openFit_16 rfl mk_X12_plainFit ml_X12_319 im_X12_plainFit se_X12_X12_X12_plainFit sh_54 (by decide) rfl rfl rfl ⟨Nat.le_of_ble_eq_true rfl, Nat.le_of_ble_eq_true rfl, Nat.le_of_ble_eq_true rfl, Nat.le_of_ble_eq_true rfl⟩ (Nat.le_of_ble_eq_true rfl) (c_X12_plainFit (kd := kd) (rk := rk) (sc := sc) (t := t + 1) up2_s (by omega) hr (by rw [up2_d (by decide), up2_d (by decide)]; exact h60) (by rw [up2_d (by decide), up2_d (by decide)]; exact h62) (by rw [up2_d (by decide), up2_d (by decide)]; exact h63) ?_)
  exact s_iret dX12_openFit_19 rfl (by decide) (by decide) hk
set_option maxHeartbeats 200000 in
theorem c_X12_fit {N : Nat} {S : Nat → Nat × Nat} {I : Nat → Nat → Int32} {J : Nat → Nat → Int64} {Q : Nat → Nat → Option Nat} {κ : Option Value → HP → Prop} {t : Nat} (ht : I 54 47 = nI t) (h50 : t + 7 ≤ 50) {r : Nat} {kd rk sc : Int32} (hr : r < 30) (h60 : I 60 r = kd) (h62 : I 62 r = rk) (h63 : I 63 r = sc) {x : Int32} (hk : κ (some (.int (ftV kd (nI r) rk sc x))) (N, S, (apM I t (ftL kd)), J, Q)) : CT E1 M_X12_fit [.ref 54, .int (nI r), .int x] (N, S, I, J, Q) κ := by
  refine ofSP mk_X12_fit (Nat.le_of_ble_eq_true rfl) (L := [.ref 54, .int _, .int _, .retAddr _]) rfl ?_
  have q1 := gvL_len kd
  have q2 := opL_len kd
  have q3 := pfL_len kd
  have q4 := ofL_len kd
  have q5 := ftL_len kd
  have q6 := ptL_len kd
  refine s_aload_n (pc' := 1) dX12_fit_0 rfl rfl ?_
  refine s_getS (pc' := 4) (b := 60) dX12_fit_1 rfl (by decide) rfl (by decide) fa_X12_25_12 rfl rfl ?_
  refine s_iload_n (pc' := 5) dX12_fit_4 rfl rfl ?_
  refine t_iald (pc' := 6) dX12_fit_5 rfl sh_60 rfl hr ?_
  refine s_iconst (pc' := 7) (v := 2) dX12_fit_6 rfl (by decide) ?_
  refine s_icmpne (pc' := 10) (tgt := 32) dX12_fit_7 (by decide) rfl (fun c7 => ?_) (fun c7 => ?_)
  · refine s_aload_n (pc' := 33) dX12_fit_32 rfl rfl ?_
    refine s_getS (pc' := 36) (b := 60) dX12_fit_33 rfl (by decide) rfl (by decide) fa_X12_25_12 rfl rfl ?_
    refine s_iload_n (pc' := 37) dX12_fit_36 rfl rfl ?_
    refine t_iald (pc' := 38) dX12_fit_37 rfl sh_60 rfl hr ?_
    refine s_bipush (pc' := 40) (v := 6) dX12_fit_38 rfl (by decide) ?_
    refine s_icmpne (pc' := 43) (tgt := 65) dX12_fit_40 (by decide) rfl (fun c40 => ?_) (fun c40 => ?_)
    · refine s_aload_n (pc' := 66) dX12_fit_65 rfl rfl ?_
      refine s_getS (pc' := 69) (b := 60) dX12_fit_66 rfl (by decide) rfl (by decide) fa_X12_25_12 rfl rfl ?_
      refine s_iload_n (pc' := 70) dX12_fit_69 rfl rfl ?_
      refine t_iald (pc' := 71) dX12_fit_70 rfl sh_60 rfl hr ?_
      refine s_iconst (pc' := 72) (v := 5) dX12_fit_71 rfl (by decide) ?_
      refine s_icmpne (pc' := 75) (tgt := 84) dX12_fit_72 (by decide) rfl (fun c72 => ?_) (fun c72 => ?_)
      · refine s_aload_n (pc' := 85) dX12_fit_84 rfl rfl ?_
        refine s_iload_n (pc' := 86) dX12_fit_85 rfl rfl ?_
        refine s_iload_n (pc' := 87) dX12_fit_86 rfl rfl ?_
        refine s_callV (pc' := 90) (As := [.int _, .int _]) dX12_fit_87 rfl mk_X12_plainFit ml_X12_319 im_X12_plainFit se_X12_X12_X12_plainFit sh_54 (by decide) rfl rfl rfl ⟨Nat.le_of_ble_eq_true rfl, Nat.le_of_ble_eq_true rfl, Nat.le_of_ble_eq_true rfl, Nat.le_of_ble_eq_true rfl⟩ (Nat.le_of_ble_eq_true rfl) (c_X12_plainFit (kd := kd) (rk := rk) (sc := sc) (t := t) ht (by omega) hr (by exact h60) (by exact h62) (by exact h63) ?_)
        exact s_iret dX12_fit_90 rfl (by decide) (by decide) (by
    have n2 : kd ≠ 2 := by rw [← h60]; exact c7
    have n6 : kd ≠ 6 := by rw [← h60]; exact c40
    have e : kd ≠ 5 := by rw [← h60]; exact c72
    unfold ftV ftL at hk; rw [if_neg n2, if_neg n2, if_neg n6, if_neg n6, if_neg e, if_neg e] at hk; exact hk)
      · refine s_aload_n (pc' := 76) dX12_fit_75 rfl rfl ?_
        refine s_iload_n (pc' := 77) dX12_fit_76 rfl rfl ?_
        refine s_iload_n (pc' := 78) dX12_fit_77 rfl rfl ?_
        refine s_callV (pc' := 81) (As := [.int _, .int _]) dX12_fit_78 rfl mk_X12_openFit ml_X12_322 im_X12_openFit se_X12_X12_X12_openFit sh_54 (by decide) rfl rfl rfl ⟨Nat.le_of_ble_eq_true rfl, Nat.le_of_ble_eq_true rfl, Nat.le_of_ble_eq_true rfl, Nat.le_of_ble_eq_true rfl⟩ (Nat.le_of_ble_eq_true rfl) (c_X12_openFit (kd := kd) (rk := rk) (sc := sc) (t := t) ht (by omega) hr (by exact h60) (by exact h62) (by exact h63) ?_)
        refine s_goto (tgt := 90) dX12_fit_81 (by decide) ?_
        exact s_iret dX12_fit_90 rfl (by decide) (by decide) (by
    have n2 : kd ≠ 2 := by rw [← h60]; exact c7
    have n6 : kd ≠ 6 := by rw [← h60]; exact c40
    have e : kd = 5 := by rw [← h60]; simpa using c72
    unfold ftV ftL at hk; rw [if_neg n2, if_neg n2, if_neg n6, if_neg n6, if_pos e, if_pos e] at hk; exact hk)
    · refine s_aload_n (pc' := 44) dX12_fit_43 rfl rfl ?_
      refine s_bipush (pc' := 46) (v := 71) dX12_fit_44 rfl (by decide) ?_
      refine s_callV (pc' := 49) (As := [.int _]) dX12_fit_46 rfl mk_X12_notes ml_X12_307 im_X12_notes se_X12_X12_X12_notes sh_54 (by decide) rfl rfl rfl ⟨Nat.le_of_ble_eq_true rfl, Nat.le_of_ble_eq_true rfl, Nat.le_of_ble_eq_true rfl, Nat.le_of_ble_eq_true rfl⟩ (Nat.le_of_ble_eq_true rfl) (c_X12_notes (t := t) ht (by omega) ?_)
      refine s_aload_n (pc' := 50) dX12_fit_49 rfl rfl ?_
      refine s_iload_n (pc' := 51) dX12_fit_50 rfl rfl ?_
      refine s_iload_n (pc' := 52) dX12_fit_51 rfl rfl ?_
      refine s_callV (pc' := 55) (As := [.int _, .int _]) dX12_fit_52 rfl mk_X12_openFit ml_X12_322 im_X12_openFit se_X12_X12_X12_openFit sh_54 (by decide) rfl rfl rfl ⟨Nat.le_of_ble_eq_true rfl, Nat.le_of_ble_eq_true rfl, Nat.le_of_ble_eq_true rfl, Nat.le_of_ble_eq_true rfl⟩ (Nat.le_of_ble_eq_true rfl) (c_X12_openFit (kd := kd) (rk := rk) (sc := sc) (t := t + 1) up2_s (by omega) hr (by rw [up2_d (by decide), up2_d (by decide)]; exact h60) (by rw [up2_d (by decide), up2_d (by decide)]; exact h62) (by rw [up2_d (by decide), up2_d (by decide)]; exact h63) ?_)
      refine t_istore_n (pc' := 56) (L' := [.ref 54, .int _, .int _, .int _]) dX12_fit_55 rfl (Nat.le_of_ble_eq_true rfl) rfl ?_
      refine s_iload_n (pc' := 57) dX12_fit_56 rfl rfl ?_
      refine s_aload_n (pc' := 58) dX12_fit_57 rfl rfl ?_
      refine s_iload_n (pc' := 59) dX12_fit_58 rfl rfl ?_
      refine s_iconst (pc' := 60) (v := 0) dX12_fit_59 rfl (by decide) ?_
      refine s_callV (pc' := 63) (As := [.int _, .int _]) dX12_fit_60 rfl mk_X12_open ml_X12_325 im_X12_open se_X12_X12_X12_open sh_54 (by decide) rfl rfl rfl ⟨Nat.le_of_ble_eq_true rfl, Nat.le_of_ble_eq_true rfl, Nat.le_of_ble_eq_true rfl, Nat.le_of_ble_eq_true rfl⟩ (Nat.le_of_ble_eq_true rfl) (c_X12_open (kd := kd) (rk := rk) (sc := sc) (t := t + 1 + (ofL kd).length) (apM_t _ _ _ up2_s) (by omega) hr (by rw [apM_o (by decide) (by decide), up2_d (by decide), up2_d (by decide)]; exact h60) (by rw [apM_o (by decide) (by decide), up2_d (by decide), up2_d (by decide)]; exact h62) (by rw [apM_o (by decide) (by decide), up2_d (by decide), up2_d (by decide)]; exact h63) ?_)
      refine s_iadd (pc' := 64) dX12_fit_63 rfl ?_
      exact s_iret dX12_fit_64 rfl (by decide) (by decide) (by
    have n2 : kd ≠ 2 := by rw [← h60]; exact c7
    have e : kd = 6 := by rw [← h60]; simpa using c40
    unfold ftV ftL at hk; rw [if_neg n2, if_neg n2, if_pos e, if_pos e] at hk; rw [apM_ap]; exact hk)
  · refine s_aload_n (pc' := 11) dX12_fit_10 rfl rfl ?_
    refine s_bipush (pc' := 13) (v := 30) dX12_fit_11 rfl (by decide) ?_
    refine s_callV (pc' := 16) (As := [.int _]) dX12_fit_13 rfl mk_X12_notes ml_X12_307 im_X12_notes se_X12_X12_X12_notes sh_54 (by decide) rfl rfl rfl ⟨Nat.le_of_ble_eq_true rfl, Nat.le_of_ble_eq_true rfl, Nat.le_of_ble_eq_true rfl, Nat.le_of_ble_eq_true rfl⟩ (Nat.le_of_ble_eq_true rfl) (c_X12_notes (t := t) ht (by omega) ?_)
    refine s_aload_n (pc' := 17) dX12_fit_16 rfl rfl ?_
    refine s_iload_n (pc' := 18) dX12_fit_17 rfl rfl ?_
    refine s_iload_n (pc' := 19) dX12_fit_18 rfl rfl ?_
    refine s_callV (pc' := 22) (As := [.int _, .int _]) dX12_fit_19 rfl mk_X12_plainFit ml_X12_319 im_X12_plainFit se_X12_X12_X12_plainFit sh_54 (by decide) rfl rfl rfl ⟨Nat.le_of_ble_eq_true rfl, Nat.le_of_ble_eq_true rfl, Nat.le_of_ble_eq_true rfl, Nat.le_of_ble_eq_true rfl⟩ (Nat.le_of_ble_eq_true rfl) (c_X12_plainFit (kd := kd) (rk := rk) (sc := sc) (t := t + 1) up2_s (by omega) hr (by rw [up2_d (by decide), up2_d (by decide)]; exact h60) (by rw [up2_d (by decide), up2_d (by decide)]; exact h62) (by rw [up2_d (by decide), up2_d (by decide)]; exact h63) ?_)
    refine t_istore_n (pc' := 23) (L' := [.ref 54, .int _, .int _, .int _]) dX12_fit_22 rfl (Nat.le_of_ble_eq_true rfl) rfl ?_
    refine s_iload_n (pc' := 24) dX12_fit_23 rfl rfl ?_
    refine s_aload_n (pc' := 25) dX12_fit_24 rfl rfl ?_
    refine s_iload_n (pc' := 26) dX12_fit_25 rfl rfl ?_
    refine s_iload_n (pc' := 27) dX12_fit_26 rfl rfl ?_
    refine s_callV (pc' := 30) (As := [.int _, .int _]) dX12_fit_27 rfl mk_X12_give ml_X12_316 im_X12_give se_X12_X12_X12_give sh_54 (by decide) rfl rfl rfl ⟨Nat.le_of_ble_eq_true rfl, Nat.le_of_ble_eq_true rfl, Nat.le_of_ble_eq_true rfl, Nat.le_of_ble_eq_true rfl⟩ (Nat.le_of_ble_eq_true rfl) (c_X12_give (kd := kd) (rk := rk) (sc := sc) (t := t + 1 + (pfL kd).length) (apM_t _ _ _ up2_s) (by omega) hr (by rw [apM_o (by decide) (by decide), up2_d (by decide), up2_d (by decide)]; exact h60) (by rw [apM_o (by decide) (by decide), up2_d (by decide), up2_d (by decide)]; exact h62) (by rw [apM_o (by decide) (by decide), up2_d (by decide), up2_d (by decide)]; exact h63) ?_)
    refine s_isub (pc' := 31) dX12_fit_30 rfl ?_
    exact s_iret dX12_fit_31 rfl (by decide) (by decide) (by
    have e : kd = 2 := by rw [← h60]; simpa using c7
    unfold ftV ftL at hk; rw [if_pos e, if_pos e] at hk; rw [apM_ap]; exact hk)
set_option maxHeartbeats 200000 in
theorem c_X12_plainTell {N : Nat} {S : Nat → Nat × Nat} {I : Nat → Nat → Int32} {J : Nat → Nat → Int64} {Q : Nat → Nat → Option Nat} {κ : Option Value → HP → Prop} {t : Nat} (ht : I 54 47 = nI t) (h50 : t + 10 ≤ 50) {r : Nat} {kd rk sc : Int32} (hr : r < 30) (h60 : I 60 r = kd) (h62 : I 62 r = rk) (h63 : I 63 r = sc) {x : Int32} (hk : κ (some (.int (ptV kd (nI r) rk sc x))) (N, S, (apM I t (ptL kd)), J, Q)) : CT E1 M_X12_plainTell [.ref 54, .int (nI r), .int x] (N, S, I, J, Q) κ := by
  refine ofSP mk_X12_plainTell (Nat.le_of_ble_eq_true rfl) (L := [.ref 54, .int _, .int _, .retAddr _]) rfl ?_
  have q1 := gvL_len kd
  have q2 := opL_len kd
  have q3 := pfL_len kd
  have q4 := ofL_len kd
  have q5 := ftL_len kd
  have q6 := ptL_len kd
  refine s_aload_n (pc' := 1) dX12_plainTell_0 rfl rfl ?_
  refine s_bipush (pc' := 3) (v := 13) dX12_plainTell_1 rfl (by decide) ?_
  refine s_callV (pc' := 6) (As := [.int _]) dX12_plainTell_3 rfl mk_X12_notes ml_X12_307 im_X12_notes se_X12_X12_X12_notes sh_54 (by decide) rfl rfl rfl ⟨Nat.le_of_ble_eq_true rfl, Nat.le_of_ble_eq_true rfl, Nat.le_of_ble_eq_true rfl, Nat.le_of_ble_eq_true rfl⟩ (Nat.le_of_ble_eq_true rfl) (c_X12_notes (t := t) ht (by omega) ?_)
  refine s_aload_n (pc' := 7) dX12_plainTell_6 rfl rfl ?_
  refine s_iload_n (pc' := 8) dX12_plainTell_7 rfl rfl ?_
  refine s_iload_n (pc' := 9) dX12_plainTell_8 rfl rfl ?_
  refine s_callV (pc' := 12) (As := [.int _, .int _]) dX12_plainTell_9 rfl mk_X12_fit ml_X12_327 im_X12_fit se_X12_X12_X12_fit sh_54 (by decide) rfl rfl rfl ⟨Nat.le_of_ble_eq_true rfl, Nat.le_of_ble_eq_true rfl, Nat.le_of_ble_eq_true rfl, Nat.le_of_ble_eq_true rfl⟩ (Nat.le_of_ble_eq_true rfl) (c_X12_fit (kd := kd) (rk := rk) (sc := sc) (t := t + 1) up2_s (by omega) hr (by rw [up2_d (by decide), up2_d (by decide)]; exact h60) (by rw [up2_d (by decide), up2_d (by decide)]; exact h62) (by rw [up2_d (by decide), up2_d (by decide)]; exact h63) ?_)
  refine t_istore_n (pc' := 13) (L' := [.ref 54, .int _, .int _, .int _]) dX12_plainTell_12 rfl (Nat.le_of_ble_eq_true rfl) rfl ?_
  refine s_iload_n (pc' := 14) dX12_plainTell_13 rfl rfl ?_
  refine s_aload_n (pc' := 15) dX12_plainTell_14 rfl rfl ?_
  refine s_iload_n (pc' := 16) dX12_plainTell_15 rfl rfl ?_
  refine s_iload_n (pc' := 17) dX12_plainTell_16 rfl rfl ?_
  refine s_callV (pc' := 20) (As := [.int _, .int _]) dX12_plainTell_17 rfl mk_X12_open ml_X12_325 im_X12_open se_X12_X12_X12_open sh_54 (by decide) rfl rfl rfl ⟨Nat.le_of_ble_eq_true rfl, Nat.le_of_ble_eq_true rfl, Nat.le_of_ble_eq_true rfl, Nat.le_of_ble_eq_true rfl⟩ (Nat.le_of_ble_eq_true rfl) (c_X12_open (kd := kd) (rk := rk) (sc := sc) (t := t + 1 + (ftL kd).length) (apM_t _ _ _ up2_s) (by omega) hr (by rw [apM_o (by decide) (by decide), up2_d (by decide), up2_d (by decide)]; exact h60) (by rw [apM_o (by decide) (by decide), up2_d (by decide), up2_d (by decide)]; exact h62) (by rw [apM_o (by decide) (by decide), up2_d (by decide), up2_d (by decide)]; exact h63) ?_)
  refine s_ixor (pc' := 21) dX12_plainTell_20 rfl ?_
  exact s_iret dX12_plainTell_21 rfl (by decide) (by decide) (by rw [apM_ap]; exact hk)
set_option maxHeartbeats 200000 in
theorem c_X12_tell {N : Nat} {S : Nat → Nat × Nat} {I : Nat → Nat → Int32} {J : Nat → Nat → Int64} {Q : Nat → Nat → Option Nat} {κ : Option Value → HP → Prop} {t : Nat} (ht : I 54 47 = nI t) (h50 : t + 13 ≤ 50) {r : Nat} {kd rk sc : Int32} (hr : r < 30) (h60 : I 60 r = kd) (h62 : I 62 r = rk) (h63 : I 63 r = sc) {x : Int32} (hk : κ (some (.int (tlV kd (nI r) rk sc x))) (N, S, (apM I t (tlL kd)), J, Q)) : CT E1 M_X12_tell [.ref 54, .int (nI r), .int x] (N, S, I, J, Q) κ := by
  refine ofSP mk_X12_tell (Nat.le_of_ble_eq_true rfl) (L := [.ref 54, .int _, .int _, .retAddr _]) rfl ?_
  have q1 := gvL_len kd
  have q2 := opL_len kd
  have q3 := pfL_len kd
  have q4 := ofL_len kd
  have q5 := ftL_len kd
  have q6 := ptL_len kd
  refine s_aload_n (pc' := 1) dX12_tell_0 rfl rfl ?_
  refine s_getS (pc' := 4) (b := 60) dX12_tell_1 rfl (by decide) rfl (by decide) fa_X12_25_12 rfl rfl ?_
  refine s_iload_n (pc' := 5) dX12_tell_4 rfl rfl ?_
  refine t_iald (pc' := 6) dX12_tell_5 rfl sh_60 rfl hr ?_
  refine s_iconst (pc' := 7) (v := 3) dX12_tell_6 rfl (by decide) ?_
  refine s_icmpeq (pc' := 10) (tgt := 17) dX12_tell_7 (by decide) rfl (fun c7 => ?_) (fun c7 => ?_)
  · refine s_aload_n (pc' := 18) dX12_tell_17 rfl rfl ?_
    refine s_bipush (pc' := 20) (v := 40) dX12_tell_18 rfl (by decide) ?_
    refine s_callV (pc' := 23) (As := [.int _]) dX12_tell_20 rfl mk_X12_notes ml_X12_307 im_X12_notes se_X12_X12_X12_notes sh_54 (by decide) rfl rfl rfl ⟨Nat.le_of_ble_eq_true rfl, Nat.le_of_ble_eq_true rfl, Nat.le_of_ble_eq_true rfl, Nat.le_of_ble_eq_true rfl⟩ (Nat.le_of_ble_eq_true rfl) (c_X12_notes (t := t) ht (by omega) ?_)
    refine s_aload_n (pc' := 24) dX12_tell_23 rfl rfl ?_
    refine s_iload_n (pc' := 25) dX12_tell_24 rfl rfl ?_
    refine s_iload_n (pc' := 26) dX12_tell_25 rfl rfl ?_
    refine s_callV (pc' := 29) (As := [.int _, .int _]) dX12_tell_26 rfl mk_X12_open ml_X12_325 im_X12_open se_X12_X12_X12_open sh_54 (by decide) rfl rfl rfl ⟨Nat.le_of_ble_eq_true rfl, Nat.le_of_ble_eq_true rfl, Nat.le_of_ble_eq_true rfl, Nat.le_of_ble_eq_true rfl⟩ (Nat.le_of_ble_eq_true rfl) (c_X12_open (kd := kd) (rk := rk) (sc := sc) (t := t + 1) up2_s (by omega) hr (by rw [up2_d (by decide), up2_d (by decide)]; exact h60) (by rw [up2_d (by decide), up2_d (by decide)]; exact h62) (by rw [up2_d (by decide), up2_d (by decide)]; exact h63) ?_)
    refine t_istore_n (pc' := 30) (L' := [.ref 54, .int _, .int _, .int _]) dX12_tell_29 rfl (Nat.le_of_ble_eq_true rfl) rfl ?_
    refine s_iload_n (pc' := 31) dX12_tell_30 rfl rfl ?_
    refine s_aload_n (pc' := 32) dX12_tell_31 rfl rfl ?_
    refine s_iload_n (pc' := 33) dX12_tell_32 rfl rfl ?_
    refine s_iload_n (pc' := 34) dX12_tell_33 rfl rfl ?_
    refine s_iconst (pc' := 35) (v := 1) dX12_tell_34 rfl (by decide) ?_
    refine s_iadd (pc' := 36) dX12_tell_35 rfl ?_
    refine s_callV (pc' := 39) (As := [.int _, .int _]) dX12_tell_36 rfl mk_X12_plainTell ml_X12_330 im_X12_plainTell se_X12_X12_X12_plainTell sh_54 (by decide) rfl rfl rfl ⟨Nat.le_of_ble_eq_true rfl, Nat.le_of_ble_eq_true rfl, Nat.le_of_ble_eq_true rfl, Nat.le_of_ble_eq_true rfl⟩ (Nat.le_of_ble_eq_true rfl) (c_X12_plainTell (kd := kd) (rk := rk) (sc := sc) (t := t + 1 + (opL kd).length) (apM_t _ _ _ up2_s) (by omega) hr (by rw [apM_o (by decide) (by decide), up2_d (by decide), up2_d (by decide)]; exact h60) (by rw [apM_o (by decide) (by decide), up2_d (by decide), up2_d (by decide)]; exact h62) (by rw [apM_o (by decide) (by decide), up2_d (by decide), up2_d (by decide)]; exact h63) ?_)
    refine s_isub (pc' := 40) dX12_tell_39 rfl ?_
    exact s_iret dX12_tell_40 rfl (by decide) (by decide) (by
    have e : kd = 3 := by rw [← h60]; exact c7
    unfold tlV tlL at hk; rw [if_pos e, if_pos e] at hk; rw [apM_ap]; exact hk)
  · refine s_aload_n (pc' := 11) dX12_tell_10 rfl rfl ?_
    refine s_iload_n (pc' := 12) dX12_tell_11 rfl rfl ?_
    refine s_iload_n (pc' := 13) dX12_tell_12 rfl rfl ?_
    refine s_callV (pc' := 16) (As := [.int _, .int _]) dX12_tell_13 rfl mk_X12_plainTell ml_X12_330 im_X12_plainTell se_X12_X12_X12_plainTell sh_54 (by decide) rfl rfl rfl ⟨Nat.le_of_ble_eq_true rfl, Nat.le_of_ble_eq_true rfl, Nat.le_of_ble_eq_true rfl, Nat.le_of_ble_eq_true rfl⟩ (Nat.le_of_ble_eq_true rfl) (c_X12_plainTell (kd := kd) (rk := rk) (sc := sc) (t := t) ht (by omega) hr (by exact h60) (by exact h62) (by exact h63) ?_)
    exact s_iret dX12_tell_16 rfl (by decide) (by decide) (by
    have e : kd ≠ 3 := by rw [← h60]; exact c7
    unfold tlV tlL at hk; rw [if_neg e, if_neg e] at hk; exact hk)
def acL (kd : Int32) (w : Nat) : List Int32 := if w = 0 then gvL kd else if w = 1 then ftL kd else if w = 2 then opL kd else tlL kd
def acV (kd k rk sc x : Int32) (w : Nat) : Int32 := if w = 0 then gvV kd k rk x else if w = 1 then ftV kd k rk sc x else if w = 2 then opV kd rk sc x else tlV kd k rk sc x
theorem in03 {w : Int32} (h : inR w 0 3) (h0 : w ≠ 0) (h1 : w ≠ 1) (h2 : w ≠ 2) : w = nI 3 := by
  have a0 : w.toInt ≠ 0 := fun z => h0 (Int32.toInt_inj.mp (by rw [z]; decide))
  have a1 : w.toInt ≠ 1 := fun z => h1 (Int32.toInt_inj.mp (by rw [z]; decide))
  have a2 : w.toInt ≠ 2 := fun z => h2 (Int32.toInt_inj.mp (by rw [z]; decide))
  have := h.1; have := h.2
  exact Int32.toInt_inj.mp (by rw [nI_toInt (by decide)]; omega)
set_option maxHeartbeats 200000 in
theorem c_X12_act {N : Nat} {S : Nat → Nat × Nat} {I : Nat → Nat → Int32} {J : Nat → Nat → Int64} {Q : Nat → Nat → Option Nat} {κ : Option Value → HP → Prop} {D : Nat → Nat → Int32} {nv nr ns : Nat} (M : MOD I J D nv nr ns) {x y z : Int32} (k1 : ((∀ j, j < nr → x ≠ nI j) ∨ ¬ inR y 0 3) → κ (some (.int (-1))) (N, S, up2 I 54 24 1, J, Q)) (k2 : ∀ r, r < nr → x = nI r → ∀ w, w < 4 → y = nI w → κ (some (.int (acV (D 60 r) (nI r) (D 62 r) (D 63 r) z w))) (N, S, (up2 (apM (up2 I 54 47 0) 0 (acL (D 60 r) w)) 54 24 0), J, Q)) : CT E1 M_X12_act [.ref 54, .int x, .int y, .int z] (N, S, I, J, Q) κ := by
  refine ofSP mk_X12_act (Nat.le_of_ble_eq_true rfl) (L := [.ref 54, .int _, .int _, .int _]) rfl ?_
  refine s_aload_n (pc' := 1) dX12_act_0 rfl rfl ?_
  refine s_iload_n (pc' := 2) dX12_act_1 rfl rfl ?_
  refine s_callV (pc' := 5) (As := [.int _]) dX12_act_2 rfl mk_X12_isRule ml_X12_190 im_X12_isRule se_X12_X12_X12_isRule sh_54 (by decide) rfl rfl rfl ⟨Nat.le_of_ble_eq_true rfl, Nat.le_of_ble_eq_true rfl, Nat.le_of_ble_eq_true rfl, Nat.le_of_ble_eq_true rfl⟩ (Nat.le_of_ble_eq_true rfl) (c_X12_isRule (M.2.1.rn M.1) (by have := M.2.1.nr; omega) (fun j2 hj2 e2 => ?_) (fun n2 => ?_))
  · subst e2
    refine s_ifeqF (pc' := 8) (tgt := 20) dX12_act_5 (by decide) rfl (by decide) ?_
    refine s_iload_n (pc' := 9) dX12_act_8 rfl rfl ?_
    refine s_i2l (pc' := 10) dX12_act_9 rfl ?_
    refine s_lconst (pc' := 11) (v := 0) dX12_act_10 rfl (by decide) ?_
    refine s_ldc2 (pc' := 14) dX12_act_11 rfl kl_X12_298 ?_
    refine s_callS (pc' := 17) (As := [.long _, .long _, .long _]) dX12_act_14 rfl mk_X12_isIn ml_X12_135 sm_X12_isIn rfl rfl ⟨Nat.le_of_ble_eq_true rfl, Nat.le_of_ble_eq_true rfl, Nat.le_of_ble_eq_true rfl, Nat.le_of_ble_eq_true rfl⟩ (Nat.le_of_ble_eq_true rfl) (c_isInR (a' := 0) (b' := 3) rfl rfl (fun i14 => ?_) (fun i14 => ?_))
    · refine s_ifneT (tgt := 26) dX12_act_17 (by decide) (by decide) ?_
      refine s_aload_n (pc' := 27) dX12_act_26 rfl rfl ?_
      refine s_iconst (pc' := 28) (v := 0) dX12_act_27 rfl (by decide) ?_
      refine t_putI (pc' := 31) dX12_act_28 rfl sh_54 (by decide) fa_X12_304_12 (Or.inl rfl) rfl rfl rfl ?_
      refine s_aload_n (pc' := 32) dX12_act_31 rfl rfl ?_
      refine s_iload_n (pc' := 33) dX12_act_32 rfl rfl ?_
      refine s_ifne (pc' := 36) (tgt := 45) dX12_act_33 (by decide) rfl (fun c33 => ?_) (fun c33 => ?_)
      · refine s_iload_n (pc' := 46) dX12_act_45 rfl rfl ?_
        refine s_iconst (pc' := 47) (v := 1) dX12_act_46 rfl (by decide) ?_
        refine s_icmpne (pc' := 50) (tgt := 59) dX12_act_47 (by decide) rfl (fun c47 => ?_) (fun c47 => ?_)
        · refine s_iload_n (pc' := 60) dX12_act_59 rfl rfl ?_
          refine s_iconst (pc' := 61) (v := 2) dX12_act_60 rfl (by decide) ?_
          refine s_icmpne (pc' := 64) (tgt := 73) dX12_act_61 (by decide) rfl (fun c61 => ?_) (fun c61 => ?_)
          · refine s_aload_n (pc' := 74) dX12_act_73 rfl rfl ?_
            refine s_iload_n (pc' := 75) dX12_act_74 rfl rfl ?_
            refine s_iload_n (pc' := 76) dX12_act_75 rfl rfl ?_
            refine s_callV (pc' := 79) (As := [.int _, .int _]) dX12_act_76 rfl mk_X12_tell ml_X12_333 im_X12_tell se_X12_X12_X12_tell sh_54 (by decide) rfl rfl rfl ⟨Nat.le_of_ble_eq_true rfl, Nat.le_of_ble_eq_true rfl, Nat.le_of_ble_eq_true rfl, Nat.le_of_ble_eq_true rfl⟩ (Nat.le_of_ble_eq_true rfl) (c_X12_tell (kd := D 60 j2) (rk := D 62 j2) (sc := D 63 j2) (t := 0) up2_s (by omega) (r := j2) (by have := M.2.1.nr; omega) (by rw [up2_d (by decide)]; rw [M.1 60 (by decide) (by decide)]) (by rw [up2_d (by decide)]; rw [M.1 62 (by decide) (by decide)]) (by rw [up2_d (by decide)]; rw [M.1 63 (by decide) (by decide)]) ?_)
            refine s_callV (pc' := 82) (As := [.int _]) dX12_act_79 rfl mk_X12_done ml_X12_157 im_X12_done se_X12_X12_X12_done sh_54 (by decide) rfl rfl rfl ⟨Nat.le_of_ble_eq_true rfl, Nat.le_of_ble_eq_true rfl, Nat.le_of_ble_eq_true rfl, Nat.le_of_ble_eq_true rfl⟩ (Nat.le_of_ble_eq_true rfl) (c_X12_done ?_)
            exact s_iret dX12_act_82 rfl (by decide) (by decide) (k2 j2 hj2 rfl 3 (by decide) (in03 i14 c33 c47 c61))
          · refine s_aload_n (pc' := 65) dX12_act_64 rfl rfl ?_
            refine s_iload_n (pc' := 66) dX12_act_65 rfl rfl ?_
            refine s_iload_n (pc' := 67) dX12_act_66 rfl rfl ?_
            refine s_callV (pc' := 70) (As := [.int _, .int _]) dX12_act_67 rfl mk_X12_open ml_X12_325 im_X12_open se_X12_X12_X12_open sh_54 (by decide) rfl rfl rfl ⟨Nat.le_of_ble_eq_true rfl, Nat.le_of_ble_eq_true rfl, Nat.le_of_ble_eq_true rfl, Nat.le_of_ble_eq_true rfl⟩ (Nat.le_of_ble_eq_true rfl) (c_X12_open (kd := D 60 j2) (rk := D 62 j2) (sc := D 63 j2) (t := 0) up2_s (by omega) (r := j2) (by have := M.2.1.nr; omega) (by rw [up2_d (by decide)]; rw [M.1 60 (by decide) (by decide)]) (by rw [up2_d (by decide)]; rw [M.1 62 (by decide) (by decide)]) (by rw [up2_d (by decide)]; rw [M.1 63 (by decide) (by decide)]) ?_)
            refine s_goto (tgt := 79) dX12_act_70 (by decide) ?_
            refine s_callV (pc' := 82) (As := [.int _]) dX12_act_79 rfl mk_X12_done ml_X12_157 im_X12_done se_X12_X12_X12_done sh_54 (by decide) rfl rfl rfl ⟨Nat.le_of_ble_eq_true rfl, Nat.le_of_ble_eq_true rfl, Nat.le_of_ble_eq_true rfl, Nat.le_of_ble_eq_true rfl⟩ (Nat.le_of_ble_eq_true rfl) (c_X12_done ?_)
            exact s_iret dX12_act_82 rfl (by decide) (by decide) (k2 j2 hj2 rfl 2 (by decide) (show y = (2 : Int32) by simpa using c61))
        · refine s_aload_n (pc' := 51) dX12_act_50 rfl rfl ?_
          refine s_iload_n (pc' := 52) dX12_act_51 rfl rfl ?_
          refine s_iload_n (pc' := 53) dX12_act_52 rfl rfl ?_
          refine s_callV (pc' := 56) (As := [.int _, .int _]) dX12_act_53 rfl mk_X12_fit ml_X12_327 im_X12_fit se_X12_X12_X12_fit sh_54 (by decide) rfl rfl rfl ⟨Nat.le_of_ble_eq_true rfl, Nat.le_of_ble_eq_true rfl, Nat.le_of_ble_eq_true rfl, Nat.le_of_ble_eq_true rfl⟩ (Nat.le_of_ble_eq_true rfl) (c_X12_fit (kd := D 60 j2) (rk := D 62 j2) (sc := D 63 j2) (t := 0) up2_s (by omega) (r := j2) (by have := M.2.1.nr; omega) (by rw [up2_d (by decide)]; rw [M.1 60 (by decide) (by decide)]) (by rw [up2_d (by decide)]; rw [M.1 62 (by decide) (by decide)]) (by rw [up2_d (by decide)]; rw [M.1 63 (by decide) (by decide)]) ?_)
          refine s_goto (tgt := 79) dX12_act_56 (by decide) ?_
          refine s_callV (pc' := 82) (As := [.int _]) dX12_act_79 rfl mk_X12_done ml_X12_157 im_X12_done se_X12_X12_X12_done sh_54 (by decide) rfl rfl rfl ⟨Nat.le_of_ble_eq_true rfl, Nat.le_of_ble_eq_true rfl, Nat.le_of_ble_eq_true rfl, Nat.le_of_ble_eq_true rfl⟩ (Nat.le_of_ble_eq_true rfl) (c_X12_done ?_)
          exact s_iret dX12_act_82 rfl (by decide) (by decide) (k2 j2 hj2 rfl 1 (by decide) (show y = (1 : Int32) by simpa using c47))
      · refine s_aload_n (pc' := 37) dX12_act_36 rfl rfl ?_
        refine s_iload_n (pc' := 38) dX12_act_37 rfl rfl ?_
        refine s_iload_n (pc' := 39) dX12_act_38 rfl rfl ?_
        refine s_callV (pc' := 42) (As := [.int _, .int _]) dX12_act_39 rfl mk_X12_give ml_X12_316 im_X12_give se_X12_X12_X12_give sh_54 (by decide) rfl rfl rfl ⟨Nat.le_of_ble_eq_true rfl, Nat.le_of_ble_eq_true rfl, Nat.le_of_ble_eq_true rfl, Nat.le_of_ble_eq_true rfl⟩ (Nat.le_of_ble_eq_true rfl) (c_X12_give (kd := D 60 j2) (rk := D 62 j2) (sc := D 63 j2) (t := 0) up2_s (by omega) (r := j2) (by have := M.2.1.nr; omega) (by rw [up2_d (by decide)]; rw [M.1 60 (by decide) (by decide)]) (by rw [up2_d (by decide)]; rw [M.1 62 (by decide) (by decide)]) (by rw [up2_d (by decide)]; rw [M.1 63 (by decide) (by decide)]) ?_)
        refine s_goto (tgt := 79) dX12_act_42 (by decide) ?_
        refine s_callV (pc' := 82) (As := [.int _]) dX12_act_79 rfl mk_X12_done ml_X12_157 im_X12_done se_X12_X12_X12_done sh_54 (by decide) rfl rfl rfl ⟨Nat.le_of_ble_eq_true rfl, Nat.le_of_ble_eq_true rfl, Nat.le_of_ble_eq_true rfl, Nat.le_of_ble_eq_true rfl⟩ (Nat.le_of_ble_eq_true rfl) (c_X12_done ?_)
        exact s_iret dX12_act_82 rfl (by decide) (by decide) (k2 j2 hj2 rfl 0 (by decide) (show y = (0 : Int32) by simpa using c33))
    · refine s_ifneF (pc' := 20) (tgt := 26) dX12_act_17 (by decide) rfl (by decide) ?_
      refine s_aload_n (pc' := 21) dX12_act_20 rfl rfl ?_
      refine s_iconst (pc' := 22) (v := 1) dX12_act_21 rfl (by decide) ?_
      refine s_callV (pc' := 25) (As := [.int _]) dX12_act_22 rfl mk_X12_refused ml_X12_149 im_X12_refused se_X12_X12_X12_refused sh_54 (by decide) rfl rfl rfl ⟨Nat.le_of_ble_eq_true rfl, Nat.le_of_ble_eq_true rfl, Nat.le_of_ble_eq_true rfl, Nat.le_of_ble_eq_true rfl⟩ (Nat.le_of_ble_eq_true rfl) (c_X12_refused ?_)
      exact s_iret dX12_act_25 rfl (by decide) (by decide) (k1 (Or.inr i14))
  · refine s_ifeqT (tgt := 20) dX12_act_5 (by decide) (by decide) ?_
    refine s_aload_n (pc' := 21) dX12_act_20 rfl rfl ?_
    refine s_iconst (pc' := 22) (v := 1) dX12_act_21 rfl (by decide) ?_
    refine s_callV (pc' := 25) (As := [.int _]) dX12_act_22 rfl mk_X12_refused ml_X12_149 im_X12_refused se_X12_X12_X12_refused sh_54 (by decide) rfl rfl rfl ⟨Nat.le_of_ble_eq_true rfl, Nat.le_of_ble_eq_true rfl, Nat.le_of_ble_eq_true rfl, Nat.le_of_ble_eq_true rfl⟩ (Nat.le_of_ble_eq_true rfl) (c_X12_refused ?_)
    exact s_iret dX12_act_25 rfl (by decide) (by decide) (k1 (Or.inl n2))
set_option maxHeartbeats 200000 in
theorem c_X12_trace {N : Nat} {S : Nat → Nat × Nat} {I : Nat → Nat → Int32} {J : Nat → Nat → Int64} {Q : Nat → Nat → Option Nat} {κ : Option Value → HP → Prop} {x : Int32} {t : Nat} (ht : I 54 47 = nI t) (h50 : t ≤ 50) (k1 : ∀ j, j < t → x = nI j → κ (some (.int (I 90 j))) (N, S, I, J, Q)) (k2 : (∀ j, j < t → x ≠ nI j) → κ (some (.int (-1))) (N, S, I, J, Q)) : CT E1 M_X12_trace [.ref 54, .int x] (N, S, I, J, Q) κ := by
  refine ofSP mk_X12_trace (Nat.le_of_ble_eq_true rfl) (L := [.ref 54, .int _]) rfl ?_
  refine s_iload_n (pc' := 1) dX12_trace_0 rfl rfl ?_
  refine s_i2l (pc' := 2) dX12_trace_1 rfl ?_
  refine s_lconst (pc' := 3) (v := 0) dX12_trace_2 rfl (by decide) ?_
  refine s_aload_n (pc' := 4) dX12_trace_3 rfl rfl ?_
  refine t_getI (pc' := 7) dX12_trace_4 rfl sh_54 (by decide) fa_X12_304_12 rfl ?_
  refine s_bipush (pc' := 9) (v := 50) dX12_trace_7 rfl (by decide) ?_
  refine s_icmpge (pc' := 12) (tgt := 19) dX12_trace_9 (by decide) rfl (fun c9 => ?_) (fun c9 => ?_)
  · rw [ht] at c9
    have e50 : t = 50 := by have := (nI_leI (a := 50) (b := t) (by decide) (by omega)).mp c9; omega
    refine s_bipush (pc' := 21) (v := 50) dX12_trace_19 rfl (by decide) ?_
    refine s_iconst (pc' := 22) (v := 1) dX12_trace_21 rfl (by decide) ?_
    refine s_isub (pc' := 23) dX12_trace_22 rfl ?_
    refine s_i2l (pc' := 24) dX12_trace_23 rfl ?_
    refine s_callS (pc' := 27) (As := [.long _, .long _, .long _]) dX12_trace_24 rfl mk_X12_isIn ml_X12_135 sm_X12_isIn rfl rfl ⟨Nat.le_of_ble_eq_true rfl, Nat.le_of_ble_eq_true rfl, Nat.le_of_ble_eq_true rfl, Nat.le_of_ble_eq_true rfl⟩ (Nat.le_of_ble_eq_true rfl) (c_isInR (a' := 0) (b' := (t : Int) - 1) rfl (by rw [e50]; exact nI_m1l (k := 50) (by decide)) (fun i24 => ?_) (fun i24 => ?_))
    · refine s_ifeqF (pc' := 30) (tgt := 39) dX12_trace_27 (by decide) rfl (by decide) ?_
      obtain ⟨j, hj, ej⟩ := inR_ix i24
      subst ej
      refine s_aload_n (pc' := 31) dX12_trace_30 rfl rfl ?_
      refine s_getS (pc' := 34) (b := 90) dX12_trace_31 rfl (by decide) rfl (by decide) fa_X12_117_12 rfl rfl ?_
      refine s_iload_n (pc' := 35) dX12_trace_34 rfl rfl ?_
      refine t_iald (pc' := 36) dX12_trace_35 rfl sh_90 rfl (by omega) ?_
      refine s_goto (tgt := 40) dX12_trace_36 (by decide) ?_
      exact s_iret dX12_trace_40 rfl (by decide) (by decide) (k1 j hj rfl)
    · refine s_ifeqT (tgt := 39) dX12_trace_27 (by decide) (by decide) ?_
      refine s_iconst (pc' := 40) (v := -1) dX12_trace_39 rfl (by decide) ?_
      exact s_iret dX12_trace_40 rfl (by decide) (by decide) (k2 (inR_nix (by omega) i24))
  · refine s_aload_n (pc' := 13) dX12_trace_12 rfl rfl ?_
    refine t_getI (pc' := 16) dX12_trace_13 rfl sh_54 (by decide) fa_X12_304_12 rfl ?_
    refine s_goto (tgt := 21) dX12_trace_16 (by decide) ?_
    refine s_iconst (pc' := 22) (v := 1) dX12_trace_21 rfl (by decide) ?_
    refine s_isub (pc' := 23) dX12_trace_22 rfl ?_
    refine s_i2l (pc' := 24) dX12_trace_23 rfl ?_
    refine s_callS (pc' := 27) (As := [.long _, .long _, .long _]) dX12_trace_24 rfl mk_X12_isIn ml_X12_135 sm_X12_isIn rfl rfl ⟨Nat.le_of_ble_eq_true rfl, Nat.le_of_ble_eq_true rfl, Nat.le_of_ble_eq_true rfl, Nat.le_of_ble_eq_true rfl⟩ (Nat.le_of_ble_eq_true rfl) (c_isInR (a' := 0) (b' := (t : Int) - 1) rfl (by rw [ht]; exact nI_m1l (by omega)) (fun i24 => ?_) (fun i24 => ?_))
    · refine s_ifeqF (pc' := 30) (tgt := 39) dX12_trace_27 (by decide) rfl (by decide) ?_
      obtain ⟨j, hj, ej⟩ := inR_ix i24
      subst ej
      refine s_aload_n (pc' := 31) dX12_trace_30 rfl rfl ?_
      refine s_getS (pc' := 34) (b := 90) dX12_trace_31 rfl (by decide) rfl (by decide) fa_X12_117_12 rfl rfl ?_
      refine s_iload_n (pc' := 35) dX12_trace_34 rfl rfl ?_
      refine t_iald (pc' := 36) dX12_trace_35 rfl sh_90 rfl (by omega) ?_
      refine s_goto (tgt := 40) dX12_trace_36 (by decide) ?_
      exact s_iret dX12_trace_40 rfl (by decide) (by decide) (k1 j hj rfl)
    · refine s_ifeqT (tgt := 39) dX12_trace_27 (by decide) (by decide) ?_
      refine s_iconst (pc' := 40) (v := -1) dX12_trace_39 rfl (by decide) ?_
      exact s_iret dX12_trace_40 rfl (by decide) (by decide) (k2 (inR_nix (by omega) i24))
