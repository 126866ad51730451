set_option maxHeartbeats 200000 in
theorem c_J9_floorMod_7cf53 {N : Nat} {S : Nat → Nat × Nat} {I : Nat → Nat → Int32} {J : Nat → Nat → Int64} {Q : Nat → Nat → Option Nat} {κ : Option Value → HP → Prop} {x m : Int32} (hm : m ≠ 0) (hk : κ (some (.int (mdX x m))) (N, S, I, J, Q)) : CT E1 M_J9_floorMod_7cf53 [.int x, .int m] (N, S, I, J, Q) κ := by
  refine ofSP mk_J9_floorMod_7cf53 (Nat.le_of_ble_eq_true rfl) (L := [.int _, .int _, .retAddr _]) rfl ?_
  refine s_iload_n (pc' := 1) dJ9_floorMod_7cf53_0 rfl rfl ?_
  refine s_iload_n (pc' := 2) dJ9_floorMod_7cf53_1 rfl rfl ?_
  refine s_irem (pc' := 3) dJ9_floorMod_7cf53_2 rfl hm ?_
  refine t_istore_n (pc' := 4) (L' := [.int _, .int _, .int _]) dJ9_floorMod_7cf53_3 rfl (Nat.le_of_ble_eq_true rfl) rfl ?_
  refine s_iload_n (pc' := 5) dJ9_floorMod_7cf53_4 rfl rfl ?_
  refine s_iload_n (pc' := 6) dJ9_floorMod_7cf53_5 rfl rfl ?_
  refine s_ixor (pc' := 7) dJ9_floorMod_7cf53_6 rfl ?_
  refine s_ifge (pc' := 10) (tgt := 18) dJ9_floorMod_7cf53_7 (by decide) rfl (fun c7 => ?_) (fun c7 => ?_)
  · refine s_iload_n (pc' := 19) dJ9_floorMod_7cf53_18 rfl rfl ?_
    exact s_iret dJ9_floorMod_7cf53_19 rfl (by decide) (by decide) (by unfold mdX at hk; rw [if_pos c7] at hk; exact hk)
  · refine s_iload_n (pc' := 11) dJ9_floorMod_7cf53_10 rfl rfl ?_
    refine s_ifeq (pc' := 14) (tgt := 18) dJ9_floorMod_7cf53_11 (by decide) rfl (fun c11 => ?_) (fun c11 => ?_)
    · refine s_iload_n (pc' := 19) dJ9_floorMod_7cf53_18 rfl rfl ?_
      exact s_iret dJ9_floorMod_7cf53_19 rfl (by decide) (by decide) (by unfold mdX at hk; rw [if_neg c7, if_pos c11] at hk; exact hk)
    · refine s_iload_n (pc' := 15) dJ9_floorMod_7cf53_14 rfl rfl ?_
      refine s_iload_n (pc' := 16) dJ9_floorMod_7cf53_15 rfl rfl ?_
      refine s_iadd (pc' := 17) dJ9_floorMod_7cf53_16 rfl ?_
      exact s_iret dJ9_floorMod_7cf53_17 rfl (by decide) (by decide) (by unfold mdX at hk; rw [if_neg c7, if_neg c11] at hk; exact hk)
theorem nops {k : Int32} (h : k = 0 ∨ k = 1 ∨ k = 2 ∨ k = 3 ∨ k = 4) (h2 : k ≠ 0 ∧ k ≠ 1 ∧ k ≠ 2 ∧ k ≠ 3 ∧ k ≠ 4) : False := by
  rcases h with z | z | z | z | z
  · exact h2.1 z
  · exact h2.2.1 z
  · exact h2.2.2.1 z
  · exact h2.2.2.2.1 z
  · exact h2.2.2.2.2 z
set_option maxHeartbeats 200000 in
theorem c_X11_takenForKindN {N : Nat} {S : Nat → Nat × Nat} {I : Nat → Nat → Int32} {J : Nat → Nat → Int64} {Q : Nat → Nat → Option Nat} {κ : Option Value → HP → Prop} {kd : Int32} (hk : κ (some (.int (-1))) (N, S, up2 I 0 5 10, J, Q)) : CT E1 M_X11_takenForKind [.ref 0, .null, .int kd] (N, S, I, J, Q) κ := by
  refine ofSP mk_X11_takenForKind (Nat.le_of_ble_eq_true rfl) (L := [.ref 0, .null, .int _, .retAddr _]) rfl ?_
  refine s_aload_nN (pc' := 1) dX11_takenForKind_0 rfl rfl ?_
  refine s_ifnonnullN (pc' := 4) dX11_takenForKind_1 rfl ?_
  refine s_aload_n (pc' := 5) dX11_takenForKind_4 rfl rfl ?_
  refine s_bipush (pc' := 7) (v := 10) dX11_takenForKind_5 rfl (by decide) ?_
  refine s_callV (pc' := 10) (As := [.int _]) dX11_takenForKind_7 rfl mk_X11_refused ml_X11_87 im_X11_refused se_X11_X11_X11_refused sh_0 (by decide) rfl rfl rfl ⟨Nat.le_of_ble_eq_true rfl, Nat.le_of_ble_eq_true rfl, Nat.le_of_ble_eq_true rfl, Nat.le_of_ble_eq_true rfl⟩ (Nat.le_of_ble_eq_true rfl) (c_X11_refused ?_)
  exact s_iret dX11_takenForKind_10 rfl (by decide) (by decide) hk
set_option maxHeartbeats 200000 in
theorem c_X11_takenForKind {N : Nat} {S : Nat → Nat × Nat} {I : Nat → Nat → Int32} {J : Nat → Nat → Int64} {Q : Nat → Nat → Option Nat} {κ : Option Value → HP → Prop} {D : Nat → Nat → Int32} {r a t : Nat} (R : RO N S I Q D r a t) {kd : Int32} (k1 : (kd = 0 ∨ D 60 r = kd ∨ (kd = 5 ∧ (D 60 r ≠ 0 ∧ D 60 r ≠ 1 ∧ D 60 r ≠ 2 ∧ D 60 r ≠ 3 ∧ D 60 r ≠ 4))) → κ (some (.int (D 60 r))) (N, S, up2 I 0 5 0, J, Q)) (k2 : ¬ (kd = 0 ∨ D 60 r = kd ∨ (kd = 5 ∧ (D 60 r ≠ 0 ∧ D 60 r ≠ 1 ∧ D 60 r ≠ 2 ∧ D 60 r ≠ 3 ∧ D 60 r ≠ 4))) → κ (some (.int (-1))) (N, S, up2 I 0 5 11, J, Q)) : CT E1 M_X11_takenForKind [.ref 0, .ref a, .int kd] (N, S, I, J, Q) κ := by
  refine ofSP mk_X11_takenForKind (Nat.le_of_ble_eq_true rfl) (L := [.ref 0, .ref _, .int _, .retAddr _]) rfl ?_
  refine s_aload_n (pc' := 1) dX11_takenForKind_0 rfl rfl ?_
  refine s_ifnonnull (tgt := 11) dX11_takenForKind_1 (by decide) ?_
  refine s_iload_n (pc' := 12) dX11_takenForKind_11 rfl rfl ?_
  refine s_ifeq (pc' := 15) (tgt := 35) dX11_takenForKind_12 (by decide) rfl (fun c12 => ?_) (fun c12 => ?_)
  · refine s_iconst (pc' := 36) (v := 1) dX11_takenForKind_35 rfl (by decide) ?_
    refine s_goto (tgt := 40) dX11_takenForKind_36 (by decide) ?_
    refine t_istore_n (pc' := 41) (L' := [.ref 0, .ref _, .int _, .int _]) dX11_takenForKind_40 rfl (Nat.le_of_ble_eq_true rfl) rfl ?_
    refine s_iload_n (pc' := 42) dX11_takenForKind_41 rfl rfl ?_
    refine s_ifeqF (pc' := 45) (tgt := 56) dX11_takenForKind_42 (by decide) rfl (by decide) ?_
    refine s_aload_n (pc' := 46) dX11_takenForKind_45 rfl rfl ?_
    refine s_aload_n (pc' := 47) dX11_takenForKind_46 rfl rfl ?_
    refine t_getI (pc' := 50) (j := 0) dX11_takenForKind_47 rfl R.sh (rk_lt (kc_rk _)) (fr_X11_220 (kc_rk _)) (by rw [rk_ft (kc_rk _) (by decide)]; rfl) ?_
    refine s_callV (pc' := 53) (As := [.int _]) dX11_takenForKind_50 rfl mk_X11_done ml_X11_100 im_X11_done se_X11_X11_X11_done sh_0 (by decide) rfl rfl rfl ⟨Nat.le_of_ble_eq_true rfl, Nat.le_of_ble_eq_true rfl, Nat.le_of_ble_eq_true rfl, Nat.le_of_ble_eq_true rfl⟩ (Nat.le_of_ble_eq_true rfl) (c_X11_done ?_)
    refine s_goto (tgt := 62) dX11_takenForKind_53 (by decide) ?_
    exact s_iret dX11_takenForKind_62 rfl (by decide) (by decide) (by rw [R.f0]; exact k1 (Or.inl c12))
  · refine s_aload_n (pc' := 16) dX11_takenForKind_15 rfl rfl ?_
    refine t_getI (pc' := 19) (j := 0) dX11_takenForKind_16 rfl R.sh (rk_lt (kc_rk _)) (fr_X11_220 (kc_rk _)) (by rw [rk_ft (kc_rk _) (by decide)]; rfl) ?_
    refine s_iload_n (pc' := 20) dX11_takenForKind_19 rfl rfl ?_
    refine s_icmpeq (pc' := 23) (tgt := 35) dX11_takenForKind_20 (by decide) rfl (fun c20 => ?_) (fun c20 => ?_)
    · refine s_iconst (pc' := 36) (v := 1) dX11_takenForKind_35 rfl (by decide) ?_
      refine s_goto (tgt := 40) dX11_takenForKind_36 (by decide) ?_
      refine t_istore_n (pc' := 41) (L' := [.ref 0, .ref _, .int _, .int _]) dX11_takenForKind_40 rfl (Nat.le_of_ble_eq_true rfl) rfl ?_
      refine s_iload_n (pc' := 42) dX11_takenForKind_41 rfl rfl ?_
      refine s_ifeqF (pc' := 45) (tgt := 56) dX11_takenForKind_42 (by decide) rfl (by decide) ?_
      refine s_aload_n (pc' := 46) dX11_takenForKind_45 rfl rfl ?_
      refine s_aload_n (pc' := 47) dX11_takenForKind_46 rfl rfl ?_
      refine t_getI (pc' := 50) (j := 0) dX11_takenForKind_47 rfl R.sh (rk_lt (kc_rk _)) (fr_X11_220 (kc_rk _)) (by rw [rk_ft (kc_rk _) (by decide)]; rfl) ?_
      refine s_callV (pc' := 53) (As := [.int _]) dX11_takenForKind_50 rfl mk_X11_done ml_X11_100 im_X11_done se_X11_X11_X11_done sh_0 (by decide) rfl rfl rfl ⟨Nat.le_of_ble_eq_true rfl, Nat.le_of_ble_eq_true rfl, Nat.le_of_ble_eq_true rfl, Nat.le_of_ble_eq_true rfl⟩ (Nat.le_of_ble_eq_true rfl) (c_X11_done ?_)
      refine s_goto (tgt := 62) dX11_takenForKind_53 (by decide) ?_
      exact s_iret dX11_takenForKind_62 rfl (by decide) (by decide) (by rw [R.f0]; exact k1 (Or.inr (Or.inl (by rw [← R.f0]; exact c20))))
    · refine s_iload_n (pc' := 24) dX11_takenForKind_23 rfl rfl ?_
      refine s_iconst (pc' := 25) (v := 5) dX11_takenForKind_24 rfl (by decide) ?_
      refine s_icmpne (pc' := 28) (tgt := 39) dX11_takenForKind_25 (by decide) rfl (fun c25 => ?_) (fun c25 => ?_)
      · refine s_iconst (pc' := 40) (v := 0) dX11_takenForKind_39 rfl (by decide) ?_
        refine t_istore_n (pc' := 41) (L' := [.ref 0, .ref _, .int _, .int _]) dX11_takenForKind_40 rfl (Nat.le_of_ble_eq_true rfl) rfl ?_
        refine s_iload_n (pc' := 42) dX11_takenForKind_41 rfl rfl ?_
        refine s_ifeqT (tgt := 56) dX11_takenForKind_42 (by decide) (by decide) ?_
        refine s_aload_n (pc' := 57) dX11_takenForKind_56 rfl rfl ?_
        refine s_bipush (pc' := 59) (v := 11) dX11_takenForKind_57 rfl (by decide) ?_
        refine s_callV (pc' := 62) (As := [.int _]) dX11_takenForKind_59 rfl mk_X11_refused ml_X11_87 im_X11_refused se_X11_X11_X11_refused sh_0 (by decide) rfl rfl rfl ⟨Nat.le_of_ble_eq_true rfl, Nat.le_of_ble_eq_true rfl, Nat.le_of_ble_eq_true rfl, Nat.le_of_ble_eq_true rfl⟩ (Nat.le_of_ble_eq_true rfl) (c_X11_refused ?_)
        exact s_iret dX11_takenForKind_62 rfl (by decide) (by decide) (k2 (fun q => q.elim c12 (fun q => q.elim (fun q => c20 (by rw [R.f0]; exact q)) (fun q => c25 q.1))))
      · refine s_aload_n (pc' := 29) dX11_takenForKind_28 rfl rfl ?_
        refine i_opens (pc' := 32) dX11_takenForKind_29 rfl R.sh cl_X11_379 (fun k29 => ?_) (fun k29 => ?_)
        · refine s_ifeqF (pc' := 35) (tgt := 39) dX11_takenForKind_32 (by decide) rfl (by decide) ?_
          refine s_iconst (pc' := 36) (v := 1) dX11_takenForKind_35 rfl (by decide) ?_
          refine s_goto (tgt := 40) dX11_takenForKind_36 (by decide) ?_
          refine t_istore_n (pc' := 41) (L' := [.ref 0, .ref _, .int _, .int _]) dX11_takenForKind_40 rfl (Nat.le_of_ble_eq_true rfl) rfl ?_
          refine s_iload_n (pc' := 42) dX11_takenForKind_41 rfl rfl ?_
          refine s_ifeqF (pc' := 45) (tgt := 56) dX11_takenForKind_42 (by decide) rfl (by decide) ?_
          refine s_aload_n (pc' := 46) dX11_takenForKind_45 rfl rfl ?_
          refine s_aload_n (pc' := 47) dX11_takenForKind_46 rfl rfl ?_
          refine t_getI (pc' := 50) (j := 0) dX11_takenForKind_47 rfl R.sh (rk_lt (kc_rk _)) (fr_X11_220 (kc_rk _)) (by rw [rk_ft (kc_rk _) (by decide)]; rfl) ?_
          refine s_callV (pc' := 53) (As := [.int _]) dX11_takenForKind_50 rfl mk_X11_done ml_X11_100 im_X11_done se_X11_X11_X11_done sh_0 (by decide) rfl rfl rfl ⟨Nat.le_of_ble_eq_true rfl, Nat.le_of_ble_eq_true rfl, Nat.le_of_ble_eq_true rfl, Nat.le_of_ble_eq_true rfl⟩ (Nat.le_of_ble_eq_true rfl) (c_X11_done ?_)
          refine s_goto (tgt := 62) dX11_takenForKind_53 (by decide) ?_
          exact s_iret dX11_takenForKind_62 rfl (by decide) (by decide) (by rw [R.f0]; exact k1 (Or.inr (Or.inr ⟨by first | exact c25 | exact Decidable.not_not.mp c25, k29⟩)))
        · refine s_ifeqT (tgt := 39) dX11_takenForKind_32 (by decide) (by decide) ?_
          refine s_iconst (pc' := 40) (v := 0) dX11_takenForKind_39 rfl (by decide) ?_
          refine t_istore_n (pc' := 41) (L' := [.ref 0, .ref _, .int _, .int _]) dX11_takenForKind_40 rfl (Nat.le_of_ble_eq_true rfl) rfl ?_
          refine s_iload_n (pc' := 42) dX11_takenForKind_41 rfl rfl ?_
          refine s_ifeqT (tgt := 56) dX11_takenForKind_42 (by decide) (by decide) ?_
          refine s_aload_n (pc' := 57) dX11_takenForKind_56 rfl rfl ?_
          refine s_bipush (pc' := 59) (v := 11) dX11_takenForKind_57 rfl (by decide) ?_
          refine s_callV (pc' := 62) (As := [.int _]) dX11_takenForKind_59 rfl mk_X11_refused ml_X11_87 im_X11_refused se_X11_X11_X11_refused sh_0 (by decide) rfl rfl rfl ⟨Nat.le_of_ble_eq_true rfl, Nat.le_of_ble_eq_true rfl, Nat.le_of_ble_eq_true rfl, Nat.le_of_ble_eq_true rfl⟩ (Nat.le_of_ble_eq_true rfl) (c_X11_refused ?_)
          exact s_iret dX11_takenForKind_62 rfl (by decide) (by decide) (k2 (fun q => q.elim c12 (fun q => q.elim (fun q => c20 (by rw [R.f0]; exact q)) (fun q => nops k29 q.2))))
set_option maxHeartbeats 200000 in
theorem c_X11_putAmongOpensN {N : Nat} {S : Nat → Nat × Nat} {I : Nat → Nat → Int32} {J : Nat → Nat → Int64} {Q : Nat → Nat → Option Nat} {κ : Option Value → HP → Prop} (hk : κ (some (.int 0)) (N, S, up2 I 0 5 0, J, Q)) : CT E1 M_X11_putAmongOpens [.ref 0, .null] (N, S, I, J, Q) κ := by
  refine ofSP mk_X11_putAmongOpens (Nat.le_of_ble_eq_true rfl) (L := [.ref 0, .null]) rfl ?_
  refine s_aload_nN (pc' := 1) dX11_putAmongOpens_0 rfl rfl ?_
  refine s_ifnonnullN (pc' := 4) dX11_putAmongOpens_1 rfl ?_
  refine s_aload_n (pc' := 5) dX11_putAmongOpens_4 rfl rfl ?_
  refine s_iconst (pc' := 6) (v := 0) dX11_putAmongOpens_5 rfl (by decide) ?_
  refine s_callV (pc' := 9) (As := [.int _]) dX11_putAmongOpens_6 rfl mk_X11_done ml_X11_100 im_X11_done se_X11_X11_X11_done sh_0 (by decide) rfl rfl rfl ⟨Nat.le_of_ble_eq_true rfl, Nat.le_of_ble_eq_true rfl, Nat.le_of_ble_eq_true rfl, Nat.le_of_ble_eq_true rfl⟩ (Nat.le_of_ble_eq_true rfl) (c_X11_done ?_)
  exact s_iret dX11_putAmongOpens_9 rfl (by decide) (by decide) hk
set_option maxHeartbeats 200000 in
theorem c_X11_putAmongOpens {N : Nat} {S : Nat → Nat × Nat} {I : Nat → Nat → Int32} {J : Nat → Nat → Int64} {Q : Nat → Nat → Option Nat} {κ : Option Value → HP → Prop} {D : Nat → Nat → Int32} {r a t : Nat} (R : RO N S I Q D r a t) (k1 : (D 60 r ≠ 0 ∧ D 60 r ≠ 1 ∧ D 60 r ≠ 2 ∧ D 60 r ≠ 3 ∧ D 60 r ≠ 4) → κ (some (.int (D 60 r))) (N, S, up2 I 0 5 0, J, Q)) (k2 : ¬ (D 60 r ≠ 0 ∧ D 60 r ≠ 1 ∧ D 60 r ≠ 2 ∧ D 60 r ≠ 3 ∧ D 60 r ≠ 4) → κ (some (.int (-1))) (N, S, up2 I 0 5 14, J, Q)) : CT E1 M_X11_putAmongOpens [.ref 0, .ref a] (N, S, I, J, Q) κ := by
  refine ofSP mk_X11_putAmongOpens (Nat.le_of_ble_eq_true rfl) (L := [.ref 0, .ref _]) rfl ?_
  refine s_aload_n (pc' := 1) dX11_putAmongOpens_0 rfl rfl ?_
  refine s_ifnonnull (tgt := 10) dX11_putAmongOpens_1 (by decide) ?_
  refine s_aload_n (pc' := 11) dX11_putAmongOpens_10 rfl rfl ?_
  refine i_opens (pc' := 14) dX11_putAmongOpens_11 rfl R.sh cl_X11_379 (fun k11 => ?_) (fun k11 => ?_)
  · refine s_ifeqF (pc' := 17) (tgt := 28) dX11_putAmongOpens_14 (by decide) rfl (by decide) ?_
    refine s_aload_n (pc' := 18) dX11_putAmongOpens_17 rfl rfl ?_
    refine s_aload_n (pc' := 19) dX11_putAmongOpens_18 rfl rfl ?_
    refine t_getI (pc' := 22) (j := 0) dX11_putAmongOpens_19 rfl R.sh (rk_lt (kc_rk _)) (fr_X11_220 (kc_rk _)) (by rw [rk_ft (kc_rk _) (by decide)]; rfl) ?_
    refine s_callV (pc' := 25) (As := [.int _]) dX11_putAmongOpens_22 rfl mk_X11_done ml_X11_100 im_X11_done se_X11_X11_X11_done sh_0 (by decide) rfl rfl rfl ⟨Nat.le_of_ble_eq_true rfl, Nat.le_of_ble_eq_true rfl, Nat.le_of_ble_eq_true rfl, Nat.le_of_ble_eq_true rfl⟩ (Nat.le_of_ble_eq_true rfl) (c_X11_done ?_)
    refine s_goto (tgt := 34) dX11_putAmongOpens_25 (by decide) ?_
    exact s_iret dX11_putAmongOpens_34 rfl (by decide) (by decide) (by rw [R.f0]; exact k1 k11)
  · refine s_ifeqT (tgt := 28) dX11_putAmongOpens_14 (by decide) (by decide) ?_
    refine s_aload_n (pc' := 29) dX11_putAmongOpens_28 rfl rfl ?_
    refine s_bipush (pc' := 31) (v := 14) dX11_putAmongOpens_29 rfl (by decide) ?_
    refine s_callV (pc' := 34) (As := [.int _]) dX11_putAmongOpens_31 rfl mk_X11_refused ml_X11_87 im_X11_refused se_X11_X11_X11_refused sh_0 (by decide) rfl rfl rfl ⟨Nat.le_of_ble_eq_true rfl, Nat.le_of_ble_eq_true rfl, Nat.le_of_ble_eq_true rfl, Nat.le_of_ble_eq_true rfl⟩ (Nat.le_of_ble_eq_true rfl) (c_X11_refused ?_)
    exact s_iret dX11_putAmongOpens_34 rfl (by decide) (by decide) (k2 (fun q => nops k11 q))
set_option maxHeartbeats 200000 in
theorem c_X11_readFromShorts {N : Nat} {S : Nat → Nat × Nat} {I : Nat → Nat → Int32} {J : Nat → Nat → Int64} {Q : Nat → Nat → Option Nat} {κ : Option Value → HP → Prop} (hq : ∀ s, s < 4 → Q 46 s = some (47 + s)) {s z : Nat} (hs : s < 4) (hz : z ≤ 40) (hz2 : I 52 s = nI z) {n : Int32} (k1 : I 51 s = -1 → κ (some (.int (-1))) (N, S, up2 I 0 5 10, J, Q)) (k2 : I 51 s ≠ -1 → I 51 s ≠ 1 → κ (some (.int (-1))) (N, S, up2 I 0 5 11, J, Q)) (k3 : I 51 s = 1 → (∀ j, j < z → n ≠ nI j) → κ (some (.int (-1))) (N, S, up2 I 0 5 12, J, Q)) (k4 : I 51 s = 1 → ∀ j, j < z → n = nI j → κ (some (.int (I (47 + s) j))) (N, S, up2 I 0 5 0, J, Q)) : CT E1 M_X11_readFromShorts [.ref 0, .int (nI s), .int n] (N, S, I, J, Q) κ := by
  refine ofSP mk_X11_readFromShorts (Nat.le_of_ble_eq_true rfl) (L := [.ref 0, .int _, .int _]) rfl ?_
  refine s_aload_n (pc' := 1) dX11_readFromShorts_0 rfl rfl ?_
  refine s_getS (pc' := 4) (b := 51) dX11_readFromShorts_1 rfl (by decide) rfl (by decide) fa_X11_69_11 rfl rfl ?_
  refine s_iload_n (pc' := 5) dX11_readFromShorts_4 rfl rfl ?_
  refine t_iald (pc' := 6) dX11_readFromShorts_5 rfl sh_51 rfl hs ?_
  refine s_iconst (pc' := 7) (v := -1) dX11_readFromShorts_6 rfl (by decide) ?_
  refine s_icmpne (pc' := 10) (tgt := 17) dX11_readFromShorts_7 (by decide) rfl (fun c7 => ?_) (fun c7 => ?_)
  · refine s_aload_n (pc' := 18) dX11_readFromShorts_17 rfl rfl ?_
    refine s_getS (pc' := 21) (b := 51) dX11_readFromShorts_18 rfl (by decide) rfl (by decide) fa_X11_69_11 rfl rfl ?_
    refine s_iload_n (pc' := 22) dX11_readFromShorts_21 rfl rfl ?_
    refine t_iald (pc' := 23) dX11_readFromShorts_22 rfl sh_51 rfl hs ?_
    refine s_iconst (pc' := 24) (v := 1) dX11_readFromShorts_23 rfl (by decide) ?_
    refine s_icmpeq (pc' := 27) (tgt := 34) dX11_readFromShorts_24 (by decide) rfl (fun c24 => ?_) (fun c24 => ?_)
    · refine s_iload_n (pc' := 35) dX11_readFromShorts_34 rfl rfl ?_
      refine s_iflt (pc' := 38) (tgt := 48) dX11_readFromShorts_35 (by decide) rfl (fun c35 => ?_) (fun c35 => ?_)
      · refine s_aload_n (pc' := 49) dX11_readFromShorts_48 rfl rfl ?_
        refine s_bipush (pc' := 51) (v := 12) dX11_readFromShorts_49 rfl (by decide) ?_
        refine s_callV (pc' := 54) (As := [.int _]) dX11_readFromShorts_51 rfl mk_X11_refused ml_X11_87 im_X11_refused se_X11_X11_X11_refused sh_0 (by decide) rfl rfl rfl ⟨Nat.le_of_ble_eq_true rfl, Nat.le_of_ble_eq_true rfl, Nat.le_of_ble_eq_true rfl, Nat.le_of_ble_eq_true rfl⟩ (Nat.le_of_ble_eq_true rfl) (c_X11_refused ?_)
        refine s_goto (tgt := 69) dX11_readFromShorts_54 (by decide) ?_
        exact s_iret dX11_readFromShorts_69 rfl (by decide) (by decide) (k3 c24 (fun j hj e => nI_pos (n := j) (by omega) (e ▸ c35)))
      · refine s_iload_n (pc' := 39) dX11_readFromShorts_38 rfl rfl ?_
        refine s_aload_n (pc' := 40) dX11_readFromShorts_39 rfl rfl ?_
        refine s_getS (pc' := 43) (b := 52) dX11_readFromShorts_40 rfl (by decide) rfl (by decide) fa_X11_72_11 rfl rfl ?_
        refine s_iload_n (pc' := 44) dX11_readFromShorts_43 rfl rfl ?_
        refine t_iald (pc' := 45) dX11_readFromShorts_44 rfl sh_52 rfl hs ?_
        refine s_icmplt (pc' := 48) (tgt := 57) dX11_readFromShorts_45 (by decide) rfl (fun c45 => ?_) (fun c45 => ?_)
        · obtain ⟨j, hj, ej⟩ := ix_in c35 (Int32.not_le.mpr (by rw [hz2] at c45; exact c45)) (by omega)
          refine s_aload_n (pc' := 58) dX11_readFromShorts_57 rfl rfl ?_
          refine s_aload_n (pc' := 59) dX11_readFromShorts_58 rfl rfl ?_
          refine s_getS (pc' := 62) (b := 46) dX11_readFromShorts_59 rfl (by decide) rfl (by decide) fa_X11_66_11 rfl rfl ?_
          refine s_iload_n (pc' := 63) dX11_readFromShorts_62 rfl rfl ?_
          refine t_aald (pc' := 64) dX11_readFromShorts_63 rfl (Or.inr rfl) sh_46 rfl hs (hq s hs) ?_
          refine s_iload_n (pc' := 65) dX11_readFromShorts_64 rfl rfl ?_
          refine t_iald (pc' := 66) dX11_readFromShorts_65 rfl (sh_47s hs) ej (by omega) ?_
          refine s_callV (pc' := 69) (As := [.int _]) dX11_readFromShorts_66 rfl mk_X11_done ml_X11_100 im_X11_done se_X11_X11_X11_done sh_0 (by decide) rfl rfl rfl ⟨Nat.le_of_ble_eq_true rfl, Nat.le_of_ble_eq_true rfl, Nat.le_of_ble_eq_true rfl, Nat.le_of_ble_eq_true rfl⟩ (Nat.le_of_ble_eq_true rfl) (c_X11_done ?_)
          exact s_iret dX11_readFromShorts_69 rfl (by decide) (by decide) (k4 c24 j hj ej)
        · refine s_aload_n (pc' := 49) dX11_readFromShorts_48 rfl rfl ?_
          refine s_bipush (pc' := 51) (v := 12) dX11_readFromShorts_49 rfl (by decide) ?_
          refine s_callV (pc' := 54) (As := [.int _]) dX11_readFromShorts_51 rfl mk_X11_refused ml_X11_87 im_X11_refused se_X11_X11_X11_refused sh_0 (by decide) rfl rfl rfl ⟨Nat.le_of_ble_eq_true rfl, Nat.le_of_ble_eq_true rfl, Nat.le_of_ble_eq_true rfl, Nat.le_of_ble_eq_true rfl⟩ (Nat.le_of_ble_eq_true rfl) (c_X11_refused ?_)
          refine s_goto (tgt := 69) dX11_readFromShorts_54 (by decide) ?_
          exact s_iret dX11_readFromShorts_69 rfl (by decide) (by decide) (k3 c24 (fun j hj e => c45 (by rw [hz2, e]; exact nI_lt hj (by omega))))
    · refine s_aload_n (pc' := 28) dX11_readFromShorts_27 rfl rfl ?_
      refine s_bipush (pc' := 30) (v := 11) dX11_readFromShorts_28 rfl (by decide) ?_
      refine s_callV (pc' := 33) (As := [.int _]) dX11_readFromShorts_30 rfl mk_X11_refused ml_X11_87 im_X11_refused se_X11_X11_X11_refused sh_0 (by decide) rfl rfl rfl ⟨Nat.le_of_ble_eq_true rfl, Nat.le_of_ble_eq_true rfl, Nat.le_of_ble_eq_true rfl, Nat.le_of_ble_eq_true rfl⟩ (Nat.le_of_ble_eq_true rfl) (c_X11_refused ?_)
      exact s_iret dX11_readFromShorts_33 rfl (by decide) (by decide) (k2 c7 c24)
  · refine s_aload_n (pc' := 11) dX11_readFromShorts_10 rfl rfl ?_
    refine s_bipush (pc' := 13) (v := 10) dX11_readFromShorts_11 rfl (by decide) ?_
    refine s_callV (pc' := 16) (As := [.int _]) dX11_readFromShorts_13 rfl mk_X11_refused ml_X11_87 im_X11_refused se_X11_X11_X11_refused sh_0 (by decide) rfl rfl rfl ⟨Nat.le_of_ble_eq_true rfl, Nat.le_of_ble_eq_true rfl, Nat.le_of_ble_eq_true rfl, Nat.le_of_ble_eq_true rfl⟩ (Nat.le_of_ble_eq_true rfl) (c_X11_refused ?_)
    exact s_iret dX11_readFromShorts_16 rfl (by decide) (by decide) (k1 (by first | exact c7 | exact Decidable.not_not.mp c7))
def csX (f : Nat → Int32) : Nat → Int32
  | 0 => 0
  | k + 1 => csX f k + f (k + 1)
theorem gt_s {k m : Nat} (h : k < m) (hm : m < 1000) : ¬ nI m < nI (k + 1) := Int32.not_lt.mpr (nI_le (by omega) (by omega))
set_option maxHeartbeats 200000 in
theorem l_X11_copied {N : Nat} {S : Nat → Nat × Nat} {I : Nat → Nat → Int32} {J : Nat → Nat → Int64} {Q : Nat → Nat → Option Nat} {κ : Option Value → HP → Prop} (hq : ∀ s, s < 4 → Q 46 s = some (47 + s)) {s m : Nat} (hs : s < 4) (hm : m ≤ 3) (hk : κ (some (.int (csX (I (47 + s)) m))) (N, S, up2 I 0 5 0, J, Q)) : ∀ d : Nat, ∀ k, k + d = m → SP E1 M_X11_copiedFromBytes κ 69 [.ref 0, .int (nI s), .int (nI m), .int (csX (I (47 + s)) k), .int (nI (k + 1))] [] (N, S, I, J, Q) 0 0 := by
  intro d
  induction d with
  | zero =>
    intro k hd
    obtain rfl : k = m := by omega
    refine s_iload (pc' := 71) dX11_copiedFromBytes_69 rfl rfl ?_
    refine s_iload_n (pc' := 72) dX11_copiedFromBytes_71 rfl rfl ?_
    refine s_icmpgtT (tgt := 93) dX11_copiedFromBytes_72 (by decide) (nI_lt (by omega) (by omega)) ?_
    refine s_aload_n (pc' := 94) dX11_copiedFromBytes_93 rfl rfl ?_
    refine s_iload_n (pc' := 95) dX11_copiedFromBytes_94 rfl rfl ?_
    refine s_callV (pc' := 98) (As := [.int _]) dX11_copiedFromBytes_95 rfl mk_X11_done ml_X11_100 im_X11_done se_X11_X11_X11_done sh_0 (by decide) rfl rfl rfl ⟨Nat.le_of_ble_eq_true rfl, Nat.le_of_ble_eq_true rfl, Nat.le_of_ble_eq_true rfl, Nat.le_of_ble_eq_true rfl⟩ (Nat.le_of_ble_eq_true rfl) (c_X11_done ?_)
    exact s_iret dX11_copiedFromBytes_98 rfl (by decide) (by decide) hk
  | succ d ih =>
    intro k hd
    refine s_iload (pc' := 71) dX11_copiedFromBytes_69 rfl rfl ?_
    refine s_iload_n (pc' := 72) dX11_copiedFromBytes_71 rfl rfl ?_
    refine s_icmpgtF (pc' := 75) (tgt := 93) dX11_copiedFromBytes_72 (by decide) rfl (gt_s (by omega) (by omega)) ?_
    refine s_iload_n (pc' := 76) dX11_copiedFromBytes_75 rfl rfl ?_
    refine s_aload_n (pc' := 77) dX11_copiedFromBytes_76 rfl rfl ?_
    refine s_getS (pc' := 80) (b := 46) dX11_copiedFromBytes_77 rfl (by decide) rfl (by decide) fa_X11_66_11 rfl rfl ?_
    refine s_iload_n (pc' := 81) dX11_copiedFromBytes_80 rfl rfl ?_
    refine t_aald (pc' := 82) dX11_copiedFromBytes_81 rfl (Or.inr rfl) sh_46 rfl hs (hq s hs) ?_
    refine s_iload (pc' := 84) dX11_copiedFromBytes_82 rfl rfl ?_
    refine t_iald (pc' := 85) (q := k + 1) dX11_copiedFromBytes_84 rfl (sh_47s hs) rfl (by omega) ?_
    refine s_iadd (pc' := 86) dX11_copiedFromBytes_85 rfl ?_
    refine t_istore_n (pc' := 87) (L' := [.ref 0, .int _, .int _, .int _, .int _]) dX11_copiedFromBytes_86 rfl (Nat.le_of_ble_eq_true rfl) rfl ?_
    refine t_iinc (pc' := 90) (v := nI (k + 1 + 1)) (L' := [.ref 0, .int _, .int _, .int _, .int _]) dX11_copiedFromBytes_87 rfl rfl (nI_inc (k + 1)) rfl ?_
    refine s_goto (tgt := 69) dX11_copiedFromBytes_90 (by decide) ?_
    exact ih (k + 1) (by omega)
set_option maxHeartbeats 200000 in
theorem c_X11_copiedFromBytes {N : Nat} {S : Nat → Nat × Nat} {I : Nat → Nat → Int32} {J : Nat → Nat → Int64} {Q : Nat → Nat → Option Nat} {κ : Option Value → HP → Prop} (hq : ∀ s, s < 4 → Q 46 s = some (47 + s)) {s z : Nat} (hs : s < 4) (hz : z ≤ 40) (hz2 : I 52 s = nI z) {n : Int32} (hn : inR n (-100) 100) (k1 : I 51 s = -1 → κ (some (.int (-1))) (N, S, up2 I 0 5 10, J, Q)) (k2 : I 51 s ≠ -1 → I 51 s ≠ 0 → κ (some (.int (-1))) (N, S, up2 I 0 5 11, J, Q)) (k3 : I 51 s = 0 → ¬ cpOk n z → κ (some (.int (-1))) (N, S, up2 I 0 5 12, J, Q)) (k4 : I 51 s = 0 → ∀ m, m ≤ 3 → m + 1 ≤ z → n = nI m → κ (some (.int (csX (I (47 + s)) m))) (N, S, up2 I 0 5 0, J, Q)) : CT E1 M_X11_copiedFromBytes [.ref 0, .int (nI s), .int n] (N, S, I, J, Q) κ := by
  refine ofSP mk_X11_copiedFromBytes (Nat.le_of_ble_eq_true rfl) (L := [.ref 0, .int _, .int _, .retAddr _, .retAddr _]) rfl ?_
  refine s_aload_n (pc' := 1) dX11_copiedFromBytes_0 rfl rfl ?_
  refine s_getS (pc' := 4) (b := 51) dX11_copiedFromBytes_1 rfl (by decide) rfl (by decide) fa_X11_69_11 rfl rfl ?_
  refine s_iload_n (pc' := 5) dX11_copiedFromBytes_4 rfl rfl ?_
  refine t_iald (pc' := 6) dX11_copiedFromBytes_5 rfl sh_51 rfl hs ?_
  refine s_iconst (pc' := 7) (v := -1) dX11_copiedFromBytes_6 rfl (by decide) ?_
  refine s_icmpne (pc' := 10) (tgt := 17) dX11_copiedFromBytes_7 (by decide) rfl (fun c7 => ?_) (fun c7 => ?_)
  · refine s_aload_n (pc' := 18) dX11_copiedFromBytes_17 rfl rfl ?_
    refine s_getS (pc' := 21) (b := 51) dX11_copiedFromBytes_18 rfl (by decide) rfl (by decide) fa_X11_69_11 rfl rfl ?_
    refine s_iload_n (pc' := 22) dX11_copiedFromBytes_21 rfl rfl ?_
    refine t_iald (pc' := 23) dX11_copiedFromBytes_22 rfl sh_51 rfl hs ?_
    refine s_ifeq (pc' := 26) (tgt := 33) dX11_copiedFromBytes_23 (by decide) rfl (fun c23 => ?_) (fun c23 => ?_)
    · refine s_iload_n (pc' := 34) dX11_copiedFromBytes_33 rfl rfl ?_
      refine s_iflt (pc' := 37) (tgt := 57) dX11_copiedFromBytes_34 (by decide) rfl (fun c34 => ?_) (fun c34 => ?_)
      · refine s_aload_n (pc' := 58) dX11_copiedFromBytes_57 rfl rfl ?_
        refine s_bipush (pc' := 60) (v := 12) dX11_copiedFromBytes_58 rfl (by decide) ?_
        refine s_callV (pc' := 63) (As := [.int _]) dX11_copiedFromBytes_60 rfl mk_X11_refused ml_X11_87 im_X11_refused se_X11_X11_X11_refused sh_0 (by decide) rfl rfl rfl ⟨Nat.le_of_ble_eq_true rfl, Nat.le_of_ble_eq_true rfl, Nat.le_of_ble_eq_true rfl, Nat.le_of_ble_eq_true rfl⟩ (Nat.le_of_ble_eq_true rfl) (c_X11_refused ?_)
        exact s_iret dX11_copiedFromBytes_63 rfl (by decide) (by decide) (k3 c23 (cp_no1 c34))
      · refine s_iconst (pc' := 38) (v := 1) dX11_copiedFromBytes_37 rfl (by decide) ?_
        refine s_iload_n (pc' := 39) dX11_copiedFromBytes_38 rfl rfl ?_
        refine s_iadd (pc' := 40) dX11_copiedFromBytes_39 rfl ?_
        refine s_aload_n (pc' := 41) dX11_copiedFromBytes_40 rfl rfl ?_
        refine s_getS (pc' := 44) (b := 52) dX11_copiedFromBytes_41 rfl (by decide) rfl (by decide) fa_X11_72_11 rfl rfl ?_
        refine s_iload_n (pc' := 45) dX11_copiedFromBytes_44 rfl rfl ?_
        refine t_iald (pc' := 46) dX11_copiedFromBytes_45 rfl sh_52 rfl hs ?_
        refine s_icmpgt (pc' := 49) (tgt := 57) dX11_copiedFromBytes_46 (by decide) rfl (fun c46 => ?_) (fun c46 => ?_)
        · refine s_aload_n (pc' := 58) dX11_copiedFromBytes_57 rfl rfl ?_
          refine s_bipush (pc' := 60) (v := 12) dX11_copiedFromBytes_58 rfl (by decide) ?_
          refine s_callV (pc' := 63) (As := [.int _]) dX11_copiedFromBytes_60 rfl mk_X11_refused ml_X11_87 im_X11_refused se_X11_X11_X11_refused sh_0 (by decide) rfl rfl rfl ⟨Nat.le_of_ble_eq_true rfl, Nat.le_of_ble_eq_true rfl, Nat.le_of_ble_eq_true rfl, Nat.le_of_ble_eq_true rfl⟩ (Nat.le_of_ble_eq_true rfl) (c_X11_refused ?_)
          exact s_iret dX11_copiedFromBytes_63 rfl (by decide) (by decide) (k3 c23 (cp_no2 hz (by rw [← hz2, Int32.add_comm]; exact c46)))
        · refine s_iload_n (pc' := 50) dX11_copiedFromBytes_49 rfl rfl ?_
          refine s_iload_n (pc' := 51) dX11_copiedFromBytes_50 rfl rfl ?_
          refine s_iadd (pc' := 52) dX11_copiedFromBytes_51 rfl ?_
          refine s_bipush (pc' := 54) (v := 6) dX11_copiedFromBytes_52 rfl (by decide) ?_
          refine s_icmple (pc' := 57) (tgt := 64) dX11_copiedFromBytes_54 (by decide) rfl (fun c54 => ?_) (fun c54 => ?_)
          · refine s_iconst (pc' := 65) (v := 0) dX11_copiedFromBytes_64 rfl (by decide) ?_
            refine t_istore_n (pc' := 66) (L' := [.ref 0, .int _, .int _, .int _, .retAddr _]) dX11_copiedFromBytes_65 rfl (Nat.le_of_ble_eq_true rfl) rfl ?_
            refine s_iconst (pc' := 67) (v := 1) dX11_copiedFromBytes_66 rfl (by decide) ?_
            refine t_istore (pc' := 69) (L' := [.ref 0, .int _, .int _, .int _, .int _]) dX11_copiedFromBytes_67 rfl (Nat.le_of_ble_eq_true rfl) rfl ?_
            obtain ⟨m, q1, q2, q3⟩ := cp_ok hn hz c34 (by rw [← hz2, Int32.add_comm]; exact c46) (Int32.not_lt.mpr c54)
            subst q3
            exact l_X11_copied hq hs q1 (k4 c23 m q1 q2 rfl) m 0 (by omega)
          · refine s_aload_n (pc' := 58) dX11_copiedFromBytes_57 rfl rfl ?_
            refine s_bipush (pc' := 60) (v := 12) dX11_copiedFromBytes_58 rfl (by decide) ?_
            refine s_callV (pc' := 63) (As := [.int _]) dX11_copiedFromBytes_60 rfl mk_X11_refused ml_X11_87 im_X11_refused se_X11_X11_X11_refused sh_0 (by decide) rfl rfl rfl ⟨Nat.le_of_ble_eq_true rfl, Nat.le_of_ble_eq_true rfl, Nat.le_of_ble_eq_true rfl, Nat.le_of_ble_eq_true rfl⟩ (Nat.le_of_ble_eq_true rfl) (c_X11_refused ?_)
            exact s_iret dX11_copiedFromBytes_63 rfl (by decide) (by decide) (k3 c23 (cp_no3 (Int32.not_le.mp c54)))
    · refine s_aload_n (pc' := 27) dX11_copiedFromBytes_26 rfl rfl ?_
      refine s_bipush (pc' := 29) (v := 11) dX11_copiedFromBytes_27 rfl (by decide) ?_
      refine s_callV (pc' := 32) (As := [.int _]) dX11_copiedFromBytes_29 rfl mk_X11_refused ml_X11_87 im_X11_refused se_X11_X11_X11_refused sh_0 (by decide) rfl rfl rfl ⟨Nat.le_of_ble_eq_true rfl, Nat.le_of_ble_eq_true rfl, Nat.le_of_ble_eq_true rfl, Nat.le_of_ble_eq_true rfl⟩ (Nat.le_of_ble_eq_true rfl) (c_X11_refused ?_)
      exact s_iret dX11_copiedFromBytes_32 rfl (by decide) (by decide) (k2 c7 c23)
  · refine s_aload_n (pc' := 11) dX11_copiedFromBytes_10 rfl rfl ?_
    refine s_bipush (pc' := 13) (v := 10) dX11_copiedFromBytes_11 rfl (by decide) ?_
    refine s_callV (pc' := 16) (As := [.int _]) dX11_copiedFromBytes_13 rfl mk_X11_refused ml_X11_87 im_X11_refused se_X11_X11_X11_refused sh_0 (by decide) rfl rfl rfl ⟨Nat.le_of_ble_eq_true rfl, Nat.le_of_ble_eq_true rfl, Nat.le_of_ble_eq_true rfl, Nat.le_of_ble_eq_true rfl⟩ (Nat.le_of_ble_eq_true rfl) (c_X11_refused ?_)
    exact s_iret dX11_copiedFromBytes_16 rfl (by decide) (by decide) (k1 (by first | exact c7 | exact Decidable.not_not.mp c7))
