theorem in_lt {x : Int32} {n : Nat} (h : inR x 0 n) : ∃ k, k < n + 1 ∧ x = nI k := by
  obtain ⟨k, h1, h2⟩ := in_n h
  exact ⟨k, by omega, h2⟩
theorem ix40 {s k : Nat} : (40 : Int32) * nI s + nI k = nI (40 * s + k) := by
  show nI 40 * nI s + nI k = _
  rw [pk_mul, nI_add]
def shI (I : Nat → Nat → Int32) (s : Nat) (b n : Int32) : Nat → Nat → Int32 := up2 (zcK (up2 (up2 I 91 s (b + 1)) 92 s (if b < 0 then 0 else n)) s 40) 54 24 0
set_option maxHeartbeats 200000 in
theorem l_X12_sheet {N : Nat} {S : Nat → Nat × Nat} {I : Nat → Nat → Int32} {J : Nat → Nat → Int64} {Q : Nat → Nat → Option Nat} {κ : Option Value → HP → Prop} {s : Nat} {b n : Int32} (hs : s < 4) (hk : κ (some (.int 1)) (N, S, (up2 (zcK I s 40) 54 24 0), J, Q)) : ∀ d : Nat, ∀ k, k + d = 40 → SP E1 M_X12_sheet κ 78 [.ref 54, .int (nI s), .int b, .int n, .int (nI (40 * s + k))] [] (N, S, zcK I s k, J, Q) 0 0 := by
  intro d
  induction d with
  | zero =>
    intro k hd
    obtain rfl : k = 40 := by omega
    refine s_iload (pc' := 80) dX12_sheet_78 rfl rfl ?_
    refine s_bipush (pc' := 82) (v := 40) dX12_sheet_80 rfl (by decide) ?_
    refine s_iload_n (pc' := 83) dX12_sheet_82 rfl rfl ?_
    refine s_imul (pc' := 84) dX12_sheet_83 rfl ?_
    refine s_bipush (pc' := 86) (v := 40) dX12_sheet_84 rfl (by decide) ?_
    refine s_iadd (pc' := 87) dX12_sheet_86 rfl ?_
    refine s_icmpgeT (tgt := 104) dX12_sheet_87 (by decide) (by rw [show (40 : Int32) * nI s + 40 = nI (40 * s + 40) from ix40]; exact nI_le (Nat.le_refl _) (by omega)) ?_
    refine s_aload_n (pc' := 105) dX12_sheet_104 rfl rfl ?_
    refine s_iconst (pc' := 106) (v := 1) dX12_sheet_105 rfl (by decide) ?_
    refine s_callV (pc' := 109) (As := [.int _]) dX12_sheet_106 rfl mk_X12_done ml_X12_157 im_X12_done se_X12_X12_X12_done sh_54 (by decide) rfl rfl rfl ⟨Nat.le_of_ble_eq_true rfl, Nat.le_of_ble_eq_true rfl, Nat.le_of_ble_eq_true rfl, Nat.le_of_ble_eq_true rfl⟩ (Nat.le_of_ble_eq_true rfl) (c_X12_done ?_)
    exact s_iret dX12_sheet_109 rfl (by decide) (by decide) hk
  | succ d ih =>
    intro k hd
    refine s_iload (pc' := 80) dX12_sheet_78 rfl rfl ?_
    refine s_bipush (pc' := 82) (v := 40) dX12_sheet_80 rfl (by decide) ?_
    refine s_iload_n (pc' := 83) dX12_sheet_82 rfl rfl ?_
    refine s_imul (pc' := 84) dX12_sheet_83 rfl ?_
    refine s_bipush (pc' := 86) (v := 40) dX12_sheet_84 rfl (by decide) ?_
    refine s_iadd (pc' := 87) dX12_sheet_86 rfl ?_
    refine s_icmpgeF (pc' := 90) (tgt := 104) dX12_sheet_87 (by decide) rfl (by rw [show (40 : Int32) * nI s + 40 = nI (40 * s + 40) from ix40]; exact nI_ge (by omega) (by omega)) ?_
    refine s_aload_n (pc' := 91) dX12_sheet_90 rfl rfl ?_
    refine s_getS (pc' := 94) (b := 93) dX12_sheet_91 rfl (by decide) rfl (by decide) fa_X12_126_12 rfl rfl ?_
    refine s_iload (pc' := 96) dX12_sheet_94 rfl rfl ?_
    refine s_iconst (pc' := 97) (v := 0) dX12_sheet_96 rfl (by decide) ?_
    refine t_iast (pc' := 98) dX12_sheet_97 rfl sh_93 rfl (by omega) ?_
    refine t_iinc (pc' := 101) (v := nI (40 * s + (k + 1))) (L' := [.ref 54, .int _, .int _, .int _, .int _]) dX12_sheet_98 rfl rfl (nI_inc (40 * s + k)) rfl ?_
    refine s_goto (tgt := 78) dX12_sheet_101 (by decide) ?_
    exact s_eq rfl rfl (by rw [zcK_s]) (ih (k + 1) (by omega))
set_option maxHeartbeats 200000 in
theorem c_X12_sheet {N : Nat} {S : Nat → Nat × Nat} {I : Nat → Nat → Int32} {J : Nat → Nat → Int64} {Q : Nat → Nat → Option Nat} {κ : Option Value → HP → Prop} {a b n : Int32} (k1 : ((∀ s, s < 4 → a ≠ nI s) ∨ ¬ inR b (-1) 2 ∨ (¬ b < 0 ∧ ¬ inR n 0 40)) → κ (some (.int (-1))) (N, S, up2 I 54 24 1, J, Q)) (k2 : ∀ s, s < 4 → a = nI s → inR b (-1) 2 → (¬ b < 0 → inR n 0 40) → κ (some (.int 1)) (N, S, (shI I s b n), J, Q)) : CT E1 M_X12_sheet [.ref 54, .int a, .int b, .int n] (N, S, I, J, Q) κ := by
  refine ofSP mk_X12_sheet (Nat.le_of_ble_eq_true rfl) (L := [.ref 54, .int _, .int _, .int _, .retAddr _]) rfl ?_
  refine s_iload_n (pc' := 1) dX12_sheet_0 rfl rfl ?_
  refine s_i2l (pc' := 2) dX12_sheet_1 rfl ?_
  refine s_lconst (pc' := 3) (v := 0) dX12_sheet_2 rfl (by decide) ?_
  refine s_ldc2 (pc' := 6) dX12_sheet_3 rfl kl_X12_298 ?_
  refine s_callS (pc' := 9) (As := [.long _, .long _, .long _]) dX12_sheet_6 rfl mk_X12_isIn ml_X12_135 sm_X12_isIn rfl rfl ⟨Nat.le_of_ble_eq_true rfl, Nat.le_of_ble_eq_true rfl, Nat.le_of_ble_eq_true rfl, Nat.le_of_ble_eq_true rfl⟩ (Nat.le_of_ble_eq_true rfl) (c_isInR (a' := 0) (b' := 3) rfl rfl (fun i6 => ?_) (fun i6 => ?_))
  · refine s_ifeqF (pc' := 12) (tgt := 42) dX12_sheet_9 (by decide) rfl (by decide) ?_
    refine s_iload_n (pc' := 13) dX12_sheet_12 rfl rfl ?_
    refine s_i2l (pc' := 14) dX12_sheet_13 rfl ?_
    refine s_ldc2 (pc' := 17) dX12_sheet_14 rfl kl_X12_336 ?_
    refine s_ldc2 (pc' := 20) dX12_sheet_17 rfl kl_X12_145 ?_
    refine s_callS (pc' := 23) (As := [.long _, .long _, .long _]) dX12_sheet_20 rfl mk_X12_isIn ml_X12_135 sm_X12_isIn rfl rfl ⟨Nat.le_of_ble_eq_true rfl, Nat.le_of_ble_eq_true rfl, Nat.le_of_ble_eq_true rfl, Nat.le_of_ble_eq_true rfl⟩ (Nat.le_of_ble_eq_true rfl) (c_isInR (a' := -1) (b' := 2) rfl rfl (fun i20 => ?_) (fun i20 => ?_))
    · refine s_ifeqF (pc' := 26) (tgt := 42) dX12_sheet_23 (by decide) rfl (by decide) ?_
      refine s_iload_n (pc' := 27) dX12_sheet_26 rfl rfl ?_
      refine s_iflt (pc' := 30) (tgt := 48) dX12_sheet_27 (by decide) rfl (fun c27 => ?_) (fun c27 => ?_)
      · obtain ⟨s, hs, es⟩ := in_lt (n := 3) i6
        subst es
        refine s_aload_n (pc' := 49) dX12_sheet_48 rfl rfl ?_
        refine s_getS (pc' := 52) (b := 91) dX12_sheet_49 rfl (by decide) rfl (by decide) fa_X12_120_12 rfl rfl ?_
        refine s_iload_n (pc' := 53) dX12_sheet_52 rfl rfl ?_
        refine s_iload_n (pc' := 54) dX12_sheet_53 rfl rfl ?_
        refine s_iconst (pc' := 55) (v := 1) dX12_sheet_54 rfl (by decide) ?_
        refine s_iadd (pc' := 56) dX12_sheet_55 rfl ?_
        refine t_iast (pc' := 57) dX12_sheet_56 rfl sh_91 rfl (by omega) ?_
        refine s_aload_n (pc' := 58) dX12_sheet_57 rfl rfl ?_
        refine s_getS (pc' := 61) (b := 92) dX12_sheet_58 rfl (by decide) rfl (by decide) fa_X12_123_12 rfl rfl ?_
        refine s_iload_n (pc' := 62) dX12_sheet_61 rfl rfl ?_
        refine s_iload_n (pc' := 63) dX12_sheet_62 rfl rfl ?_
        refine s_ifgeF (pc' := 66) (tgt := 70) dX12_sheet_63 (by decide) rfl (Int32.not_le.mpr c27) ?_
        refine s_iconst (pc' := 67) (v := 0) dX12_sheet_66 rfl (by decide) ?_
        refine s_goto (tgt := 71) dX12_sheet_67 (by decide) ?_
        refine t_iast (pc' := 72) dX12_sheet_71 rfl sh_92 rfl (by omega) ?_
        refine s_bipush (pc' := 74) (v := 40) dX12_sheet_72 rfl (by decide) ?_
        refine s_iload_n (pc' := 75) dX12_sheet_74 rfl rfl ?_
        refine s_imul (pc' := 76) dX12_sheet_75 rfl ?_
        refine t_istore (pc' := 78) (L' := [.ref 54, .int _, .int _, .int _, .int _]) dX12_sheet_76 rfl (Nat.le_of_ble_eq_true rfl) rfl ?_
        have z := k2 s (by omega) rfl i20 (fun y => absurd c27 y)
        unfold shI at z
        rw [if_pos c27] at z
        rw [show (40 : Int32) * nI s = nI (40 * s + 0) by have := ix40 (s := s) (k := 0); rw [show nI 0 = 0 from rfl, Int32.add_zero] at this; exact this]
        exact s_eq rfl rfl (by rw [zcK_0]) (l_X12_sheet (by omega) z 40 0 rfl)
      · refine s_iload_n (pc' := 31) dX12_sheet_30 rfl rfl ?_
        refine s_i2l (pc' := 32) dX12_sheet_31 rfl ?_
        refine s_lconst (pc' := 33) (v := 0) dX12_sheet_32 rfl (by decide) ?_
        refine s_ldc2 (pc' := 36) dX12_sheet_33 rfl kl_X12_338 ?_
        refine s_callS (pc' := 39) (As := [.long _, .long _, .long _]) dX12_sheet_36 rfl mk_X12_isIn ml_X12_135 sm_X12_isIn rfl rfl ⟨Nat.le_of_ble_eq_true rfl, Nat.le_of_ble_eq_true rfl, Nat.le_of_ble_eq_true rfl, Nat.le_of_ble_eq_true rfl⟩ (Nat.le_of_ble_eq_true rfl) (c_isInR (a' := 0) (b' := 40) rfl rfl (fun i36 => ?_) (fun i36 => ?_))
        · refine s_ifneT (tgt := 48) dX12_sheet_39 (by decide) (by decide) ?_
          obtain ⟨s, hs, es⟩ := in_lt (n := 3) i6
          subst es
          refine s_aload_n (pc' := 49) dX12_sheet_48 rfl rfl ?_
          refine s_getS (pc' := 52) (b := 91) dX12_sheet_49 rfl (by decide) rfl (by decide) fa_X12_120_12 rfl rfl ?_
          refine s_iload_n (pc' := 53) dX12_sheet_52 rfl rfl ?_
          refine s_iload_n (pc' := 54) dX12_sheet_53 rfl rfl ?_
          refine s_iconst (pc' := 55) (v := 1) dX12_sheet_54 rfl (by decide) ?_
          refine s_iadd (pc' := 56) dX12_sheet_55 rfl ?_
          refine t_iast (pc' := 57) dX12_sheet_56 rfl sh_91 rfl (by omega) ?_
          refine s_aload_n (pc' := 58) dX12_sheet_57 rfl rfl ?_
          refine s_getS (pc' := 61) (b := 92) dX12_sheet_58 rfl (by decide) rfl (by decide) fa_X12_123_12 rfl rfl ?_
          refine s_iload_n (pc' := 62) dX12_sheet_61 rfl rfl ?_
          refine s_iload_n (pc' := 63) dX12_sheet_62 rfl rfl ?_
          refine s_ifgeT (tgt := 70) dX12_sheet_63 (by decide) (Int32.not_lt.mp c27) ?_
          refine s_iload_n (pc' := 71) dX12_sheet_70 rfl rfl ?_
          refine t_iast (pc' := 72) dX12_sheet_71 rfl sh_92 rfl (by omega) ?_
          refine s_bipush (pc' := 74) (v := 40) dX12_sheet_72 rfl (by decide) ?_
          refine s_iload_n (pc' := 75) dX12_sheet_74 rfl rfl ?_
          refine s_imul (pc' := 76) dX12_sheet_75 rfl ?_
          refine t_istore (pc' := 78) (L' := [.ref 54, .int _, .int _, .int _, .int _]) dX12_sheet_76 rfl (Nat.le_of_ble_eq_true rfl) rfl ?_
          have z := k2 s (by omega) rfl i20 (fun _ => i36)
          unfold shI at z
          rw [if_neg c27] at z
          rw [show (40 : Int32) * nI s = nI (40 * s + 0) by have := ix40 (s := s) (k := 0); rw [show nI 0 = 0 from rfl, Int32.add_zero] at this; exact this]
          exact s_eq rfl rfl (by rw [zcK_0]) (l_X12_sheet (by omega) z 40 0 rfl)
        · refine s_ifneF (pc' := 42) (tgt := 48) dX12_sheet_39 (by decide) rfl (by decide) ?_
          refine s_aload_n (pc' := 43) dX12_sheet_42 rfl rfl ?_
          refine s_iconst (pc' := 44) (v := 1) dX12_sheet_43 rfl (by decide) ?_
          refine s_callV (pc' := 47) (As := [.int _]) dX12_sheet_44 rfl mk_X12_refused ml_X12_149 im_X12_refused se_X12_X12_X12_refused sh_54 (by decide) rfl rfl rfl ⟨Nat.le_of_ble_eq_true rfl, Nat.le_of_ble_eq_true rfl, Nat.le_of_ble_eq_true rfl, Nat.le_of_ble_eq_true rfl⟩ (Nat.le_of_ble_eq_true rfl) (c_X12_refused ?_)
          exact s_iret dX12_sheet_47 rfl (by decide) (by decide) (k1 (Or.inr (Or.inr ⟨c27, i36⟩)))
    · refine s_ifeqT (tgt := 42) dX12_sheet_23 (by decide) (by decide) ?_
      refine s_aload_n (pc' := 43) dX12_sheet_42 rfl rfl ?_
      refine s_iconst (pc' := 44) (v := 1) dX12_sheet_43 rfl (by decide) ?_
      refine s_callV (pc' := 47) (As := [.int _]) dX12_sheet_44 rfl mk_X12_refused ml_X12_149 im_X12_refused se_X12_X12_X12_refused sh_54 (by decide) rfl rfl rfl ⟨Nat.le_of_ble_eq_true rfl, Nat.le_of_ble_eq_true rfl, Nat.le_of_ble_eq_true rfl, Nat.le_of_ble_eq_true rfl⟩ (Nat.le_of_ble_eq_true rfl) (c_X12_refused ?_)
      exact s_iret dX12_sheet_47 rfl (by decide) (by decide) (k1 (Or.inr (Or.inl i20)))
  · refine s_ifeqT (tgt := 42) dX12_sheet_9 (by decide) (by decide) ?_
    refine s_aload_n (pc' := 43) dX12_sheet_42 rfl rfl ?_
    refine s_iconst (pc' := 44) (v := 1) dX12_sheet_43 rfl (by decide) ?_
    refine s_callV (pc' := 47) (As := [.int _]) dX12_sheet_44 rfl mk_X12_refused ml_X12_149 im_X12_refused se_X12_X12_X12_refused sh_54 (by decide) rfl rfl rfl ⟨Nat.le_of_ble_eq_true rfl, Nat.le_of_ble_eq_true rfl, Nat.le_of_ble_eq_true rfl, Nat.le_of_ble_eq_true rfl⟩ (Nat.le_of_ble_eq_true rfl) (c_X12_refused ?_)
    exact s_iret dX12_sheet_47 rfl (by decide) (by decide) (k1 (Or.inl (fun s hs e => i6 (by rw [e]; exact nI_in2 (n := 3) (by omega) (by decide)))))
set_option maxHeartbeats 200000 in
theorem c_X12_byteOf {N : Nat} {S : Nat → Nat × Nat} {I : Nat → Nat → Int32} {J : Nat → Nat → Int64} {Q : Nat → Nat → Option Nat} {κ : Option Value → HP → Prop} {v : Int32} (hk : κ (some (.int (byo v))) (N, S, I, J, Q)) : CT E1 M_X12_byteOf [.int v] (N, S, I, J, Q) κ := by
  refine ofSP mk_X12_byteOf (Nat.le_of_ble_eq_true rfl) (L := [.int _, .retAddr _]) rfl ?_
  refine s_iload_n (pc' := 1) dX12_byteOf_0 rfl rfl ?_
  refine s_sipush (pc' := 4) (v := 255) dX12_byteOf_1 rfl (by decide) ?_
  refine s_iand (pc' := 5) dX12_byteOf_4 rfl ?_
  refine t_istore_n (pc' := 6) (L' := [.int _, .int _]) dX12_byteOf_5 rfl (Nat.le_of_ble_eq_true rfl) rfl ?_
  refine s_iload_n (pc' := 7) dX12_byteOf_6 rfl rfl ?_
  refine s_bipush (pc' := 9) (v := 127) dX12_byteOf_7 rfl (by decide) ?_
  refine s_icmple (pc' := 12) (tgt := 20) dX12_byteOf_9 (by decide) rfl (fun c9 => ?_) (fun c9 => ?_)
  · refine s_iload_n (pc' := 21) dX12_byteOf_20 rfl rfl ?_
    exact s_iret dX12_byteOf_21 rfl (by decide) (by decide) (by unfold byo at hk; rw [if_neg (Int32.not_lt.mpr c9)] at hk; exact hk)
  · refine s_iload_n (pc' := 13) dX12_byteOf_12 rfl rfl ?_
    refine s_sipush (pc' := 16) (v := 256) dX12_byteOf_13 rfl (by decide) ?_
    refine s_isub (pc' := 17) dX12_byteOf_16 rfl ?_
    refine s_goto (tgt := 21) dX12_byteOf_17 (by decide) ?_
    exact s_iret dX12_byteOf_21 rfl (by decide) (by decide) (by unfold byo at hk; rw [if_pos (Int32.not_le.mp c9)] at hk; exact hk)
set_option maxHeartbeats 200000 in
theorem c_X12_cell {N : Nat} {S : Nat → Nat × Nat} {I : Nat → Nat → Int32} {J : Nat → Nat → Int64} {Q : Nat → Nat → Option Nat} {κ : Option Value → HP → Prop} {a i v : Int32} (hS : ∀ s, s < 4 → ∃ z, z ≤ 40 ∧ I 92 s = nI z) (k1 : ((∀ s, s < 4 → a ≠ nI s) ∨ ¬ inR v (-1000) 1000) → κ (some (.int (-1))) (N, S, up2 I 54 24 1, J, Q)) (k2 : ∀ s, s < 4 → a = nI s → inR v (-1000) 1000 → I 91 s = 0 → κ (some (.int (-1))) (N, S, up2 I 54 24 10, J, Q)) (k3 : ∀ s, s < 4 → a = nI s → inR v (-1000) 1000 → I 91 s ≠ 0 → ∀ z, z ≤ 40 → I 92 s = nI z → (∀ j, j < z → i ≠ nI j) → κ (some (.int (-1))) (N, S, up2 I 54 24 12, J, Q)) (k4 : ∀ s, s < 4 → a = nI s → inR v (-1000) 1000 → I 91 s ≠ 0 → ∀ z, z ≤ 40 → I 92 s = nI z → ∀ j, j < z → i = nI j → κ (some (.int 1)) (N, S, (up2 (up2 I 93 (40 * s + j) (if I 91 s = 1 then byo v else v)) 54 24 0), J, Q)) : CT E1 M_X12_cell [.ref 54, .int a, .int i, .int v] (N, S, I, J, Q) κ := by
  refine ofSP mk_X12_cell (Nat.le_of_ble_eq_true rfl) (L := [.ref 54, .int _, .int _, .int _]) rfl ?_
  refine s_iload_n (pc' := 1) dX12_cell_0 rfl rfl ?_
  refine s_i2l (pc' := 2) dX12_cell_1 rfl ?_
  refine s_lconst (pc' := 3) (v := 0) dX12_cell_2 rfl (by decide) ?_
  refine s_ldc2 (pc' := 6) dX12_cell_3 rfl kl_X12_298 ?_
  refine s_callS (pc' := 9) (As := [.long _, .long _, .long _]) dX12_cell_6 rfl mk_X12_isIn ml_X12_135 sm_X12_isIn rfl rfl ⟨Nat.le_of_ble_eq_true rfl, Nat.le_of_ble_eq_true rfl, Nat.le_of_ble_eq_true rfl, Nat.le_of_ble_eq_true rfl⟩ (Nat.le_of_ble_eq_true rfl) (c_isInR (a' := 0) (b' := 3) rfl rfl (fun i6 => ?_) (fun i6 => ?_))
  · refine s_ifeqF (pc' := 12) (tgt := 26) dX12_cell_9 (by decide) rfl (by decide) ?_
    refine s_iload_n (pc' := 13) dX12_cell_12 rfl rfl ?_
    refine s_i2l (pc' := 14) dX12_cell_13 rfl ?_
    refine s_ldc2 (pc' := 17) dX12_cell_14 rfl kl_X12_173 ?_
    refine s_ldc2 (pc' := 20) dX12_cell_17 rfl kl_X12_175 ?_
    refine s_callS (pc' := 23) (As := [.long _, .long _, .long _]) dX12_cell_20 rfl mk_X12_isIn ml_X12_135 sm_X12_isIn rfl rfl ⟨Nat.le_of_ble_eq_true rfl, Nat.le_of_ble_eq_true rfl, Nat.le_of_ble_eq_true rfl, Nat.le_of_ble_eq_true rfl⟩ (Nat.le_of_ble_eq_true rfl) (c_isInR (a' := -1000) (b' := 1000) rfl rfl (fun i20 => ?_) (fun i20 => ?_))
    · refine s_ifneT (tgt := 32) dX12_cell_23 (by decide) (by decide) ?_
      obtain ⟨s, hs, es⟩ := in_lt (n := 3) i6
      subst es
      obtain ⟨z, hz40, hz⟩ := hS s (by omega)
      refine s_aload_n (pc' := 33) dX12_cell_32 rfl rfl ?_
      refine s_getS (pc' := 36) (b := 91) dX12_cell_33 rfl (by decide) rfl (by decide) fa_X12_120_12 rfl rfl ?_
      refine s_iload_n (pc' := 37) dX12_cell_36 rfl rfl ?_
      refine t_iald (pc' := 38) dX12_cell_37 rfl sh_91 rfl (by omega) ?_
      refine s_ifne (pc' := 41) (tgt := 48) dX12_cell_38 (by decide) rfl (fun c38 => ?_) (fun c38 => ?_)
      · refine s_iload_n (pc' := 49) dX12_cell_48 rfl rfl ?_
        refine s_i2l (pc' := 50) dX12_cell_49 rfl ?_
        refine s_lconst (pc' := 51) (v := 0) dX12_cell_50 rfl (by decide) ?_
        refine s_aload_n (pc' := 52) dX12_cell_51 rfl rfl ?_
        refine s_getS (pc' := 55) (b := 92) dX12_cell_52 rfl (by decide) rfl (by decide) fa_X12_123_12 rfl rfl ?_
        refine s_iload_n (pc' := 56) dX12_cell_55 rfl rfl ?_
        refine t_iald (pc' := 57) dX12_cell_56 rfl sh_92 rfl (by omega) ?_
        refine s_iconst (pc' := 58) (v := 1) dX12_cell_57 rfl (by decide) ?_
        refine s_isub (pc' := 59) dX12_cell_58 rfl ?_
        refine s_i2l (pc' := 60) dX12_cell_59 rfl ?_
        refine s_callS (pc' := 63) (As := [.long _, .long _, .long _]) dX12_cell_60 rfl mk_X12_isIn ml_X12_135 sm_X12_isIn rfl rfl ⟨Nat.le_of_ble_eq_true rfl, Nat.le_of_ble_eq_true rfl, Nat.le_of_ble_eq_true rfl, Nat.le_of_ble_eq_true rfl⟩ (Nat.le_of_ble_eq_true rfl) (c_isInR (a' := 0) (b' := (z : Int) - 1) rfl (by rw [hz]; exact nI_m1l (by omega)) (fun i60 => ?_) (fun i60 => ?_))
        · refine s_ifneT (tgt := 73) dX12_cell_63 (by decide) (by decide) ?_
          obtain ⟨j, hj, ej⟩ := inR_ix i60
          subst ej
          refine s_aload_n (pc' := 74) dX12_cell_73 rfl rfl ?_
          refine s_getS (pc' := 77) (b := 93) dX12_cell_74 rfl (by decide) rfl (by decide) fa_X12_126_12 rfl rfl ?_
          refine s_bipush (pc' := 79) (v := 40) dX12_cell_77 rfl (by decide) ?_
          refine s_iload_n (pc' := 80) dX12_cell_79 rfl rfl ?_
          refine s_imul (pc' := 81) dX12_cell_80 rfl ?_
          refine s_iload_n (pc' := 82) dX12_cell_81 rfl rfl ?_
          refine s_iadd (pc' := 83) dX12_cell_82 rfl ?_
          refine s_aload_n (pc' := 84) dX12_cell_83 rfl rfl ?_
          refine s_getS (pc' := 87) (b := 91) dX12_cell_84 rfl (by decide) rfl (by decide) fa_X12_120_12 rfl rfl ?_
          refine s_iload_n (pc' := 88) dX12_cell_87 rfl rfl ?_
          refine t_iald (pc' := 89) dX12_cell_88 rfl sh_91 rfl (by omega) ?_
          refine s_iconst (pc' := 90) (v := 1) dX12_cell_89 rfl (by decide) ?_
          refine s_icmpne (pc' := 93) (tgt := 100) dX12_cell_90 (by decide) rfl (fun c90 => ?_) (fun c90 => ?_)
          · refine s_iload_n (pc' := 101) dX12_cell_100 rfl rfl ?_
            refine t_iast (pc' := 102) (q := 40 * s + j) dX12_cell_101 rfl sh_93 ix40 (by omega) ?_
            refine s_aload_n (pc' := 103) dX12_cell_102 rfl rfl ?_
            refine s_iconst (pc' := 104) (v := 1) dX12_cell_103 rfl (by decide) ?_
            refine s_callV (pc' := 107) (As := [.int _]) dX12_cell_104 rfl mk_X12_done ml_X12_157 im_X12_done se_X12_X12_X12_done sh_54 (by decide) rfl rfl rfl ⟨Nat.le_of_ble_eq_true rfl, Nat.le_of_ble_eq_true rfl, Nat.le_of_ble_eq_true rfl, Nat.le_of_ble_eq_true rfl⟩ (Nat.le_of_ble_eq_true rfl) (c_X12_done ?_)
            exact s_iret dX12_cell_107 rfl (by decide) (by decide) (by have q := k4 s (by omega) rfl i20 c38 z (by omega) hz j hj rfl; rw [if_neg c90] at q; exact q)
          · refine s_iload_n (pc' := 94) dX12_cell_93 rfl rfl ?_
            refine s_callS (pc' := 97) (As := [.int _]) dX12_cell_94 rfl mk_X12_byteOf ml_X12_340 sm_X12_byteOf rfl rfl ⟨Nat.le_of_ble_eq_true rfl, Nat.le_of_ble_eq_true rfl, Nat.le_of_ble_eq_true rfl, Nat.le_of_ble_eq_true rfl⟩ (Nat.le_of_ble_eq_true rfl) (c_X12_byteOf ?_)
            refine s_goto (tgt := 101) dX12_cell_97 (by decide) ?_
            refine t_iast (pc' := 102) (q := 40 * s + j) dX12_cell_101 rfl sh_93 ix40 (by omega) ?_
            refine s_aload_n (pc' := 103) dX12_cell_102 rfl rfl ?_
            refine s_iconst (pc' := 104) (v := 1) dX12_cell_103 rfl (by decide) ?_
            refine s_callV (pc' := 107) (As := [.int _]) dX12_cell_104 rfl mk_X12_done ml_X12_157 im_X12_done se_X12_X12_X12_done sh_54 (by decide) rfl rfl rfl ⟨Nat.le_of_ble_eq_true rfl, Nat.le_of_ble_eq_true rfl, Nat.le_of_ble_eq_true rfl, Nat.le_of_ble_eq_true rfl⟩ (Nat.le_of_ble_eq_true rfl) (c_X12_done ?_)
            exact s_iret dX12_cell_107 rfl (by decide) (by decide) (by have q := k4 s (by omega) rfl i20 c38 z (by omega) hz j hj rfl; rw [if_pos (show I 91 s = 1 by simpa using c90)] at q; exact q)
        · refine s_ifneF (pc' := 66) (tgt := 73) dX12_cell_63 (by decide) rfl (by decide) ?_
          refine s_aload_n (pc' := 67) dX12_cell_66 rfl rfl ?_
          refine s_bipush (pc' := 69) (v := 12) dX12_cell_67 rfl (by decide) ?_
          refine s_callV (pc' := 72) (As := [.int _]) dX12_cell_69 rfl mk_X12_refused ml_X12_149 im_X12_refused se_X12_X12_X12_refused sh_54 (by decide) rfl rfl rfl ⟨Nat.le_of_ble_eq_true rfl, Nat.le_of_ble_eq_true rfl, Nat.le_of_ble_eq_true rfl, Nat.le_of_ble_eq_true rfl⟩ (Nat.le_of_ble_eq_true rfl) (c_X12_refused ?_)
          exact s_iret dX12_cell_72 rfl (by decide) (by decide) (k3 s (by omega) rfl i20 c38 z (by omega) hz (inR_nix (by omega) i60))
      · refine s_aload_n (pc' := 42) dX12_cell_41 rfl rfl ?_
        refine s_bipush (pc' := 44) (v := 10) dX12_cell_42 rfl (by decide) ?_
        refine s_callV (pc' := 47) (As := [.int _]) dX12_cell_44 rfl mk_X12_refused ml_X12_149 im_X12_refused se_X12_X12_X12_refused sh_54 (by decide) rfl rfl rfl ⟨Nat.le_of_ble_eq_true rfl, Nat.le_of_ble_eq_true rfl, Nat.le_of_ble_eq_true rfl, Nat.le_of_ble_eq_true rfl⟩ (Nat.le_of_ble_eq_true rfl) (c_X12_refused ?_)
        exact s_iret dX12_cell_47 rfl (by decide) (by decide) (k2 s (by omega) rfl i20 (by simpa using c38))
    · refine s_ifneF (pc' := 26) (tgt := 32) dX12_cell_23 (by decide) rfl (by decide) ?_
      refine s_aload_n (pc' := 27) dX12_cell_26 rfl rfl ?_
      refine s_iconst (pc' := 28) (v := 1) dX12_cell_27 rfl (by decide) ?_
      refine s_callV (pc' := 31) (As := [.int _]) dX12_cell_28 rfl mk_X12_refused ml_X12_149 im_X12_refused se_X12_X12_X12_refused sh_54 (by decide) rfl rfl rfl ⟨Nat.le_of_ble_eq_true rfl, Nat.le_of_ble_eq_true rfl, Nat.le_of_ble_eq_true rfl, Nat.le_of_ble_eq_true rfl⟩ (Nat.le_of_ble_eq_true rfl) (c_X12_refused ?_)
      exact s_iret dX12_cell_31 rfl (by decide) (by decide) (k1 (Or.inr i20))
  · refine s_ifeqT (tgt := 26) dX12_cell_9 (by decide) (by decide) ?_
    refine s_aload_n (pc' := 27) dX12_cell_26 rfl rfl ?_
    refine s_iconst (pc' := 28) (v := 1) dX12_cell_27 rfl (by decide) ?_
    refine s_callV (pc' := 31) (As := [.int _]) dX12_cell_28 rfl mk_X12_refused ml_X12_149 im_X12_refused se_X12_X12_X12_refused sh_54 (by decide) rfl rfl rfl ⟨Nat.le_of_ble_eq_true rfl, Nat.le_of_ble_eq_true rfl, Nat.le_of_ble_eq_true rfl, Nat.le_of_ble_eq_true rfl⟩ (Nat.le_of_ble_eq_true rfl) (c_X12_refused ?_)
    exact s_iret dX12_cell_31 rfl (by decide) (by decide) (k1 (Or.inl (fun s hs e => i6 (by rw [e]; exact nI_in2 (n := 3) (by omega) (by decide)))))
set_option maxHeartbeats 200000 in
theorem l_X12_copied {N : Nat} {S : Nat → Nat × Nat} {I : Nat → Nat → Int32} {J : Nat → Nat → Int64} {Q : Nat → Nat → Option Nat} {κ : Option Value → HP → Prop} {s n : Nat} (hs : s < 4) (hn : n ≤ 3) (hk : κ (some (.int (csm (I 93) s n))) (N, S, (up2 I 54 24 0), J, Q)) : ∀ d : Nat, ∀ k, k + d = n → SP E1 M_X12_copied κ 69 [.ref 54, .int (nI s), .int (nI n), .int (csm (I 93) s k), .int (nI (k + 1))] [] (N, S, I, J, Q) 0 0 := by
  intro d
  induction d with
  | zero =>
    intro k hd
    obtain rfl : k = n := by omega
    refine s_iload (pc' := 71) dX12_copied_69 rfl rfl ?_
    refine s_iload_n (pc' := 72) dX12_copied_71 rfl rfl ?_
    refine s_icmpgtT (tgt := 96) dX12_copied_72 (by decide) (nI_lt (by omega) (by omega)) ?_
    refine s_aload_n (pc' := 97) dX12_copied_96 rfl rfl ?_
    refine s_iload_n (pc' := 98) dX12_copied_97 rfl rfl ?_
    refine s_callV (pc' := 101) (As := [.int _]) dX12_copied_98 rfl mk_X12_done ml_X12_157 im_X12_done se_X12_X12_X12_done sh_54 (by decide) rfl rfl rfl ⟨Nat.le_of_ble_eq_true rfl, Nat.le_of_ble_eq_true rfl, Nat.le_of_ble_eq_true rfl, Nat.le_of_ble_eq_true rfl⟩ (Nat.le_of_ble_eq_true rfl) (c_X12_done ?_)
    exact s_iret dX12_copied_101 rfl (by decide) (by decide) hk
  | succ d ih =>
    intro k hd
    refine s_iload (pc' := 71) dX12_copied_69 rfl rfl ?_
    refine s_iload_n (pc' := 72) dX12_copied_71 rfl rfl ?_
    refine s_icmpgtF (pc' := 75) (tgt := 96) dX12_copied_72 (by decide) rfl (nI_nlt (by omega) (by omega)) ?_
    refine s_iload_n (pc' := 76) dX12_copied_75 rfl rfl ?_
    refine s_aload_n (pc' := 77) dX12_copied_76 rfl rfl ?_
    refine s_getS (pc' := 80) (b := 93) dX12_copied_77 rfl (by decide) rfl (by decide) fa_X12_126_12 rfl rfl ?_
    refine s_bipush (pc' := 82) (v := 40) dX12_copied_80 rfl (by decide) ?_
    refine s_iload_n (pc' := 83) dX12_copied_82 rfl rfl ?_
    refine s_imul (pc' := 84) dX12_copied_83 rfl ?_
    refine s_iload (pc' := 86) dX12_copied_84 rfl rfl ?_
    refine s_iadd (pc' := 87) dX12_copied_86 rfl ?_
    refine t_iald (pc' := 88) (q := 40 * s + (k + 1)) dX12_copied_87 rfl sh_93 ix40 (by omega) ?_
    refine s_iadd (pc' := 89) dX12_copied_88 rfl ?_
    refine t_istore_n (pc' := 90) (L' := [.ref 54, .int _, .int _, .int _, .int _]) dX12_copied_89 rfl (Nat.le_of_ble_eq_true rfl) rfl ?_
    refine t_iinc (pc' := 93) (v := nI (k + 1 + 1)) (L' := [.ref 54, .int _, .int _, .int _, .int _]) dX12_copied_90 rfl rfl (nI_inc (k + 1)) rfl ?_
    refine s_goto (tgt := 69) dX12_copied_93 (by decide) ?_
    exact ih (k + 1) (by omega)
def cpOk (n : Int32) (z : Nat) : Prop := ∃ k, k ≤ 3 ∧ k + 1 ≤ z ∧ n = nI k
theorem cp_ok {n : Int32} {z : Nat} (hn : inR n (-100) 100) (hz : z ≤ 40) (h1 : ¬ n < 0) (h2 : ¬ nI z < n + 1) (h3 : ¬ 6 < n + n) : cpOk n z := by
  obtain ⟨k, hk, rfl⟩ := nI_of h1
  have hk2 : k ≤ 100 := by have := hn.2; rw [nI_toInt hk] at this; omega
  rw [nI_1, nI_ltI (by omega) (by omega)] at h2
  rw [nI_add] at h3
  have h4 : ¬ 6 < k + k := fun y => h3 (nI_lt (a := 6) y (by omega))
  exact ⟨k, by omega, by omega, rfl⟩
theorem cp_no1 {n : Int32} {z : Nat} (h : n < 0) : ¬ cpOk n z := by rintro ⟨k, h1, h2, rfl⟩; exact nI_pos (by omega) h
theorem cp_no2 {n : Int32} {z : Nat} (hz : z ≤ 40) (h : nI z < n + 1) : ¬ cpOk n z := by rintro ⟨k, h1, h2, rfl⟩; rw [nI_1, nI_ltI (by omega) (by omega)] at h; omega
theorem cp_no3 {n : Int32} {z : Nat} (h : 6 < n + n) : ¬ cpOk n z := by
  rintro ⟨k, h1, h2, rfl⟩
  rw [nI_add] at h
  have := (nI_ltI (a := 6) (b := k + k) (by decide) (by omega)).mp h
  omega
set_option maxHeartbeats 200000 in
theorem c_X12_copied {N : Nat} {S : Nat → Nat × Nat} {I : Nat → Nat → Int32} {J : Nat → Nat → Int64} {Q : Nat → Nat → Option Nat} {κ : Option Value → HP → Prop} {n : Int32} {s z : Nat} (hs : s < 4) (hz : z ≤ 40) (hz2 : I 92 s = nI z) (hn : inR n (-100) 100) (k1 : I 91 s = 0 → κ (some (.int (-1))) (N, S, up2 I 54 24 10, J, Q)) (k2 : I 91 s ≠ 0 → I 91 s ≠ 1 → κ (some (.int (-1))) (N, S, up2 I 54 24 11, J, Q)) (k3 : I 91 s ≠ 0 → I 91 s = 1 → ¬ cpOk n z → κ (some (.int (-1))) (N, S, up2 I 54 24 12, J, Q)) (k4 : I 91 s ≠ 0 → I 91 s = 1 → ∀ k, k ≤ 3 → k + 1 ≤ z → n = nI k → κ (some (.int (csm (I 93) s k))) (N, S, (up2 I 54 24 0), J, Q)) : CT E1 M_X12_copied [.ref 54, .int (nI s), .int n] (N, S, I, J, Q) κ := by
  refine ofSP mk_X12_copied (Nat.le_of_ble_eq_true rfl) (L := [.ref 54, .int _, .int _, .retAddr _, .retAddr _]) rfl ?_
  refine s_aload_n (pc' := 1) dX12_copied_0 rfl rfl ?_
  refine s_getS (pc' := 4) (b := 91) dX12_copied_1 rfl (by decide) rfl (by decide) fa_X12_120_12 rfl rfl ?_
  refine s_iload_n (pc' := 5) dX12_copied_4 rfl rfl ?_
  refine t_iald (pc' := 6) dX12_copied_5 rfl sh_91 rfl (by omega) ?_
  refine s_ifne (pc' := 9) (tgt := 16) dX12_copied_6 (by decide) rfl (fun c6 => ?_) (fun c6 => ?_)
  · refine s_aload_n (pc' := 17) dX12_copied_16 rfl rfl ?_
    refine s_getS (pc' := 20) (b := 91) dX12_copied_17 rfl (by decide) rfl (by decide) fa_X12_120_12 rfl rfl ?_
    refine s_iload_n (pc' := 21) dX12_copied_20 rfl rfl ?_
    refine t_iald (pc' := 22) dX12_copied_21 rfl sh_91 rfl (by omega) ?_
    refine s_iconst (pc' := 23) (v := 1) dX12_copied_22 rfl (by decide) ?_
    refine s_icmpeq (pc' := 26) (tgt := 33) dX12_copied_23 (by decide) rfl (fun c23 => ?_) (fun c23 => ?_)
    · refine s_iload_n (pc' := 34) dX12_copied_33 rfl rfl ?_
      refine s_iflt (pc' := 37) (tgt := 57) dX12_copied_34 (by decide) rfl (fun c34 => ?_) (fun c34 => ?_)
      · refine s_aload_n (pc' := 58) dX12_copied_57 rfl rfl ?_
        refine s_bipush (pc' := 60) (v := 12) dX12_copied_58 rfl (by decide) ?_
        refine s_callV (pc' := 63) (As := [.int _]) dX12_copied_60 rfl mk_X12_refused ml_X12_149 im_X12_refused se_X12_X12_X12_refused sh_54 (by decide) rfl rfl rfl ⟨Nat.le_of_ble_eq_true rfl, Nat.le_of_ble_eq_true rfl, Nat.le_of_ble_eq_true rfl, Nat.le_of_ble_eq_true rfl⟩ (Nat.le_of_ble_eq_true rfl) (c_X12_refused ?_)
        exact s_iret dX12_copied_63 rfl (by decide) (by decide) (k3 c6 (by simpa using c23) (cp_no1 c34))
      · refine s_iload_n (pc' := 38) dX12_copied_37 rfl rfl ?_
        refine s_iconst (pc' := 39) (v := 1) dX12_copied_38 rfl (by decide) ?_
        refine s_iadd (pc' := 40) dX12_copied_39 rfl ?_
        refine s_aload_n (pc' := 41) dX12_copied_40 rfl rfl ?_
        refine s_getS (pc' := 44) (b := 92) dX12_copied_41 rfl (by decide) rfl (by decide) fa_X12_123_12 rfl rfl ?_
        refine s_iload_n (pc' := 45) dX12_copied_44 rfl rfl ?_
        refine t_iald (pc' := 46) dX12_copied_45 rfl sh_92 rfl (by omega) ?_
        refine s_icmpgt (pc' := 49) (tgt := 57) dX12_copied_46 (by decide) rfl (fun c46 => ?_) (fun c46 => ?_)
        · refine s_aload_n (pc' := 58) dX12_copied_57 rfl rfl ?_
          refine s_bipush (pc' := 60) (v := 12) dX12_copied_58 rfl (by decide) ?_
          refine s_callV (pc' := 63) (As := [.int _]) dX12_copied_60 rfl mk_X12_refused ml_X12_149 im_X12_refused se_X12_X12_X12_refused sh_54 (by decide) rfl rfl rfl ⟨Nat.le_of_ble_eq_true rfl, Nat.le_of_ble_eq_true rfl, Nat.le_of_ble_eq_true rfl, Nat.le_of_ble_eq_true rfl⟩ (Nat.le_of_ble_eq_true rfl) (c_X12_refused ?_)
          exact s_iret dX12_copied_63 rfl (by decide) (by decide) (k3 c6 (by simpa using c23) (cp_no2 hz (by rw [← hz2]; exact c46)))
        · refine s_iload_n (pc' := 50) dX12_copied_49 rfl rfl ?_
          refine s_iload_n (pc' := 51) dX12_copied_50 rfl rfl ?_
          refine s_iadd (pc' := 52) dX12_copied_51 rfl ?_
          refine s_bipush (pc' := 54) (v := 6) dX12_copied_52 rfl (by decide) ?_
          refine s_icmple (pc' := 57) (tgt := 64) dX12_copied_54 (by decide) rfl (fun c54 => ?_) (fun c54 => ?_)
          · refine s_iconst (pc' := 65) (v := 0) dX12_copied_64 rfl (by decide) ?_
            refine t_istore_n (pc' := 66) (L' := [.ref 54, .int _, .int _, .int _, .retAddr _]) dX12_copied_65 rfl (Nat.le_of_ble_eq_true rfl) rfl ?_
            refine s_iconst (pc' := 67) (v := 1) dX12_copied_66 rfl (by decide) ?_
            refine t_istore (pc' := 69) (L' := [.ref 54, .int _, .int _, .int _, .int _]) dX12_copied_67 rfl (Nat.le_of_ble_eq_true rfl) rfl ?_
            obtain ⟨kk, q1, q2, q3⟩ := cp_ok hn hz c34 (by rw [← hz2]; exact c46) (Int32.not_lt.mpr (by simpa using c54))
            subst q3
            exact l_X12_copied (by omega) q1 (k4 c6 (by simpa using c23) kk q1 q2 rfl) kk 0 (by omega)
          · refine s_aload_n (pc' := 58) dX12_copied_57 rfl rfl ?_
            refine s_bipush (pc' := 60) (v := 12) dX12_copied_58 rfl (by decide) ?_
            refine s_callV (pc' := 63) (As := [.int _]) dX12_copied_60 rfl mk_X12_refused ml_X12_149 im_X12_refused se_X12_X12_X12_refused sh_54 (by decide) rfl rfl rfl ⟨Nat.le_of_ble_eq_true rfl, Nat.le_of_ble_eq_true rfl, Nat.le_of_ble_eq_true rfl, Nat.le_of_ble_eq_true rfl⟩ (Nat.le_of_ble_eq_true rfl) (c_X12_refused ?_)
            exact s_iret dX12_copied_63 rfl (by decide) (by decide) (k3 c6 (by simpa using c23) (cp_no3 (Int32.not_le.mp c54)))
    · refine s_aload_n (pc' := 27) dX12_copied_26 rfl rfl ?_
      refine s_bipush (pc' := 29) (v := 11) dX12_copied_27 rfl (by decide) ?_
      refine s_callV (pc' := 32) (As := [.int _]) dX12_copied_29 rfl mk_X12_refused ml_X12_149 im_X12_refused se_X12_X12_X12_refused sh_54 (by decide) rfl rfl rfl ⟨Nat.le_of_ble_eq_true rfl, Nat.le_of_ble_eq_true rfl, Nat.le_of_ble_eq_true rfl, Nat.le_of_ble_eq_true rfl⟩ (Nat.le_of_ble_eq_true rfl) (c_X12_refused ?_)
      exact s_iret dX12_copied_32 rfl (by decide) (by decide) (k2 c6 c23)
  · refine s_aload_n (pc' := 10) dX12_copied_9 rfl rfl ?_
    refine s_bipush (pc' := 12) (v := 10) dX12_copied_10 rfl (by decide) ?_
    refine s_callV (pc' := 15) (As := [.int _]) dX12_copied_12 rfl mk_X12_refused ml_X12_149 im_X12_refused se_X12_X12_X12_refused sh_54 (by decide) rfl rfl rfl ⟨Nat.le_of_ble_eq_true rfl, Nat.le_of_ble_eq_true rfl, Nat.le_of_ble_eq_true rfl, Nat.le_of_ble_eq_true rfl⟩ (Nat.le_of_ble_eq_true rfl) (c_X12_refused ?_)
    exact s_iret dX12_copied_15 rfl (by decide) (by decide) (k1 (by simpa using c6))
set_option maxHeartbeats 200000 in
theorem c_X12_modulo {N : Nat} {S : Nat → Nat × Nat} {I : Nat → Nat → Int32} {J : Nat → Nat → Int64} {Q : Nat → Nat → Option Nat} {κ : Option Value → HP → Prop} {x m : Int32} (hm : m ≠ 0) (hk : κ (some (.int (mdM x m))) (N, S, I, J, Q)) : CT E1 M_X12_modulo [.int x, .int m] (N, S, I, J, Q) κ := by
  refine ofSP mk_X12_modulo (Nat.le_of_ble_eq_true rfl) (L := [.int _, .int _]) rfl ?_
  refine s_iload_n (pc' := 1) dX12_modulo_0 rfl rfl ?_
  refine s_iload_n (pc' := 2) dX12_modulo_1 rfl rfl ?_
  refine s_irem (pc' := 3) dX12_modulo_2 rfl hm ?_
  refine s_iload_n (pc' := 4) dX12_modulo_3 rfl rfl ?_
  refine s_iadd (pc' := 5) dX12_modulo_4 rfl ?_
  refine s_iload_n (pc' := 6) dX12_modulo_5 rfl rfl ?_
  refine s_irem (pc' := 7) dX12_modulo_6 rfl hm ?_
  exact s_iret dX12_modulo_7 rfl (by decide) (by decide) hk
/-- what forge() answers, and the status: none: as it says -/
def fgR (D : Nat → Nat → Int32) (so : Nat → Int32) (cl : Nat → Int32) (nr : Nat) (sz : Nat → Nat) (w : Nat) (n x : Int32) : Int32 × Int32 :=
  if w = 0 then (if mdl x 30 < nr then (if mdl n 7 = 0 ∨ D 60 (mdl x 30) = nI (mdl n 7) ∨ (mdl n 7 = 5 ∧ D 60 (mdl x 30) = 6) then (D 60 (mdl x 30), 0) else (-1, 11)) else (-1, 10))
  else if w = 1 then (if n < 0 then (-1, 13) else (n, 0))
  else if w = 2 then (if so (mdl x 4) = 0 then (-1, 10) else if so (mdl x 4) = 2 then (if 0 ≤ n.toInt ∧ n.toInt < sz (mdl x 4) then (cl (40 * mdl x 4 + n.toInt.toNat), 0) else (-1, 12)) else (-1, 11))
  else if w = 3 then (if so (mdl x 4) = 0 then (-1, 10) else if so (mdl x 4) = 1 then (if 0 ≤ n.toInt ∧ n.toInt ≤ 3 ∧ n.toInt < sz (mdl x 4) then (csm cl (mdl x 4) n.toInt.toNat, 0) else (-1, 12)) else (-1, 11))
  else if w = 4 then (if mdl x 30 < nr then (if 5 ≤ D 60 (mdl x 30) then (D 60 (mdl x 30), 0) else (-1, 14)) else (0, 0))
  else if w = 5 then (if n = 0 then (-1, 15) else (1000 / n, 0))
  else (if mdl n 2 = 0 then (-1, 10) else (1, 0))
theorem cpOk_iff {n : Int32} {z : Nat} : cpOk n z ↔ (0 ≤ n.toInt ∧ n.toInt ≤ 3 ∧ n.toInt < z) := by
  constructor
  · rintro ⟨k, h1, h2, rfl⟩; rw [nI_toInt (by omega)]; omega
  · rintro ⟨h1, h2, h3⟩
    obtain ⟨k, e1, e2, -⟩ := toNat_of (x := n) (a := 0) (b := 3) ⟨h1, h2⟩ (Int.le_refl 0)
    exact ⟨k, by omega, by omega, e1⟩
