theorem boS_s0 {D : Nat → Nat → Int32} {x : Int32} {g : Nat → Int64} {th v t sg : Int32} {k : Nat} (h : ¬ (ctB D x g th k v = true ∧ D 60 k = 1 ∧ D 64 k = t ∧ 0 < amt D g k * sg.toInt64)) : boS D x g th v t sg (k + 1) = boS D x g th v t sg k := by rw [boS, if_neg h]
theorem boS_s1 {D : Nat → Nat → Int32} {x : Int32} {g : Nat → Int64} {th v t sg : Int32} {k : Nat} (h : ctB D x g th k v = true ∧ D 60 k = 1 ∧ D 64 k = t ∧ 0 < amt D g k * sg.toInt64) (hn : boS D x g th v t sg k = none) : boS D x g th v t sg (k + 1) = some k := by rw [boS, if_pos h, hn]
theorem boS_s2 {D : Nat → Nat → Int32} {x : Int32} {g : Nat → Int64} {th v t sg : Int32} {k q : Nat} (h : ctB D x g th k v = true ∧ D 60 k = 1 ∧ D 64 k = t ∧ 0 < amt D g k * sg.toInt64) (hn : boS D x g th v t sg k = some q) (hl : amt D g q * sg.toInt64 < amt D g k * sg.toInt64) : boS D x g th v t sg (k + 1) = some k := by rw [boS, if_pos h, hn]; simp [hl]
theorem boS_s3 {D : Nat → Nat → Int32} {x : Int32} {g : Nat → Int64} {th v t sg : Int32} {k q : Nat} (h : ctB D x g th k v = true ∧ D 60 k = 1 ∧ D 64 k = t ∧ 0 < amt D g k * sg.toInt64) (hn : boS D x g th v t sg k = some q) (hl : ¬ amt D g q * sg.toInt64 < amt D g k * sg.toInt64) : boS D x g th v t sg (k + 1) = some q := by rw [boS, if_pos h, hn]; simp only [if_neg hl]
theorem ixo_s (q : Nat) : ixo (some q) = nI q := rfl
theorem ixo_n : ixo none = -1 := rfl
theorem l_X12_bestOf {N : Nat} {S : Nat → Nat × Nat} {I : Nat → Nat → Int32} {J : Nat → Nat → Int64} {Q : Nat → Nat → Option Nat} {κ : Option Value → HP → Prop} {D : Nat → Nat → Int32} {nv nr ns b : Nat} {th : Int32} (C : ST I D nv nr ns b th) {v t sg : Int32} (hk : κ (some (.int (ixo (boS D (nI b) (gM J b) th v t sg nr)))) (N, S, I, J, Q)) : ∀ d : Nat, ∀ k, k + d = nr → SP E1 M_X12_bestOf κ 6 [.ref 54, .int v, .int t, .int sg, .int (ixo (boS D (nI b) (gM J b) th v t sg k)), .int (nI k), .retAddr 0, .retAddr 0] [] (N, S, I, J, Q) 0 0 := by
  intro d
  induction d with
  | zero =>
    intro k hd
    obtain rfl : k = nr := by omega
    refine s_iload (pc' := 8) dX12_bestOf_6 rfl rfl ?_
    refine s_aload_n (pc' := 9) dX12_bestOf_8 rfl rfl ?_
    refine s_getS (pc' := 12) (b := 75) dX12_bestOf_9 rfl (by decide) rfl (by decide) fa_X12_70_12 rfl rfl ?_
    refine s_iconst (pc' := 13) (v := 1) dX12_bestOf_12 rfl (by decide) ?_
    refine t_iald (pc' := 14) (q := 1) dX12_bestOf_13 rfl sh_75 rfl (by decide) ?_
    refine s_icmpgeT (tgt := 100) dX12_bestOf_14 (by decide) (by rw [C.1.2.1.rn C.1.1]; exact nI_le (Nat.le_refl _) (by have := C.1.2.1.nr; omega)) ?_
    refine s_iload (pc' := 102) dX12_bestOf_100 rfl rfl ?_
    exact s_iret dX12_bestOf_102 rfl (by decide) (by decide) hk
  | succ d ih =>
    intro k hd
    have hn30 := C.1.2.1.nr
    cases hq : boS D (nI b) (gM J b) th v t sg k with
    | none =>
      rw [ixo_n]
      refine s_iload (pc' := 8) dX12_bestOf_6 rfl rfl ?_
      refine s_aload_n (pc' := 9) dX12_bestOf_8 rfl rfl ?_
      refine s_getS (pc' := 12) (b := 75) dX12_bestOf_9 rfl (by decide) rfl (by decide) fa_X12_70_12 rfl rfl ?_
      refine s_iconst (pc' := 13) (v := 1) dX12_bestOf_12 rfl (by decide) ?_
      refine t_iald (pc' := 14) (q := 1) dX12_bestOf_13 rfl sh_75 rfl (by decide) ?_
      refine s_icmpgeF (pc' := 17) (tgt := 100) dX12_bestOf_14 (by decide) rfl (by rw [C.1.2.1.rn C.1.1]; exact nI_ge (by omega) (by have := C.1.2.1.nr; omega)) ?_
      refine s_aload_n (pc' := 18) dX12_bestOf_17 rfl rfl ?_
      refine s_iload (pc' := 20) dX12_bestOf_18 rfl rfl ?_
      refine s_iload_n (pc' := 21) dX12_bestOf_20 rfl rfl ?_
      refine s_callV (pc' := 24) (As := [.int _, .int _]) dX12_bestOf_21 rfl mk_X12_counts ml_X12_251 im_X12_counts se_X12_X12_X12_counts sh_54 (by decide) rfl rfl rfl ⟨Nat.le_of_ble_eq_true rfl, Nat.le_of_ble_eq_true rfl, Nat.le_of_ble_eq_true rfl, Nat.le_of_ble_eq_true rfl⟩ (Nat.le_of_ble_eq_true rfl) (c_X12_counts C (r := _) (by omega) (fun n21 => ?_) (fun n21 => ?_))
      · refine s_ifeqF (pc' := 27) (tgt := 94) dX12_bestOf_24 (by decide) rfl (by decide) ?_
        refine s_aload_n (pc' := 28) dX12_bestOf_27 rfl rfl ?_
        refine s_getS (pc' := 31) (b := 60) dX12_bestOf_28 rfl (by decide) rfl (by decide) fa_X12_25_12 rfl rfl ?_
        refine s_iload (pc' := 33) dX12_bestOf_31 rfl rfl ?_
        refine t_iald (pc' := 34) dX12_bestOf_33 rfl sh_60 rfl (by have := C.1.2.1.nr; omega) ?_
        refine s_iconst (pc' := 35) (v := 1) dX12_bestOf_34 rfl (by decide) ?_
        refine s_icmpne (pc' := 38) (tgt := 94) dX12_bestOf_35 (by decide) rfl (fun c35 => ?_) (fun c35 => ?_)
        · refine t_iinc (pc' := 97) (v := nI (k + 1)) (L' := [.ref 54, .int _, .int _, .int _, .int _, .int _, .retAddr _, .retAddr _]) dX12_bestOf_94 rfl rfl (nI_inc k) rfl ?_
          refine s_goto (tgt := 6) dX12_bestOf_97 (by decide) ?_
          rw [C.1.1 60 (by decide) (by decide)] at c35
          exact s_fg [6, 7] rfl (s_eq (by rw [boS_s0 (fun z => c35 z.2.1), hq]; rfl) rfl rfl (ih (k + 1) (by omega)))
        · refine s_aload_n (pc' := 39) dX12_bestOf_38 rfl rfl ?_
          refine s_getS (pc' := 42) (b := 64) dX12_bestOf_39 rfl (by decide) rfl (by decide) fa_X12_37_12 rfl rfl ?_
          refine s_iload (pc' := 44) dX12_bestOf_42 rfl rfl ?_
          refine t_iald (pc' := 45) dX12_bestOf_44 rfl sh_64 rfl (by have := C.1.2.1.nr; omega) ?_
          refine s_iload_n (pc' := 46) dX12_bestOf_45 rfl rfl ?_
          refine s_icmpeq (pc' := 49) (tgt := 52) dX12_bestOf_46 (by decide) rfl (fun c46 => ?_) (fun c46 => ?_)
          · refine s_aload_n (pc' := 53) dX12_bestOf_52 rfl rfl ?_
            refine s_iload (pc' := 55) dX12_bestOf_53 rfl rfl ?_
            refine s_callV (pc' := 58) (As := [.int _]) dX12_bestOf_55 rfl mk_X12_amountOf ml_X12_241 im_X12_amountOf se_X12_X12_X12_amountOf sh_54 (by decide) rfl rfl rfl ⟨Nat.le_of_ble_eq_true rfl, Nat.le_of_ble_eq_true rfl, Nat.le_of_ble_eq_true rfl, Nat.le_of_ble_eq_true rfl⟩ (Nat.le_of_ble_eq_true rfl) (c_X12_amountOf C.1 (r := _) (by omega) ?_)
            refine s_iload_n (pc' := 59) dX12_bestOf_58 rfl rfl ?_
            refine s_i2l (pc' := 60) dX12_bestOf_59 rfl ?_
            refine s_lmul (pc' := 61) dX12_bestOf_60 rfl ?_
            refine t_lstore (pc' := 63) (L' := [.ref 54, .int _, .int _, .int _, .int _, .int _, .long _, .retAddr _]) dX12_bestOf_61 rfl (Nat.le_of_ble_eq_true rfl) rfl ?_
            refine s_lload (pc' := 65) dX12_bestOf_63 rfl rfl ?_
            refine s_lconst (pc' := 66) (v := 0) dX12_bestOf_65 rfl (by decide) ?_
            refine s_lcmp (pc' := 67) dX12_bestOf_66 rfl ?_
            refine s_ifle (pc' := 70) (tgt := 94) dX12_bestOf_67 (by decide) rfl (fun c67 => ?_) (fun c67 => ?_)
            · refine t_iinc (pc' := 97) (v := nI (k + 1)) (L' := [.ref 54, .int _, .int _, .int _, .int _, .int _, .long _, .retAddr _]) dX12_bestOf_94 rfl rfl (nI_inc k) rfl ?_
              refine s_goto (tgt := 6) dX12_bestOf_97 (by decide) ?_
              exact s_fg [6, 7] rfl (s_eq (by rw [boS_s0 (fun z => Int64.not_lt.mpr ((lg_cmp_le _ _).mp c67) z.2.2.2), hq]; rfl) rfl rfl (ih (k + 1) (by omega)))
            · refine s_iload (pc' := 72) dX12_bestOf_70 rfl rfl ?_
              refine s_ifltT (tgt := 90) dX12_bestOf_72 (by decide) (by decide) ?_
              refine s_iload (pc' := 92) dX12_bestOf_90 rfl rfl ?_
              refine t_istore (pc' := 94) (L' := [.ref 54, .int _, .int _, .int _, .int _, .int _, .long _, .retAddr _]) dX12_bestOf_92 rfl (Nat.le_of_ble_eq_true rfl) rfl ?_
              refine t_iinc (pc' := 97) (v := nI (k + 1)) (L' := [.ref 54, .int _, .int _, .int _, .int _, .int _, .long _, .retAddr _]) dX12_bestOf_94 rfl rfl (nI_inc k) rfl ?_
              refine s_goto (tgt := 6) dX12_bestOf_97 (by decide) ?_
              exact s_fg [6, 7] rfl (s_eq (by rw [boS_s1 ⟨n21, by rw [← C.1.1 60 (by decide) (by decide)]; exact c35, by rw [← C.1.1 64 (by decide) (by decide)]; exact c46, (Int64.not_le.mp (fun z => c67 ((lg_cmp_le _ _).mpr z)))⟩ hq]; rfl) rfl rfl (ih (k + 1) (by omega)))
          · refine s_goto (tgt := 94) dX12_bestOf_49 (by decide) ?_
            refine t_iinc (pc' := 97) (v := nI (k + 1)) (L' := [.ref 54, .int _, .int _, .int _, .int _, .int _, .retAddr _, .retAddr _]) dX12_bestOf_94 rfl rfl (nI_inc k) rfl ?_
            refine s_goto (tgt := 6) dX12_bestOf_97 (by decide) ?_
            rw [C.1.1 64 (by decide) (by decide)] at c46
            exact s_fg [6, 7] rfl (s_eq (by rw [boS_s0 (fun z => c46 z.2.2.1), hq]; rfl) rfl rfl (ih (k + 1) (by omega)))
      · refine s_ifeqT (tgt := 94) dX12_bestOf_24 (by decide) (by decide) ?_
        refine t_iinc (pc' := 97) (v := nI (k + 1)) (L' := [.ref 54, .int _, .int _, .int _, .int _, .int _, .retAddr _, .retAddr _]) dX12_bestOf_94 rfl rfl (nI_inc k) rfl ?_
        refine s_goto (tgt := 6) dX12_bestOf_97 (by decide) ?_
        exact s_fg [6, 7] rfl (s_eq (by rw [boS_s0 (fun z => by rw [n21] at z; exact absurd z.1 (by decide)), hq]; rfl) rfl rfl (ih (k + 1) (by omega)))
    | some q =>
      rw [ixo_s]
      have hqk := boS_lt k q hq
      refine s_iload (pc' := 8) dX12_bestOf_6 rfl rfl ?_
      refine s_aload_n (pc' := 9) dX12_bestOf_8 rfl rfl ?_
      refine s_getS (pc' := 12) (b := 75) dX12_bestOf_9 rfl (by decide) rfl (by decide) fa_X12_70_12 rfl rfl ?_
      refine s_iconst (pc' := 13) (v := 1) dX12_bestOf_12 rfl (by decide) ?_
      refine t_iald (pc' := 14) (q := 1) dX12_bestOf_13 rfl sh_75 rfl (by decide) ?_
      refine s_icmpgeF (pc' := 17) (tgt := 100) dX12_bestOf_14 (by decide) rfl (by rw [C.1.2.1.rn C.1.1]; exact nI_ge (by omega) (by have := C.1.2.1.nr; omega)) ?_
      refine s_aload_n (pc' := 18) dX12_bestOf_17 rfl rfl ?_
      refine s_iload (pc' := 20) dX12_bestOf_18 rfl rfl ?_
      refine s_iload_n (pc' := 21) dX12_bestOf_20 rfl rfl ?_
      refine s_callV (pc' := 24) (As := [.int _, .int _]) dX12_bestOf_21 rfl mk_X12_counts ml_X12_251 im_X12_counts se_X12_X12_X12_counts sh_54 (by decide) rfl rfl rfl ⟨Nat.le_of_ble_eq_true rfl, Nat.le_of_ble_eq_true rfl, Nat.le_of_ble_eq_true rfl, Nat.le_of_ble_eq_true rfl⟩ (Nat.le_of_ble_eq_true rfl) (c_X12_counts C (r := _) (by omega) (fun n21 => ?_) (fun n21 => ?_))
      · refine s_ifeqF (pc' := 27) (tgt := 94) dX12_bestOf_24 (by decide) rfl (by decide) ?_
        refine s_aload_n (pc' := 28) dX12_bestOf_27 rfl rfl ?_
        refine s_getS (pc' := 31) (b := 60) dX12_bestOf_28 rfl (by decide) rfl (by decide) fa_X12_25_12 rfl rfl ?_
        refine s_iload (pc' := 33) dX12_bestOf_31 rfl rfl ?_
        refine t_iald (pc' := 34) dX12_bestOf_33 rfl sh_60 rfl (by have := C.1.2.1.nr; omega) ?_
        refine s_iconst (pc' := 35) (v := 1) dX12_bestOf_34 rfl (by decide) ?_
        refine s_icmpne (pc' := 38) (tgt := 94) dX12_bestOf_35 (by decide) rfl (fun c35 => ?_) (fun c35 => ?_)
        · refine t_iinc (pc' := 97) (v := nI (k + 1)) (L' := [.ref 54, .int _, .int _, .int _, .int _, .int _, .retAddr _, .retAddr _]) dX12_bestOf_94 rfl rfl (nI_inc k) rfl ?_
          refine s_goto (tgt := 6) dX12_bestOf_97 (by decide) ?_
          rw [C.1.1 60 (by decide) (by decide)] at c35
          exact s_fg [6, 7] rfl (s_eq (by rw [boS_s0 (fun z => c35 z.2.1), hq]; rfl) rfl rfl (ih (k + 1) (by omega)))
        · refine s_aload_n (pc' := 39) dX12_bestOf_38 rfl rfl ?_
          refine s_getS (pc' := 42) (b := 64) dX12_bestOf_39 rfl (by decide) rfl (by decide) fa_X12_37_12 rfl rfl ?_
          refine s_iload (pc' := 44) dX12_bestOf_42 rfl rfl ?_
          refine t_iald (pc' := 45) dX12_bestOf_44 rfl sh_64 rfl (by have := C.1.2.1.nr; omega) ?_
          refine s_iload_n (pc' := 46) dX12_bestOf_45 rfl rfl ?_
          refine s_icmpeq (pc' := 49) (tgt := 52) dX12_bestOf_46 (by decide) rfl (fun c46 => ?_) (fun c46 => ?_)
          · refine s_aload_n (pc' := 53) dX12_bestOf_52 rfl rfl ?_
            refine s_iload (pc' := 55) dX12_bestOf_53 rfl rfl ?_
            refine s_callV (pc' := 58) (As := [.int _]) dX12_bestOf_55 rfl mk_X12_amountOf ml_X12_241 im_X12_amountOf se_X12_X12_X12_amountOf sh_54 (by decide) rfl rfl rfl ⟨Nat.le_of_ble_eq_true rfl, Nat.le_of_ble_eq_true rfl, Nat.le_of_ble_eq_true rfl, Nat.le_of_ble_eq_true rfl⟩ (Nat.le_of_ble_eq_true rfl) (c_X12_amountOf C.1 (r := _) (by omega) ?_)
            refine s_iload_n (pc' := 59) dX12_bestOf_58 rfl rfl ?_
            refine s_i2l (pc' := 60) dX12_bestOf_59 rfl ?_
            refine s_lmul (pc' := 61) dX12_bestOf_60 rfl ?_
            refine t_lstore (pc' := 63) (L' := [.ref 54, .int _, .int _, .int _, .int _, .int _, .long _, .retAddr _]) dX12_bestOf_61 rfl (Nat.le_of_ble_eq_true rfl) rfl ?_
            refine s_lload (pc' := 65) dX12_bestOf_63 rfl rfl ?_
            refine s_lconst (pc' := 66) (v := 0) dX12_bestOf_65 rfl (by decide) ?_
            refine s_lcmp (pc' := 67) dX12_bestOf_66 rfl ?_
            refine s_ifle (pc' := 70) (tgt := 94) dX12_bestOf_67 (by decide) rfl (fun c67 => ?_) (fun c67 => ?_)
            · refine t_iinc (pc' := 97) (v := nI (k + 1)) (L' := [.ref 54, .int _, .int _, .int _, .int _, .int _, .long _, .retAddr _]) dX12_bestOf_94 rfl rfl (nI_inc k) rfl ?_
              refine s_goto (tgt := 6) dX12_bestOf_97 (by decide) ?_
              exact s_fg [6, 7] rfl (s_eq (by rw [boS_s0 (fun z => Int64.not_lt.mpr ((lg_cmp_le _ _).mp c67) z.2.2.2), hq]; rfl) rfl rfl (ih (k + 1) (by omega)))
            · refine s_iload (pc' := 72) dX12_bestOf_70 rfl rfl ?_
              refine s_ifltF (pc' := 75) (tgt := 90) dX12_bestOf_72 (by decide) rfl (nI_pos (by omega)) ?_
              refine s_lload (pc' := 77) dX12_bestOf_75 rfl rfl ?_
              refine s_aload_n (pc' := 78) dX12_bestOf_77 rfl rfl ?_
              refine s_iload (pc' := 80) dX12_bestOf_78 rfl rfl ?_
              refine s_callV (pc' := 83) (As := [.int _]) dX12_bestOf_80 rfl mk_X12_amountOf ml_X12_241 im_X12_amountOf se_X12_X12_X12_amountOf sh_54 (by decide) rfl rfl rfl ⟨Nat.le_of_ble_eq_true rfl, Nat.le_of_ble_eq_true rfl, Nat.le_of_ble_eq_true rfl, Nat.le_of_ble_eq_true rfl⟩ (Nat.le_of_ble_eq_true rfl) (c_X12_amountOf C.1 (r := _) (by omega) ?_)
              refine s_iload_n (pc' := 84) dX12_bestOf_83 rfl rfl ?_
              refine s_i2l (pc' := 85) dX12_bestOf_84 rfl ?_
              refine s_lmul (pc' := 86) dX12_bestOf_85 rfl ?_
              refine s_lcmp (pc' := 87) dX12_bestOf_86 rfl ?_
              refine s_ifle (pc' := 90) (tgt := 94) dX12_bestOf_87 (by decide) rfl (fun c87 => ?_) (fun c87 => ?_)
              · refine t_iinc (pc' := 97) (v := nI (k + 1)) (L' := [.ref 54, .int _, .int _, .int _, .int _, .int _, .long _, .retAddr _]) dX12_bestOf_94 rfl rfl (nI_inc k) rfl ?_
                refine s_goto (tgt := 6) dX12_bestOf_97 (by decide) ?_
                exact s_fg [6, 7] rfl (s_eq (by rw [boS_s3 ⟨n21, by rw [← C.1.1 60 (by decide) (by decide)]; exact c35, by rw [← C.1.1 64 (by decide) (by decide)]; exact c46, (Int64.not_le.mp (fun z => c67 ((lg_cmp_le _ _).mpr z)))⟩ hq (Int64.not_lt.mpr ((lg_cmp_le _ _).mp c87))]; rfl) rfl rfl (ih (k + 1) (by omega)))
              · refine s_iload (pc' := 92) dX12_bestOf_90 rfl rfl ?_
                refine t_istore (pc' := 94) (L' := [.ref 54, .int _, .int _, .int _, .int _, .int _, .long _, .retAddr _]) dX12_bestOf_92 rfl (Nat.le_of_ble_eq_true rfl) rfl ?_
                refine t_iinc (pc' := 97) (v := nI (k + 1)) (L' := [.ref 54, .int _, .int _, .int _, .int _, .int _, .long _, .retAddr _]) dX12_bestOf_94 rfl rfl (nI_inc k) rfl ?_
                refine s_goto (tgt := 6) dX12_bestOf_97 (by decide) ?_
                exact s_fg [6, 7] rfl (s_eq (by rw [boS_s2 ⟨n21, by rw [← C.1.1 60 (by decide) (by decide)]; exact c35, by rw [← C.1.1 64 (by decide) (by decide)]; exact c46, (Int64.not_le.mp (fun z => c67 ((lg_cmp_le _ _).mpr z)))⟩ hq (Int64.not_le.mp (fun z => c87 ((lg_cmp_le _ _).mpr z)))]; rfl) rfl rfl (ih (k + 1) (by omega)))
          · refine s_goto (tgt := 94) dX12_bestOf_49 (by decide) ?_
            refine t_iinc (pc' := 97) (v := nI (k + 1)) (L' := [.ref 54, .int _, .int _, .int _, .int _, .int _, .retAddr _, .retAddr _]) dX12_bestOf_94 rfl rfl (nI_inc k) rfl ?_
            refine s_goto (tgt := 6) dX12_bestOf_97 (by decide) ?_
            rw [C.1.1 64 (by decide) (by decide)] at c46
            exact s_fg [6, 7] rfl (s_eq (by rw [boS_s0 (fun z => c46 z.2.2.1), hq]; rfl) rfl rfl (ih (k + 1) (by omega)))
      · refine s_ifeqT (tgt := 94) dX12_bestOf_24 (by decide) (by decide) ?_
        refine t_iinc (pc' := 97) (v := nI (k + 1)) (L' := [.ref 54, .int _, .int _, .int _, .int _, .int _, .retAddr _, .retAddr _]) dX12_bestOf_94 rfl rfl (nI_inc k) rfl ?_
        refine s_goto (tgt := 6) dX12_bestOf_97 (by decide) ?_
        exact s_fg [6, 7] rfl (s_eq (by rw [boS_s0 (fun z => by rw [n21] at z; exact absurd z.1 (by decide)), hq]; rfl) rfl rfl (ih (k + 1) (by omega)))
theorem c_X12_bestOf {N : Nat} {S : Nat → Nat × Nat} {I : Nat → Nat → Int32} {J : Nat → Nat → Int64} {Q : Nat → Nat → Option Nat} {κ : Option Value → HP → Prop} {D : Nat → Nat → Int32} {nv nr ns b : Nat} {th : Int32} (C : ST I D nv nr ns b th) {v t sg : Int32} (hk : κ (some (.int (ixo (boS D (nI b) (gM J b) th v t sg nr)))) (N, S, I, J, Q)) : CT E1 M_X12_bestOf [.ref 54, .int v, .int t, .int sg] (N, S, I, J, Q) κ := by
  refine ofSP mk_X12_bestOf (Nat.le_of_ble_eq_true rfl) (L := [.ref 54, .int _, .int _, .int _, .retAddr _, .retAddr _, .retAddr _, .retAddr _]) rfl ?_
  refine s_iconst (pc' := 1) (v := -1) dX12_bestOf_0 rfl (by decide) ?_
  refine t_istore (pc' := 3) (L' := [.ref 54, .int _, .int _, .int _, .int _, .retAddr _, .retAddr _, .retAddr _]) dX12_bestOf_1 rfl (Nat.le_of_ble_eq_true rfl) rfl ?_
  refine s_iconst (pc' := 4) (v := 0) dX12_bestOf_3 rfl (by decide) ?_
  refine t_istore (pc' := 6) (L' := [.ref 54, .int _, .int _, .int _, .int _, .int _, .retAddr _, .retAddr _]) dX12_bestOf_4 rfl (Nat.le_of_ble_eq_true rfl) rfl ?_
  exact l_X12_bestOf C hk nr 0 (by omega)
def basedV (D : Nat → Nat → Int32) (x : Int32) (g : Nat → Int64) (th v : Int32) (vj nr : Nat) : Int64 := match bsS D x g th v nr with
  | none => (D 56 vj).toInt64
  | some q => amt D g q
/-- what based() leaves -/
def PB (I I' D : Nat → Nat → Int32) (x : Int32) (g : Nat → Int64) (th v : Int32) (vj q k : Nat) : Prop := RW2 I I' (fun r => wk D x g th r 2 v) (hwS q) (btS q) k ∧ I' 86 vj = b2 (qrB D x g th v q k) ∧ ∀ u, u ≠ vj → I' 86 u = I 86 u
def PBn (I I' D : Nat → Nat → Int32) (x : Int32) (g : Nat → Int64) (th v : Int32) (vj nr : Nat) : Prop := match bsS D x g th v nr with
  | none => I' = up2 I 86 vj 0
  | some q => PB I I' D x g th v vj q nr
theorem PB.sk {I I' D : Nat → Nat → Int32} {x : Int32} {g : Nat → Int64} {th v : Int32} {vj q k : Nat} (h : PB I I' D x g th v vj q k) (hk : wk D x g th k 2 v = false) : PB I I' D x g th v vj q (k + 1) := ⟨h.1.sk hk, by rw [h.2.1]; simp [qrB, hk], h.2.2⟩
theorem PB.st {I I' D : Nat → Nat → Int32} {x : Int32} {g : Nat → Int64} {th v : Int32} {vj q k : Nat} {y : Int32} (h : PB I I' D x g th v vj q k) (hk : wk D x g th k 2 v = true) (hy : y = b2 (qrB D x g th v q (k + 1))) {a1 a2 : Int32} (h1 : a1 = hwS q k) (h2 : a2 = btS q k) : PB I (up2 (up2 (up2 I' 84 k a1) 85 k a2) 86 vj y) D x g th v vj q (k + 1) := by
  subst h1; subst h2
  refine ⟨h.1.st (I'' := up2 (up2 (up2 I' 84 k (hwS q k)) 85 k (btS q k)) 86 vj y) hk (((F3.rf.up (by decide)).up (by decide)).up (by decide)) ?_ ?_ (fun r hr => ?_), by rw [up2_s, hy], fun u hu => ?_⟩
  · simp (disch := decide) only [up2_d, up2_s]
  · simp (disch := decide) only [up2_d, up2_s]
  · simp (disch := decide) only [up2_d]; exact ⟨up2_e hr, up2_e hr⟩
  · rw [up2_e hu]; simp (disch := decide) only [up2_d]; exact h.2.2 u hu
theorem l_X12_based1 {N : Nat} {S : Nat → Nat × Nat} {I : Nat → Nat → Int32} {J : Nat → Nat → Int64} {Q : Nat → Nat → Option Nat} {κ : Option Value → HP → Prop} {D : Nat → Nat → Int32} {nv nr ns b : Nat} {th : Int32} (C : ST I D nv nr ns b th) {vj : Nat} {v : Int32} (hv : v = nI vj) (hvn : vj < nv) (hk : SP E1 M_X12_based κ 51 [.ref 54, .int v, .int (ixo (bsS D (nI b) (gM J b) th v nr)), .retAddr 0] [] (N, S, I, J, Q) 0 0) : ∀ d : Nat, ∀ k, k + d = nr → SP E1 M_X12_based κ 4 [.ref 54, .int v, .int (ixo (bsS D (nI b) (gM J b) th v k)), .int (nI k)] [] (N, S, I, J, Q) 0 0 := by
  intro d
  induction d with
  | zero =>
    intro k hd
    obtain rfl : k = nr := by omega
    refine s_iload_n (pc' := 5) dX12_based_4 rfl rfl ?_
    refine s_aload_n (pc' := 6) dX12_based_5 rfl rfl ?_
    refine s_getS (pc' := 9) (b := 75) dX12_based_6 rfl (by decide) rfl (by decide) fa_X12_70_12 rfl rfl ?_
    refine s_iconst (pc' := 10) (v := 1) dX12_based_9 rfl (by decide) ?_
    refine t_iald (pc' := 11) (q := 1) dX12_based_10 rfl sh_75 rfl (by decide) ?_
    refine s_icmpgeT (tgt := 51) dX12_based_11 (by decide) (by rw [C.1.2.1.rn C.1.1]; exact nI_le (Nat.le_refl _) (by have := C.1.2.1.nr; omega)) ?_
    exact s_fg [3] rfl hk
  | succ d ih =>
    intro k hd
    have hn30 := C.1.2.1.nr
    cases hq : bsS D (nI b) (gM J b) th v k with
    | none =>
      rw [ixo_n]
      refine s_iload_n (pc' := 5) dX12_based_4 rfl rfl ?_
      refine s_aload_n (pc' := 6) dX12_based_5 rfl rfl ?_
      refine s_getS (pc' := 9) (b := 75) dX12_based_6 rfl (by decide) rfl (by decide) fa_X12_70_12 rfl rfl ?_
      refine s_iconst (pc' := 10) (v := 1) dX12_based_9 rfl (by decide) ?_
      refine t_iald (pc' := 11) (q := 1) dX12_based_10 rfl sh_75 rfl (by decide) ?_
      refine s_icmpgeF (pc' := 14) (tgt := 51) dX12_based_11 (by decide) rfl (by rw [C.1.2.1.rn C.1.1]; exact nI_ge (by omega) (by have := C.1.2.1.nr; omega)) ?_
      refine s_aload_n (pc' := 15) dX12_based_14 rfl rfl ?_
      refine s_iload_n (pc' := 16) dX12_based_15 rfl rfl ?_
      refine s_iconst (pc' := 17) (v := 2) dX12_based_16 rfl (by decide) ?_
      refine s_iload_n (pc' := 18) dX12_based_17 rfl rfl ?_
      refine s_callV (pc' := 21) (As := [.int _, .int _, .int _]) dX12_based_18 rfl mk_X12_works ml_X12_237 im_X12_works se_X12_X12_X12_works sh_54 (by decide) rfl rfl rfl ⟨Nat.le_of_ble_eq_true rfl, Nat.le_of_ble_eq_true rfl, Nat.le_of_ble_eq_true rfl, Nat.le_of_ble_eq_true rfl⟩ (Nat.le_of_ble_eq_true rfl) (e_works C (r := _) (by omega) (fun w18 => ?_) (fun w18 => ?_))
      · refine s_ifeqF (pc' := 24) (tgt := 45) dX12_based_21 (by decide) rfl (by decide) ?_
        refine s_iload_n (pc' := 25) dX12_based_24 rfl rfl ?_
        refine s_ifltT (tgt := 43) dX12_based_25 (by decide) (by decide) ?_
        refine s_iload_n (pc' := 44) dX12_based_43 rfl rfl ?_
        refine t_istore_n (pc' := 45) (L' := [.ref 54, .int _, .int _, .int _]) dX12_based_44 rfl (Nat.le_of_ble_eq_true rfl) rfl ?_
        refine t_iinc (pc' := 48) (v := nI (k + 1)) (L' := [.ref 54, .int _, .int _, .int _]) dX12_based_45 rfl rfl (nI_inc k) rfl ?_
        refine s_goto (tgt := 4) dX12_based_48 (by decide) ?_
        exact s_eq (by rw [bsS_s1 w18 hq]; rfl) rfl rfl (ih (k + 1) (by omega))
      · refine s_ifeqT (tgt := 45) dX12_based_21 (by decide) (by decide) ?_
        refine t_iinc (pc' := 48) (v := nI (k + 1)) (L' := [.ref 54, .int _, .int _, .int _]) dX12_based_45 rfl rfl (nI_inc k) rfl ?_
        refine s_goto (tgt := 4) dX12_based_48 (by decide) ?_
        exact s_eq (by rw [bsS_s0 w18, hq]; rfl) rfl rfl (ih (k + 1) (by omega))
    | some q =>
      rw [ixo_s]
      have hqk := bsS_lt k q hq
      refine s_iload_n (pc' := 5) dX12_based_4 rfl rfl ?_
      refine s_aload_n (pc' := 6) dX12_based_5 rfl rfl ?_
      refine s_getS (pc' := 9) (b := 75) dX12_based_6 rfl (by decide) rfl (by decide) fa_X12_70_12 rfl rfl ?_
      refine s_iconst (pc' := 10) (v := 1) dX12_based_9 rfl (by decide) ?_
      refine t_iald (pc' := 11) (q := 1) dX12_based_10 rfl sh_75 rfl (by decide) ?_
      refine s_icmpgeF (pc' := 14) (tgt := 51) dX12_based_11 (by decide) rfl (by rw [C.1.2.1.rn C.1.1]; exact nI_ge (by omega) (by have := C.1.2.1.nr; omega)) ?_
      refine s_aload_n (pc' := 15) dX12_based_14 rfl rfl ?_
      refine s_iload_n (pc' := 16) dX12_based_15 rfl rfl ?_
      refine s_iconst (pc' := 17) (v := 2) dX12_based_16 rfl (by decide) ?_
      refine s_iload_n (pc' := 18) dX12_based_17 rfl rfl ?_
      refine s_callV (pc' := 21) (As := [.int _, .int _, .int _]) dX12_based_18 rfl mk_X12_works ml_X12_237 im_X12_works se_X12_X12_X12_works sh_54 (by decide) rfl rfl rfl ⟨Nat.le_of_ble_eq_true rfl, Nat.le_of_ble_eq_true rfl, Nat.le_of_ble_eq_true rfl, Nat.le_of_ble_eq_true rfl⟩ (Nat.le_of_ble_eq_true rfl) (e_works C (r := _) (by omega) (fun w18 => ?_) (fun w18 => ?_))
      · refine s_ifeqF (pc' := 24) (tgt := 45) dX12_based_21 (by decide) rfl (by decide) ?_
        refine s_iload_n (pc' := 25) dX12_based_24 rfl rfl ?_
        refine s_ifltF (pc' := 28) (tgt := 43) dX12_based_25 (by decide) rfl (nI_pos (by omega)) ?_
        refine s_aload_n (pc' := 29) dX12_based_28 rfl rfl ?_
        refine s_getS (pc' := 32) (b := 62) dX12_based_29 rfl (by decide) rfl (by decide) fa_X12_31_12 rfl rfl ?_
        refine s_iload_n (pc' := 33) dX12_based_32 rfl rfl ?_
        refine t_iald (pc' := 34) dX12_based_33 rfl sh_62 rfl (by have := C.1.2.1.nr; omega) ?_
        refine s_aload_n (pc' := 35) dX12_based_34 rfl rfl ?_
        refine s_getS (pc' := 38) (b := 62) dX12_based_35 rfl (by decide) rfl (by decide) fa_X12_31_12 rfl rfl ?_
        refine s_iload_n (pc' := 39) dX12_based_38 rfl rfl ?_
        refine t_iald (pc' := 40) dX12_based_39 rfl sh_62 rfl (by have := C.1.2.1.nr; omega) ?_
        refine s_icmple (pc' := 43) (tgt := 45) dX12_based_40 (by decide) rfl (fun c40 => ?_) (fun c40 => ?_)
        · refine t_iinc (pc' := 48) (v := nI (k + 1)) (L' := [.ref 54, .int _, .int _, .int _]) dX12_based_45 rfl rfl (nI_inc k) rfl ?_
          refine s_goto (tgt := 4) dX12_based_48 (by decide) ?_
          rw [C.1.1 62 (by decide) (by decide)] at c40
          exact s_eq (by rw [bsS_s3 w18 hq (Int32.not_lt.mpr c40)]; rfl) rfl rfl (ih (k + 1) (by omega))
        · refine s_iload_n (pc' := 44) dX12_based_43 rfl rfl ?_
          refine t_istore_n (pc' := 45) (L' := [.ref 54, .int _, .int _, .int _]) dX12_based_44 rfl (Nat.le_of_ble_eq_true rfl) rfl ?_
          refine t_iinc (pc' := 48) (v := nI (k + 1)) (L' := [.ref 54, .int _, .int _, .int _]) dX12_based_45 rfl rfl (nI_inc k) rfl ?_
          refine s_goto (tgt := 4) dX12_based_48 (by decide) ?_
          rw [C.1.1 62 (by decide) (by decide)] at c40
          exact s_eq (by rw [bsS_s2 w18 hq (Int32.not_le.mp c40)]; rfl) rfl rfl (ih (k + 1) (by omega))
      · refine s_ifeqT (tgt := 45) dX12_based_21 (by decide) (by decide) ?_
        refine t_iinc (pc' := 48) (v := nI (k + 1)) (L' := [.ref 54, .int _, .int _, .int _]) dX12_based_45 rfl rfl (nI_inc k) rfl ?_
        refine s_goto (tgt := 4) dX12_based_48 (by decide) ?_
        exact s_eq (by rw [bsS_s0 w18, hq]; rfl) rfl rfl (ih (k + 1) (by omega))
theorem b2_1 {c : Bool} (h : b2 c ≠ 0) : c = true := by cases c <;> first | rfl | exact absurd rfl h
theorem b2_0 {c : Bool} (h : b2 c = 0) : c = false := by cases c <;> first | rfl | exact absurd h (by decide)
theorem b2_z (c : Bool) : narrow .boolean (.int (b2 c)) = .int (b2 c) := by cases c <;> rfl
theorem l_X12_based2 {N : Nat} {S : Nat → Nat × Nat} {I : Nat → Nat → Int32} {J : Nat → Nat → Int64} {Q : Nat → Nat → Option Nat} {κ : Option Value → HP → Prop} {D : Nat → Nat → Int32} {nv nr ns b : Nat} {th : Int32} (C : ST I D nv nr ns b th) {vj : Nat} {v : Int32} (hv : v = nI vj) (hvn : vj < nv) {q : Nat} (hq : q < nr) (hk : ∀ I', PB I I' D (nI b) (gM J b) th v vj q nr → κ (some (.long (amt D (gM J b) q))) (N, S, I', J, Q)) : ∀ d : Nat, ∀ k I', k + d = nr → PB I I' D (nI b) (gM J b) th v vj q k → SP E1 M_X12_based κ 72 [.ref 54, .int v, .int (nI q), .int (nI k)] [] (N, S, I', J, Q) 0 0 := by
  intro d
  induction d with
  | zero =>
    intro k I' hd hP
    obtain rfl : k = nr := by omega
    have C0 := C
    replace C := C.mv hP.1.1
    refine s_iload_n (pc' := 73) dX12_based_72 rfl rfl ?_
    refine s_aload_n (pc' := 74) dX12_based_73 rfl rfl ?_
    refine s_getS (pc' := 77) (b := 75) dX12_based_74 rfl (by decide) rfl (by decide) fa_X12_70_12 rfl rfl ?_
    refine s_iconst (pc' := 78) (v := 1) dX12_based_77 rfl (by decide) ?_
    refine t_iald (pc' := 79) (q := 1) dX12_based_78 rfl sh_75 rfl (by decide) ?_
    refine s_icmpgeT (tgt := 182) dX12_based_79 (by decide) (by rw [C.1.2.1.rn C.1.1]; exact nI_le (Nat.le_refl _) (by have := C.1.2.1.nr; omega)) ?_
    refine s_aload_n (pc' := 183) dX12_based_182 rfl rfl ?_
    refine s_iload_n (pc' := 184) dX12_based_183 rfl rfl ?_
    refine s_callV (pc' := 187) (As := [.int _]) dX12_based_184 rfl mk_X12_amountOf ml_X12_241 im_X12_amountOf se_X12_X12_X12_amountOf sh_54 (by decide) rfl rfl rfl ⟨Nat.le_of_ble_eq_true rfl, Nat.le_of_ble_eq_true rfl, Nat.le_of_ble_eq_true rfl, Nat.le_of_ble_eq_true rfl⟩ (Nat.le_of_ble_eq_true rfl) (c_X12_amountOf C.1 (r := _) (by omega) ?_)
    exact s_lret dX12_based_187 rfl (by decide) (by decide) (hk I' hP)
  | succ d ih =>
    intro k I' hd hP
    have hn30 := C.1.2.1.nr
    have C0 := C
    replace C := C.mv hP.1.1
    refine s_iload_n (pc' := 73) dX12_based_72 rfl rfl ?_
    refine s_aload_n (pc' := 74) dX12_based_73 rfl rfl ?_
    refine s_getS (pc' := 77) (b := 75) dX12_based_74 rfl (by decide) rfl (by decide) fa_X12_70_12 rfl rfl ?_
    refine s_iconst (pc' := 78) (v := 1) dX12_based_77 rfl (by decide) ?_
    refine t_iald (pc' := 79) (q := 1) dX12_based_78 rfl sh_75 rfl (by decide) ?_
    refine s_icmpgeF (pc' := 82) (tgt := 182) dX12_based_79 (by decide) rfl (by rw [C.1.2.1.rn C.1.1]; exact nI_ge (by omega) (by have := C.1.2.1.nr; omega)) ?_
    refine s_aload_n (pc' := 83) dX12_based_82 rfl rfl ?_
    refine s_iload_n (pc' := 84) dX12_based_83 rfl rfl ?_
    refine s_iconst (pc' := 85) (v := 2) dX12_based_84 rfl (by decide) ?_
    refine s_iload_n (pc' := 86) dX12_based_85 rfl rfl ?_
    refine s_callV (pc' := 89) (As := [.int _, .int _, .int _]) dX12_based_86 rfl mk_X12_works ml_X12_237 im_X12_works se_X12_X12_X12_works sh_54 (by decide) rfl rfl rfl ⟨Nat.le_of_ble_eq_true rfl, Nat.le_of_ble_eq_true rfl, Nat.le_of_ble_eq_true rfl, Nat.le_of_ble_eq_true rfl⟩ (Nat.le_of_ble_eq_true rfl) (e_works C (r := _) (by omega) (fun w86 => ?_) (fun w86 => ?_))
    · refine s_ifneT (tgt := 95) dX12_based_89 (by decide) (by decide) ?_
      refine s_aload_n (pc' := 96) dX12_based_95 rfl rfl ?_
      refine s_getS (pc' := 99) (b := 84) dX12_based_96 rfl (by decide) rfl (by decide) fa_X12_99_12 rfl rfl ?_
      refine s_iload_n (pc' := 100) dX12_based_99 rfl rfl ?_
      refine s_iload_n (pc' := 101) dX12_based_100 rfl rfl ?_
      refine s_iload_n (pc' := 102) dX12_based_101 rfl rfl ?_
      refine s_icmpne (pc' := 105) (tgt := 109) dX12_based_102 (by decide) rfl (fun c102 => ?_) (fun c102 => ?_)
      · refine s_iconst (pc' := 110) (v := 4) dX12_based_109 rfl (by decide) ?_
        refine t_iast (pc' := 111) dX12_based_110 rfl sh_84 rfl (by have := C.1.2.1.nr; omega) ?_
        refine s_aload_n (pc' := 112) dX12_based_111 rfl rfl ?_
        refine s_getS (pc' := 115) (b := 85) dX12_based_112 rfl (by decide) rfl (by decide) fa_X12_102_12 rfl rfl ?_
        refine s_iload_n (pc' := 116) dX12_based_115 rfl rfl ?_
        refine s_iload_n (pc' := 117) dX12_based_116 rfl rfl ?_
        refine s_iload_n (pc' := 118) dX12_based_117 rfl rfl ?_
        refine s_icmpne (pc' := 121) (tgt := 125) dX12_based_118 (by decide) rfl (fun c118 => ?_) (fun c118 => ?_)
        · refine s_iload_n (pc' := 126) dX12_based_125 rfl rfl ?_
          refine t_iast (pc' := 127) dX12_based_126 rfl sh_85 rfl (by have := C.1.2.1.nr; omega) ?_
          refine s_aload_n (pc' := 128) dX12_based_127 rfl rfl ?_
          refine s_getS (pc' := 131) (b := 86) dX12_based_128 rfl (by decide) rfl (by decide) fa_X12_105_12 rfl rfl ?_
          refine s_iload_n (pc' := 132) dX12_based_131 rfl rfl ?_
          refine s_aload_n (pc' := 133) dX12_based_132 rfl rfl ?_
          refine s_getS (pc' := 136) (b := 86) dX12_based_133 rfl (by decide) rfl (by decide) fa_X12_105_12 rfl rfl ?_
          refine s_iload_n (pc' := 137) dX12_based_136 rfl rfl ?_
          refine t_zald (pc' := 138) (q := vj) dX12_based_137 rfl sh_86 hv (by have := C.1.2.1.nv; omega) ?_
          refine s_ifne (pc' := 141) (tgt := 170) dX12_based_138 (by decide) rfl (fun c138 => ?_) (fun c138 => ?_)
          · refine s_iconst (pc' := 171) (v := 1) dX12_based_170 rfl (by decide) ?_
            refine s_goto (tgt := 175) dX12_based_171 (by decide) ?_
            refine t_zast (pc' := 176) (q := vj) dX12_based_175 rfl sh_86 hv (by have := C.1.2.1.nv; omega) rfl ?_
            refine t_iinc (pc' := 179) (v := nI (k + 1)) (L' := [.ref 54, .int _, .int _, .int _]) dX12_based_176 rfl rfl (nI_inc k) rfl ?_
            refine s_goto (tgt := 72) dX12_based_179 (by decide) ?_
            simp (disch := decide) only [up2_d] at c138
            exact ih (k + 1) _ (by omega) (hP.st w86 (y := _) (by rw [hP.2.1] at c138; simp [b2, qrB, b2_1 c138]) (by first | rw [hwS, if_pos (by have := c102; exact (nI_eq (by omega) (by omega)).mp this)] | rw [hwS, if_neg (fun z => c102 (by rw [z]))]) (by first | rw [btS, if_pos (by have := c118; exact (nI_eq (by omega) (by omega)).mp this)] | rw [btS, if_neg (fun z => c118 (by rw [z]))]))
          · refine s_aload_n (pc' := 142) dX12_based_141 rfl rfl ?_
            refine s_getS (pc' := 145) (b := 62) dX12_based_142 rfl (by decide) rfl (by decide) fa_X12_31_12 rfl rfl ?_
            refine s_iload_n (pc' := 146) dX12_based_145 rfl rfl ?_
            refine t_iald (pc' := 147) dX12_based_146 rfl sh_62 rfl (by have := C.1.2.1.nr; omega) ?_
            refine s_aload_n (pc' := 148) dX12_based_147 rfl rfl ?_
            refine s_getS (pc' := 151) (b := 62) dX12_based_148 rfl (by decide) rfl (by decide) fa_X12_31_12 rfl rfl ?_
            refine s_iload_n (pc' := 152) dX12_based_151 rfl rfl ?_
            refine t_iald (pc' := 153) dX12_based_152 rfl sh_62 rfl (by have := C.1.2.1.nr; omega) ?_
            refine s_icmpne (pc' := 156) (tgt := 174) dX12_based_153 (by decide) rfl (fun c153 => ?_) (fun c153 => ?_)
            · refine s_iconst (pc' := 175) (v := 0) dX12_based_174 rfl (by decide) ?_
              refine t_zast (pc' := 176) (q := vj) dX12_based_175 rfl sh_86 hv (by have := C.1.2.1.nv; omega) rfl ?_
              refine t_iinc (pc' := 179) (v := nI (k + 1)) (L' := [.ref 54, .int _, .int _, .int _]) dX12_based_176 rfl rfl (nI_inc k) rfl ?_
              refine s_goto (tgt := 72) dX12_based_179 (by decide) ?_
              simp (disch := decide) only [up2_d] at c138
              simp (disch := decide) only [up2_d] at c153
              exact ih (k + 1) _ (by omega) (hP.st w86 (y := _) (by rw [hP.2.1] at c138; rw [C.1.1 62 (by decide) (by decide)] at c153; simp [b2, qrB, b2_0 c138, c153]) (by first | rw [hwS, if_pos (by have := c102; exact (nI_eq (by omega) (by omega)).mp this)] | rw [hwS, if_neg (fun z => c102 (by rw [z]))]) (by first | rw [btS, if_pos (by have := c118; exact (nI_eq (by omega) (by omega)).mp this)] | rw [btS, if_neg (fun z => c118 (by rw [z]))]))
            · refine s_aload_n (pc' := 157) dX12_based_156 rfl rfl ?_
              refine s_iload_n (pc' := 158) dX12_based_157 rfl rfl ?_
              refine s_callV (pc' := 161) (As := [.int _]) dX12_based_158 rfl mk_X12_amountOf ml_X12_241 im_X12_amountOf se_X12_X12_X12_amountOf sh_54 (by decide) rfl rfl rfl ⟨Nat.le_of_ble_eq_true rfl, Nat.le_of_ble_eq_true rfl, Nat.le_of_ble_eq_true rfl, Nat.le_of_ble_eq_true rfl⟩ (Nat.le_of_ble_eq_true rfl) (c_X12_amountOf (C.mv ((F3.rf.up (by decide)).up (by decide))).1 (r := _) (by omega) ?_)
              refine s_aload_n (pc' := 162) dX12_based_161 rfl rfl ?_
              refine s_iload_n (pc' := 163) dX12_based_162 rfl rfl ?_
              refine s_callV (pc' := 166) (As := [.int _]) dX12_based_163 rfl mk_X12_amountOf ml_X12_241 im_X12_amountOf se_X12_X12_X12_amountOf sh_54 (by decide) rfl rfl rfl ⟨Nat.le_of_ble_eq_true rfl, Nat.le_of_ble_eq_true rfl, Nat.le_of_ble_eq_true rfl, Nat.le_of_ble_eq_true rfl⟩ (Nat.le_of_ble_eq_true rfl) (c_X12_amountOf (C.mv ((F3.rf.up (by decide)).up (by decide))).1 (r := _) (by omega) ?_)
              refine s_lcmp (pc' := 167) dX12_based_166 rfl ?_
              refine s_ifeq (pc' := 170) (tgt := 174) dX12_based_167 (by decide) rfl (fun c167 => ?_) (fun c167 => ?_)
              · refine s_iconst (pc' := 175) (v := 0) dX12_based_174 rfl (by decide) ?_
                refine t_zast (pc' := 176) (q := vj) dX12_based_175 rfl sh_86 hv (by have := C.1.2.1.nv; omega) rfl ?_
                refine t_iinc (pc' := 179) (v := nI (k + 1)) (L' := [.ref 54, .int _, .int _, .int _]) dX12_based_176 rfl rfl (nI_inc k) rfl ?_
                refine s_goto (tgt := 72) dX12_based_179 (by decide) ?_
                simp (disch := decide) only [up2_d] at c138
                simp (disch := decide) only [up2_d] at c153
                exact ih (k + 1) _ (by omega) (hP.st w86 (y := _) (by rw [hP.2.1] at c138; have := (lg_cmp_eq _ _).mp c167; simp [b2, qrB, b2_0 c138, this]) (by first | rw [hwS, if_pos (by have := c102; exact (nI_eq (by omega) (by omega)).mp this)] | rw [hwS, if_neg (fun z => c102 (by rw [z]))]) (by first | rw [btS, if_pos (by have := c118; exact (nI_eq (by omega) (by omega)).mp this)] | rw [btS, if_neg (fun z => c118 (by rw [z]))]))
              · refine s_iconst (pc' := 171) (v := 1) dX12_based_170 rfl (by decide) ?_
                refine s_goto (tgt := 175) dX12_based_171 (by decide) ?_
                refine t_zast (pc' := 176) (q := vj) dX12_based_175 rfl sh_86 hv (by have := C.1.2.1.nv; omega) rfl ?_
                refine t_iinc (pc' := 179) (v := nI (k + 1)) (L' := [.ref 54, .int _, .int _, .int _]) dX12_based_176 rfl rfl (nI_inc k) rfl ?_
                refine s_goto (tgt := 72) dX12_based_179 (by decide) ?_
                simp (disch := decide) only [up2_d] at c138
                simp (disch := decide) only [up2_d] at c153
                exact ih (k + 1) _ (by omega) (hP.st w86 (y := _) (by rw [hP.2.1] at c138; rw [C.1.1 62 (by decide) (by decide)] at c153; have : amt D (gM J b) k ≠ amt D (gM J b) q := fun z => c167 ((lg_cmp_eq _ _).mpr z); simp [b2, qrB, w86, c153, this]) (by first | rw [hwS, if_pos (by have := c102; exact (nI_eq (by omega) (by omega)).mp this)] | rw [hwS, if_neg (fun z => c102 (by rw [z]))]) (by first | rw [btS, if_pos (by have := c118; exact (nI_eq (by omega) (by omega)).mp this)] | rw [btS, if_neg (fun z => c118 (by rw [z]))]))
        · refine s_iconst (pc' := 122) (v := -1) dX12_based_121 rfl (by decide) ?_
          refine s_goto (tgt := 126) dX12_based_122 (by decide) ?_
          refine t_iast (pc' := 127) dX12_based_126 rfl sh_85 rfl (by have := C.1.2.1.nr; omega) ?_
          refine s_aload_n (pc' := 128) dX12_based_127 rfl rfl ?_
          refine s_getS (pc' := 131) (b := 86) dX12_based_128 rfl (by decide) rfl (by decide) fa_X12_105_12 rfl rfl ?_
          refine s_iload_n (pc' := 132) dX12_based_131 rfl rfl ?_
          refine s_aload_n (pc' := 133) dX12_based_132 rfl rfl ?_
          refine s_getS (pc' := 136) (b := 86) dX12_based_133 rfl (by decide) rfl (by decide) fa_X12_105_12 rfl rfl ?_
          refine s_iload_n (pc' := 137) dX12_based_136 rfl rfl ?_
          refine t_zald (pc' := 138) (q := vj) dX12_based_137 rfl sh_86 hv (by have := C.1.2.1.nv; omega) ?_
          refine s_ifne (pc' := 141) (tgt := 170) dX12_based_138 (by decide) rfl (fun c138 => ?_) (fun c138 => ?_)
          · refine s_iconst (pc' := 171) (v := 1) dX12_based_170 rfl (by decide) ?_
            refine s_goto (tgt := 175) dX12_based_171 (by decide) ?_
            refine t_zast (pc' := 176) (q := vj) dX12_based_175 rfl sh_86 hv (by have := C.1.2.1.nv; omega) rfl ?_
            refine t_iinc (pc' := 179) (v := nI (k + 1)) (L' := [.ref 54, .int _, .int _, .int _]) dX12_based_176 rfl rfl (nI_inc k) rfl ?_
            refine s_goto (tgt := 72) dX12_based_179 (by decide) ?_
            simp (disch := decide) only [up2_d] at c138
            exact ih (k + 1) _ (by omega) (hP.st w86 (y := _) (by rw [hP.2.1] at c138; simp [b2, qrB, b2_1 c138]) (by first | rw [hwS, if_pos (by have := c102; exact (nI_eq (by omega) (by omega)).mp this)] | rw [hwS, if_neg (fun z => c102 (by rw [z]))]) (by first | rw [btS, if_pos (by have := c118; exact (nI_eq (by omega) (by omega)).mp this)] | rw [btS, if_neg (fun z => c118 (by rw [z]))]))
          · refine s_aload_n (pc' := 142) dX12_based_141 rfl rfl ?_
            refine s_getS (pc' := 145) (b := 62) dX12_based_142 rfl (by decide) rfl (by decide) fa_X12_31_12 rfl rfl ?_
            refine s_iload_n (pc' := 146) dX12_based_145 rfl rfl ?_
            refine t_iald (pc' := 147) dX12_based_146 rfl sh_62 rfl (by have := C.1.2.1.nr; omega) ?_
            refine s_aload_n (pc' := 148) dX12_based_147 rfl rfl ?_
            refine s_getS (pc' := 151) (b := 62) dX12_based_148 rfl (by decide) rfl (by decide) fa_X12_31_12 rfl rfl ?_
            refine s_iload_n (pc' := 152) dX12_based_151 rfl rfl ?_
            refine t_iald (pc' := 153) dX12_based_152 rfl sh_62 rfl (by have := C.1.2.1.nr; omega) ?_
            refine s_icmpne (pc' := 156) (tgt := 174) dX12_based_153 (by decide) rfl (fun c153 => ?_) (fun c153 => ?_)
            · refine s_iconst (pc' := 175) (v := 0) dX12_based_174 rfl (by decide) ?_
              refine t_zast (pc' := 176) (q := vj) dX12_based_175 rfl sh_86 hv (by have := C.1.2.1.nv; omega) rfl ?_
              refine t_iinc (pc' := 179) (v := nI (k + 1)) (L' := [.ref 54, .int _, .int _, .int _]) dX12_based_176 rfl rfl (nI_inc k) rfl ?_
              refine s_goto (tgt := 72) dX12_based_179 (by decide) ?_
              simp (disch := decide) only [up2_d] at c138
              simp (disch := decide) only [up2_d] at c153
              exact ih (k + 1) _ (by omega) (hP.st w86 (y := _) (by rw [hP.2.1] at c138; rw [C.1.1 62 (by decide) (by decide)] at c153; simp [b2, qrB, b2_0 c138, c153]) (by first | rw [hwS, if_pos (by have := c102; exact (nI_eq (by omega) (by omega)).mp this)] | rw [hwS, if_neg (fun z => c102 (by rw [z]))]) (by first | rw [btS, if_pos (by have := c118; exact (nI_eq (by omega) (by omega)).mp this)] | rw [btS, if_neg (fun z => c118 (by rw [z]))]))
            · refine s_aload_n (pc' := 157) dX12_based_156 rfl rfl ?_
              refine s_iload_n (pc' := 158) dX12_based_157 rfl rfl ?_
              refine s_callV (pc' := 161) (As := [.int _]) dX12_based_158 rfl mk_X12_amountOf ml_X12_241 im_X12_amountOf se_X12_X12_X12_amountOf sh_54 (by decide) rfl rfl rfl ⟨Nat.le_of_ble_eq_true rfl, Nat.le_of_ble_eq_true rfl, Nat.le_of_ble_eq_true rfl, Nat.le_of_ble_eq_true rfl⟩ (Nat.le_of_ble_eq_true rfl) (c_X12_amountOf (C.mv ((F3.rf.up (by decide)).up (by decide))).1 (r := _) (by omega) ?_)
              refine s_aload_n (pc' := 162) dX12_based_161 rfl rfl ?_
              refine s_iload_n (pc' := 163) dX12_based_162 rfl rfl ?_
              refine s_callV (pc' := 166) (As := [.int _]) dX12_based_163 rfl mk_X12_amountOf ml_X12_241 im_X12_amountOf se_X12_X12_X12_amountOf sh_54 (by decide) rfl rfl rfl ⟨Nat.le_of_ble_eq_true rfl, Nat.le_of_ble_eq_true rfl, Nat.le_of_ble_eq_true rfl, Nat.le_of_ble_eq_true rfl⟩ (Nat.le_of_ble_eq_true rfl) (c_X12_amountOf (C.mv ((F3.rf.up (by decide)).up (by decide))).1 (r := _) (by omega) ?_)
              refine s_lcmp (pc' := 167) dX12_based_166 rfl ?_
              refine s_ifeq (pc' := 170) (tgt := 174) dX12_based_167 (by decide) rfl (fun c167 => ?_) (fun c167 => ?_)
              · refine s_iconst (pc' := 175) (v := 0) dX12_based_174 rfl (by decide) ?_
                refine t_zast (pc' := 176) (q := vj) dX12_based_175 rfl sh_86 hv (by have := C.1.2.1.nv; omega) rfl ?_
                refine t_iinc (pc' := 179) (v := nI (k + 1)) (L' := [.ref 54, .int _, .int _, .int _]) dX12_based_176 rfl rfl (nI_inc k) rfl ?_
                refine s_goto (tgt := 72) dX12_based_179 (by decide) ?_
                simp (disch := decide) only [up2_d] at c138
                simp (disch := decide) only [up2_d] at c153
                exact ih (k + 1) _ (by omega) (hP.st w86 (y := _) (by rw [hP.2.1] at c138; have := (lg_cmp_eq _ _).mp c167; simp [b2, qrB, b2_0 c138, this]) (by first | rw [hwS, if_pos (by have := c102; exact (nI_eq (by omega) (by omega)).mp this)] | rw [hwS, if_neg (fun z => c102 (by rw [z]))]) (by first | rw [btS, if_pos (by have := c118; exact (nI_eq (by omega) (by omega)).mp this)] | rw [btS, if_neg (fun z => c118 (by rw [z]))]))
              · refine s_iconst (pc' := 171) (v := 1) dX12_based_170 rfl (by decide) ?_
                refine s_goto (tgt := 175) dX12_based_171 (by decide) ?_
                refine t_zast (pc' := 176) (q := vj) dX12_based_175 rfl sh_86 hv (by have := C.1.2.1.nv; omega) rfl ?_
                refine t_iinc (pc' := 179) (v := nI (k + 1)) (L' := [.ref 54, .int _, .int _, .int _]) dX12_based_176 rfl rfl (nI_inc k) rfl ?_
                refine s_goto (tgt := 72) dX12_based_179 (by decide) ?_
                simp (disch := decide) only [up2_d] at c138
                simp (disch := decide) only [up2_d] at c153
                exact ih (k + 1) _ (by omega) (hP.st w86 (y := _) (by rw [hP.2.1] at c138; rw [C.1.1 62 (by decide) (by decide)] at c153; have : amt D (gM J b) k ≠ amt D (gM J b) q := fun z => c167 ((lg_cmp_eq _ _).mpr z); simp [b2, qrB, w86, c153, this]) (by first | rw [hwS, if_pos (by have := c102; exact (nI_eq (by omega) (by omega)).mp this)] | rw [hwS, if_neg (fun z => c102 (by rw [z]))]) (by first | rw [btS, if_pos (by have := c118; exact (nI_eq (by omega) (by omega)).mp this)] | rw [btS, if_neg (fun z => c118 (by rw [z]))]))
      · refine s_iconst (pc' := 106) (v := 2) dX12_based_105 rfl (by decide) ?_
        refine s_goto (tgt := 110) dX12_based_106 (by decide) ?_
        refine t_iast (pc' := 111) dX12_based_110 rfl sh_84 rfl (by have := C.1.2.1.nr; omega) ?_
        refine s_aload_n (pc' := 112) dX12_based_111 rfl rfl ?_
        refine s_getS (pc' := 115) (b := 85) dX12_based_112 rfl (by decide) rfl (by decide) fa_X12_102_12 rfl rfl ?_
        refine s_iload_n (pc' := 116) dX12_based_115 rfl rfl ?_
        refine s_iload_n (pc' := 117) dX12_based_116 rfl rfl ?_
        refine s_iload_n (pc' := 118) dX12_based_117 rfl rfl ?_
        refine s_icmpne (pc' := 121) (tgt := 125) dX12_based_118 (by decide) rfl (fun c118 => ?_) (fun c118 => ?_)
        · refine s_iload_n (pc' := 126) dX12_based_125 rfl rfl ?_
          refine t_iast (pc' := 127) dX12_based_126 rfl sh_85 rfl (by have := C.1.2.1.nr; omega) ?_
          refine s_aload_n (pc' := 128) dX12_based_127 rfl rfl ?_
          refine s_getS (pc' := 131) (b := 86) dX12_based_128 rfl (by decide) rfl (by decide) fa_X12_105_12 rfl rfl ?_
          refine s_iload_n (pc' := 132) dX12_based_131 rfl rfl ?_
          refine s_aload_n (pc' := 133) dX12_based_132 rfl rfl ?_
          refine s_getS (pc' := 136) (b := 86) dX12_based_133 rfl (by decide) rfl (by decide) fa_X12_105_12 rfl rfl ?_
          refine s_iload_n (pc' := 137) dX12_based_136 rfl rfl ?_
          refine t_zald (pc' := 138) (q := vj) dX12_based_137 rfl sh_86 hv (by have := C.1.2.1.nv; omega) ?_
          refine s_ifne (pc' := 141) (tgt := 170) dX12_based_138 (by decide) rfl (fun c138 => ?_) (fun c138 => ?_)
          · refine s_iconst (pc' := 171) (v := 1) dX12_based_170 rfl (by decide) ?_
            refine s_goto (tgt := 175) dX12_based_171 (by decide) ?_
            refine t_zast (pc' := 176) (q := vj) dX12_based_175 rfl sh_86 hv (by have := C.1.2.1.nv; omega) rfl ?_
            refine t_iinc (pc' := 179) (v := nI (k + 1)) (L' := [.ref 54, .int _, .int _, .int _]) dX12_based_176 rfl rfl (nI_inc k) rfl ?_
            refine s_goto (tgt := 72) dX12_based_179 (by decide) ?_
            simp (disch := decide) only [up2_d] at c138
            exact ih (k + 1) _ (by omega) (hP.st w86 (y := _) (by rw [hP.2.1] at c138; simp [b2, qrB, b2_1 c138]) (by first | rw [hwS, if_pos (by have := c102; exact (nI_eq (by omega) (by omega)).mp this)] | rw [hwS, if_neg (fun z => c102 (by rw [z]))]) (by first | rw [btS, if_pos (by have := c118; exact (nI_eq (by omega) (by omega)).mp this)] | rw [btS, if_neg (fun z => c118 (by rw [z]))]))
          · refine s_aload_n (pc' := 142) dX12_based_141 rfl rfl ?_
            refine s_getS (pc' := 145) (b := 62) dX12_based_142 rfl (by decide) rfl (by decide) fa_X12_31_12 rfl rfl ?_
            refine s_iload_n (pc' := 146) dX12_based_145 rfl rfl ?_
            refine t_iald (pc' := 147) dX12_based_146 rfl sh_62 rfl (by have := C.1.2.1.nr; omega) ?_
            refine s_aload_n (pc' := 148) dX12_based_147 rfl rfl ?_
            refine s_getS (pc' := 151) (b := 62) dX12_based_148 rfl (by decide) rfl (by decide) fa_X12_31_12 rfl rfl ?_
            refine s_iload_n (pc' := 152) dX12_based_151 rfl rfl ?_
            refine t_iald (pc' := 153) dX12_based_152 rfl sh_62 rfl (by have := C.1.2.1.nr; omega) ?_
            refine s_icmpne (pc' := 156) (tgt := 174) dX12_based_153 (by decide) rfl (fun c153 => ?_) (fun c153 => ?_)
            · refine s_iconst (pc' := 175) (v := 0) dX12_based_174 rfl (by decide) ?_
              refine t_zast (pc' := 176) (q := vj) dX12_based_175 rfl sh_86 hv (by have := C.1.2.1.nv; omega) rfl ?_
              refine t_iinc (pc' := 179) (v := nI (k + 1)) (L' := [.ref 54, .int _, .int _, .int _]) dX12_based_176 rfl rfl (nI_inc k) rfl ?_
              refine s_goto (tgt := 72) dX12_based_179 (by decide) ?_
              simp (disch := decide) only [up2_d] at c138
              simp (disch := decide) only [up2_d] at c153
              exact ih (k + 1) _ (by omega) (hP.st w86 (y := _) (by rw [hP.2.1] at c138; rw [C.1.1 62 (by decide) (by decide)] at c153; simp [b2, qrB, b2_0 c138, c153]) (by first | rw [hwS, if_pos (by have := c102; exact (nI_eq (by omega) (by omega)).mp this)] | rw [hwS, if_neg (fun z => c102 (by rw [z]))]) (by first | rw [btS, if_pos (by have := c118; exact (nI_eq (by omega) (by omega)).mp this)] | rw [btS, if_neg (fun z => c118 (by rw [z]))]))
            · refine s_aload_n (pc' := 157) dX12_based_156 rfl rfl ?_
              refine s_iload_n (pc' := 158) dX12_based_157 rfl rfl ?_
              refine s_callV (pc' := 161) (As := [.int _]) dX12_based_158 rfl mk_X12_amountOf ml_X12_241 im_X12_amountOf se_X12_X12_X12_amountOf sh_54 (by decide) rfl rfl rfl ⟨Nat.le_of_ble_eq_true rfl, Nat.le_of_ble_eq_true rfl, Nat.le_of_ble_eq_true rfl, Nat.le_of_ble_eq_true rfl⟩ (Nat.le_of_ble_eq_true rfl) (c_X12_amountOf (C.mv ((F3.rf.up (by decide)).up (by decide))).1 (r := _) (by omega) ?_)
              refine s_aload_n (pc' := 162) dX12_based_161 rfl rfl ?_
              refine s_iload_n (pc' := 163) dX12_based_162 rfl rfl ?_
              refine s_callV (pc' := 166) (As := [.int _]) dX12_based_163 rfl mk_X12_amountOf ml_X12_241 im_X12_amountOf se_X12_X12_X12_amountOf sh_54 (by decide) rfl rfl rfl ⟨Nat.le_of_ble_eq_true rfl, Nat.le_of_ble_eq_true rfl, Nat.le_of_ble_eq_true rfl, Nat.le_of_ble_eq_true rfl⟩ (Nat.le_of_ble_eq_true rfl) (c_X12_amountOf (C.mv ((F3.rf.up (by decide)).up (by decide))).1 (r := _) (by omega) ?_)
              refine s_lcmp (pc' := 167) dX12_based_166 rfl ?_
              refine s_ifeq (pc' := 170) (tgt := 174) dX12_based_167 (by decide) rfl (fun c167 => ?_) (fun c167 => ?_)
              · refine s_iconst (pc' := 175) (v := 0) dX12_based_174 rfl (by decide) ?_
                refine t_zast (pc' := 176) (q := vj) dX12_based_175 rfl sh_86 hv (by have := C.1.2.1.nv; omega) rfl ?_
                refine t_iinc (pc' := 179) (v := nI (k + 1)) (L' := [.ref 54, .int _, .int _, .int _]) dX12_based_176 rfl rfl (nI_inc k) rfl ?_
                refine s_goto (tgt := 72) dX12_based_179 (by decide) ?_
                simp (disch := decide) only [up2_d] at c138
                simp (disch := decide) only [up2_d] at c153
                exact ih (k + 1) _ (by omega) (hP.st w86 (y := _) (by rw [hP.2.1] at c138; have := (lg_cmp_eq _ _).mp c167; simp [b2, qrB, b2_0 c138, this]) (by first | rw [hwS, if_pos (by have := c102; exact (nI_eq (by omega) (by omega)).mp this)] | rw [hwS, if_neg (fun z => c102 (by rw [z]))]) (by first | rw [btS, if_pos (by have := c118; exact (nI_eq (by omega) (by omega)).mp this)] | rw [btS, if_neg (fun z => c118 (by rw [z]))]))
              · refine s_iconst (pc' := 171) (v := 1) dX12_based_170 rfl (by decide) ?_
                refine s_goto (tgt := 175) dX12_based_171 (by decide) ?_
                refine t_zast (pc' := 176) (q := vj) dX12_based_175 rfl sh_86 hv (by have := C.1.2.1.nv; omega) rfl ?_
                refine t_iinc (pc' := 179) (v := nI (k + 1)) (L' := [.ref 54, .int _, .int _, .int _]) dX12_based_176 rfl rfl (nI_inc k) rfl ?_
                refine s_goto (tgt := 72) dX12_based_179 (by decide) ?_
                simp (disch := decide) only [up2_d] at c138
                simp (disch := decide) only [up2_d] at c153
                exact ih (k + 1) _ (by omega) (hP.st w86 (y := _) (by rw [hP.2.1] at c138; rw [C.1.1 62 (by decide) (by decide)] at c153; have : amt D (gM J b) k ≠ amt D (gM J b) q := fun z => c167 ((lg_cmp_eq _ _).mpr z); simp [b2, qrB, w86, c153, this]) (by first | rw [hwS, if_pos (by have := c102; exact (nI_eq (by omega) (by omega)).mp this)] | rw [hwS, if_neg (fun z => c102 (by rw [z]))]) (by first | rw [btS, if_pos (by have := c118; exact (nI_eq (by omega) (by omega)).mp this)] | rw [btS, if_neg (fun z => c118 (by rw [z]))]))
        · refine s_iconst (pc' := 122) (v := -1) dX12_based_121 rfl (by decide) ?_
          refine s_goto (tgt := 126) dX12_based_122 (by decide) ?_
          refine t_iast (pc' := 127) dX12_based_126 rfl sh_85 rfl (by have := C.1.2.1.nr; omega) ?_
          refine s_aload_n (pc' := 128) dX12_based_127 rfl rfl ?_
          refine s_getS (pc' := 131) (b := 86) dX12_based_128 rfl (by decide) rfl (by decide) fa_X12_105_12 rfl rfl ?_
          refine s_iload_n (pc' := 132) dX12_based_131 rfl rfl ?_
          refine s_aload_n (pc' := 133) dX12_based_132 rfl rfl ?_
          refine s_getS (pc' := 136) (b := 86) dX12_based_133 rfl (by decide) rfl (by decide) fa_X12_105_12 rfl rfl ?_
          refine s_iload_n (pc' := 137) dX12_based_136 rfl rfl ?_
          refine t_zald (pc' := 138) (q := vj) dX12_based_137 rfl sh_86 hv (by have := C.1.2.1.nv; omega) ?_
          refine s_ifne (pc' := 141) (tgt := 170) dX12_based_138 (by decide) rfl (fun c138 => ?_) (fun c138 => ?_)
          · refine s_iconst (pc' := 171) (v := 1) dX12_based_170 rfl (by decide) ?_
            refine s_goto (tgt := 175) dX12_based_171 (by decide) ?_
            refine t_zast (pc' := 176) (q := vj) dX12_based_175 rfl sh_86 hv (by have := C.1.2.1.nv; omega) rfl ?_
            refine t_iinc (pc' := 179) (v := nI (k + 1)) (L' := [.ref 54, .int _, .int _, .int _]) dX12_based_176 rfl rfl (nI_inc k) rfl ?_
            refine s_goto (tgt := 72) dX12_based_179 (by decide) ?_
            simp (disch := decide) only [up2_d] at c138
            exact ih (k + 1) _ (by omega) (hP.st w86 (y := _) (by rw [hP.2.1] at c138; simp [b2, qrB, b2_1 c138]) (by first | rw [hwS, if_pos (by have := c102; exact (nI_eq (by omega) (by omega)).mp this)] | rw [hwS, if_neg (fun z => c102 (by rw [z]))]) (by first | rw [btS, if_pos (by have := c118; exact (nI_eq (by omega) (by omega)).mp this)] | rw [btS, if_neg (fun z => c118 (by rw [z]))]))
          · refine s_aload_n (pc' := 142) dX12_based_141 rfl rfl ?_
            refine s_getS (pc' := 145) (b := 62) dX12_based_142 rfl (by decide) rfl (by decide) fa_X12_31_12 rfl rfl ?_
            refine s_iload_n (pc' := 146) dX12_based_145 rfl rfl ?_
            refine t_iald (pc' := 147) dX12_based_146 rfl sh_62 rfl (by have := C.1.2.1.nr; omega) ?_
            refine s_aload_n (pc' := 148) dX12_based_147 rfl rfl ?_
            refine s_getS (pc' := 151) (b := 62) dX12_based_148 rfl (by decide) rfl (by decide) fa_X12_31_12 rfl rfl ?_
            refine s_iload_n (pc' := 152) dX12_based_151 rfl rfl ?_
            refine t_iald (pc' := 153) dX12_based_152 rfl sh_62 rfl (by have := C.1.2.1.nr; omega) ?_
            refine s_icmpne (pc' := 156) (tgt := 174) dX12_based_153 (by decide) rfl (fun c153 => ?_) (fun c153 => ?_)
            · refine s_iconst (pc' := 175) (v := 0) dX12_based_174 rfl (by decide) ?_
              refine t_zast (pc' := 176) (q := vj) dX12_based_175 rfl sh_86 hv (by have := C.1.2.1.nv; omega) rfl ?_
              refine t_iinc (pc' := 179) (v := nI (k + 1)) (L' := [.ref 54, .int _, .int _, .int _]) dX12_based_176 rfl rfl (nI_inc k) rfl ?_
              refine s_goto (tgt := 72) dX12_based_179 (by decide) ?_
              simp (disch := decide) only [up2_d] at c138
              simp (disch := decide) only [up2_d] at c153
              exact ih (k + 1) _ (by omega) (hP.st w86 (y := _) (by rw [hP.2.1] at c138; rw [C.1.1 62 (by decide) (by decide)] at c153; simp [b2, qrB, b2_0 c138, c153]) (by first | rw [hwS, if_pos (by have := c102; exact (nI_eq (by omega) (by omega)).mp this)] | rw [hwS, if_neg (fun z => c102 (by rw [z]))]) (by first | rw [btS, if_pos (by have := c118; exact (nI_eq (by omega) (by omega)).mp this)] | rw [btS, if_neg (fun z => c118 (by rw [z]))]))
            · refine s_aload_n (pc' := 157) dX12_based_156 rfl rfl ?_
              refine s_iload_n (pc' := 158) dX12_based_157 rfl rfl ?_
              refine s_callV (pc' := 161) (As := [.int _]) dX12_based_158 rfl mk_X12_amountOf ml_X12_241 im_X12_amountOf se_X12_X12_X12_amountOf sh_54 (by decide) rfl rfl rfl ⟨Nat.le_of_ble_eq_true rfl, Nat.le_of_ble_eq_true rfl, Nat.le_of_ble_eq_true rfl, Nat.le_of_ble_eq_true rfl⟩ (Nat.le_of_ble_eq_true rfl) (c_X12_amountOf (C.mv ((F3.rf.up (by decide)).up (by decide))).1 (r := _) (by omega) ?_)
              refine s_aload_n (pc' := 162) dX12_based_161 rfl rfl ?_
              refine s_iload_n (pc' := 163) dX12_based_162 rfl rfl ?_
              refine s_callV (pc' := 166) (As := [.int _]) dX12_based_163 rfl mk_X12_amountOf ml_X12_241 im_X12_amountOf se_X12_X12_X12_amountOf sh_54 (by decide) rfl rfl rfl ⟨Nat.le_of_ble_eq_true rfl, Nat.le_of_ble_eq_true rfl, Nat.le_of_ble_eq_true rfl, Nat.le_of_ble_eq_true rfl⟩ (Nat.le_of_ble_eq_true rfl) (c_X12_amountOf (C.mv ((F3.rf.up (by decide)).up (by decide))).1 (r := _) (by omega) ?_)
              refine s_lcmp (pc' := 167) dX12_based_166 rfl ?_
              refine s_ifeq (pc' := 170) (tgt := 174) dX12_based_167 (by decide) rfl (fun c167 => ?_) (fun c167 => ?_)
              · refine s_iconst (pc' := 175) (v := 0) dX12_based_174 rfl (by decide) ?_
                refine t_zast (pc' := 176) (q := vj) dX12_based_175 rfl sh_86 hv (by have := C.1.2.1.nv; omega) rfl ?_
                refine t_iinc (pc' := 179) (v := nI (k + 1)) (L' := [.ref 54, .int _, .int _, .int _]) dX12_based_176 rfl rfl (nI_inc k) rfl ?_
                refine s_goto (tgt := 72) dX12_based_179 (by decide) ?_
                simp (disch := decide) only [up2_d] at c138
                simp (disch := decide) only [up2_d] at c153
                exact ih (k + 1) _ (by omega) (hP.st w86 (y := _) (by rw [hP.2.1] at c138; have := (lg_cmp_eq _ _).mp c167; simp [b2, qrB, b2_0 c138, this]) (by first | rw [hwS, if_pos (by have := c102; exact (nI_eq (by omega) (by omega)).mp this)] | rw [hwS, if_neg (fun z => c102 (by rw [z]))]) (by first | rw [btS, if_pos (by have := c118; exact (nI_eq (by omega) (by omega)).mp this)] | rw [btS, if_neg (fun z => c118 (by rw [z]))]))
              · refine s_iconst (pc' := 171) (v := 1) dX12_based_170 rfl (by decide) ?_
                refine s_goto (tgt := 175) dX12_based_171 (by decide) ?_
                refine t_zast (pc' := 176) (q := vj) dX12_based_175 rfl sh_86 hv (by have := C.1.2.1.nv; omega) rfl ?_
                refine t_iinc (pc' := 179) (v := nI (k + 1)) (L' := [.ref 54, .int _, .int _, .int _]) dX12_based_176 rfl rfl (nI_inc k) rfl ?_
                refine s_goto (tgt := 72) dX12_based_179 (by decide) ?_
                simp (disch := decide) only [up2_d] at c138
                simp (disch := decide) only [up2_d] at c153
                exact ih (k + 1) _ (by omega) (hP.st w86 (y := _) (by rw [hP.2.1] at c138; rw [C.1.1 62 (by decide) (by decide)] at c153; have : amt D (gM J b) k ≠ amt D (gM J b) q := fun z => c167 ((lg_cmp_eq _ _).mpr z); simp [b2, qrB, w86, c153, this]) (by first | rw [hwS, if_pos (by have := c102; exact (nI_eq (by omega) (by omega)).mp this)] | rw [hwS, if_neg (fun z => c102 (by rw [z]))]) (by first | rw [btS, if_pos (by have := c118; exact (nI_eq (by omega) (by omega)).mp this)] | rw [btS, if_neg (fun z => c118 (by rw [z]))]))
    · refine s_ifneF (pc' := 92) (tgt := 95) dX12_based_89 (by decide) rfl (by decide) ?_
      refine s_goto (tgt := 176) dX12_based_92 (by decide) ?_
      refine t_iinc (pc' := 179) (v := nI (k + 1)) (L' := [.ref 54, .int _, .int _, .int _]) dX12_based_176 rfl rfl (nI_inc k) rfl ?_
      refine s_goto (tgt := 72) dX12_based_179 (by decide) ?_
      exact ih (k + 1) I' (by omega) (hP.sk w86)
