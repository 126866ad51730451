theorem l_X1_mended {N : Nat} {S : Nat → Nat × Nat} {I : Nat → Nat → Int32} {J : Nat → Nat → Int64} {Q : Nat → Nat → Option Nat} {κ : Option Value → HP → Prop} {D : Nat → Nat → Int32} {nv nr ns : Nat} {ad td : Nat → Nat} {e : Nat} (X : XB N S I J Q D nv nr ns ad td e) {a : Nat} (hk0 : ∀ m, MdP D nv nr ns a m → ∀ I' J' Q', WW I I' J J' Q Q' → XB N S I' J' Q' D nv nr ns ad td e → κ (some (.int (nI m))) (N, S, I', J', Q')) : ∀ (k : Nat) I' J' Q' m, k < 256 → WW I I' J J' Q Q' → XB N S I' J' Q' D nv nr ns ad td e → MI D nv nr ns a k m → SP E1 M_X1_mended κ 6 [.ref 23, .int (nI a), .int (nI m), .int (nI k), .retAddr 0] [] (N, S, I', J', Q') 0 0 := by
  intro k
  induction k with
  | zero =>
    intro I' J' Q' m _ w X2 hP
    refine s_iload_n (pc' := 7) dX1_mended_6 rfl rfl ?_
    refine s_ifleT (tgt := 57) dX1_mended_7 (by decide) (by decide) ?_
    refine s_iload_n (pc' := 58) dX1_mended_57 rfl rfl ?_
    exact s_iret dX1_mended_58 rfl (by decide) (by decide) (hk0 m hP.fin I' J' Q' w X2)
  | succ k ih =>
    intro I' J' Q' m hk w X2 hP
    have hm := hP.1
    refine s_iload_n (pc' := 7) dX1_mended_6 rfl rfl ?_
    refine s_ifleF (pc' := 10) (tgt := 57) dX1_mended_7 (by decide) rfl (nI_nle (by omega) (by omega)) ?_
    refine s_iload_n (pc' := 11) dX1_mended_10 rfl rfl ?_
    refine s_iload_n (pc' := 12) dX1_mended_11 rfl rfl ?_
    refine s_iconst (pc' := 13) (v := -1) dX1_mended_12 rfl (by decide) ?_
    refine s_ixor (pc' := 14) dX1_mended_13 rfl ?_
    refine s_iand (pc' := 15) dX1_mended_14 rfl ?_
    refine s_ifne (pc' := 18) (tgt := 22) dX1_mended_15 (by decide) rfl (fun c15 => ?_) (fun c15 => ?_)
    · refine s_iconst (pc' := 23) (v := 0) dX1_mended_22 rfl (by decide) ?_
      refine t_istore (pc' := 25) (L' := [.ref 23, .int _, .int _, .int _, .int _]) dX1_mended_23 rfl (Nat.le_of_ble_eq_true rfl) rfl ?_
      refine s_iload (pc' := 27) dX1_mended_25 rfl rfl ?_
      refine s_ifeqT (tgt := 51) dX1_mended_27 (by decide) (by decide) ?_
      refine t_iinc (pc' := 54) (v := nI k) (L' := [.ref 23, .int _, .int _, .int _, .int _]) dX1_mended_51 rfl rfl (nI_dec k) rfl ?_
      refine s_goto (tgt := 6) dX1_mended_54 (by decide) ?_
      refine s_fg [4] rfl (ih I' J' Q' m (by omega) w X2 (hP.no (fun z _ => absurd z c15) hk))
    · refine s_iconst (pc' := 19) (v := 1) dX1_mended_18 rfl (by decide) ?_
      refine s_goto (tgt := 23) dX1_mended_19 (by decide) ?_
      refine t_istore (pc' := 25) (L' := [.ref 23, .int _, .int _, .int _, .int _]) dX1_mended_23 rfl (Nat.le_of_ble_eq_true rfl) rfl ?_
      refine s_iload (pc' := 27) dX1_mended_25 rfl rfl ?_
      refine s_ifeqF (pc' := 30) (tgt := 51) dX1_mended_27 (by decide) rfl (by decide) ?_
      refine s_iload_n (pc' := 31) dX1_mended_30 rfl rfl ?_
      refine s_callS (pc' := 34) (As := [.int _]) dX1_mended_31 rfl mk_J6_bitCount_0f7a4 ml_X1_83 sm_J6_bitCount_0f7a4 rfl rfl ⟨Nat.le_of_ble_eq_true rfl, Nat.le_of_ble_eq_true rfl, Nat.le_of_ble_eq_true rfl, Nat.le_of_ble_eq_true rfl⟩ (Nat.le_of_ble_eq_true rfl) (c_J6_bitCount_0f7a4 (m := _) (by omega) ?_)
      refine s_iload_n (pc' := 35) dX1_mended_34 rfl rfl ?_
      refine s_callS (pc' := 38) (As := [.int _]) dX1_mended_35 rfl mk_J6_bitCount_0f7a4 ml_X1_83 sm_J6_bitCount_0f7a4 rfl rfl ⟨Nat.le_of_ble_eq_true rfl, Nat.le_of_ble_eq_true rfl, Nat.le_of_ble_eq_true rfl, Nat.le_of_ble_eq_true rfl⟩ (Nat.le_of_ble_eq_true rfl) (c_J6_bitCount_0f7a4 (m := _) (by omega) ?_)
      refine s_icmple (pc' := 41) (tgt := 51) dX1_mended_38 (by decide) rfl (fun c38 => ?_) (fun c38 => ?_)
      · refine t_iinc (pc' := 54) (v := nI k) (L' := [.ref 23, .int _, .int _, .int _, .int _]) dX1_mended_51 rfl rfl (nI_dec k) rfl ?_
        refine s_goto (tgt := 6) dX1_mended_54 (by decide) ?_
        have hp1 : pcn (nI (k + 1)) ≤ 10 := cntB_le _ _
        have hp2 : pcn (nI m) ≤ 10 := cntB_le _ _
        refine s_fg [4] rfl (ih I' J' Q' m (by omega) w X2 (hP.no (fun _ _ => (nI_leI (by omega) (by omega)).mp c38) hk))
      · refine s_aload_n (pc' := 42) dX1_mended_41 rfl rfl ?_
        refine s_iload_n (pc' := 43) dX1_mended_42 rfl rfl ?_
        refine s_callV (pc' := 46) (As := [.int _]) dX1_mended_43 rfl mk_X1_isLawful ml_X1_79 im_X1_isLawful se_X1_X1_X1_isLawful sh_23 (by decide) rfl rfl rfl ⟨Nat.le_of_ble_eq_true rfl, Nat.le_of_ble_eq_true rfl, Nat.le_of_ble_eq_true rfl, Nat.le_of_ble_eq_true rfl⟩ (Nat.le_of_ble_eq_true rfl) (c_X1_isLawful X2 (b := k + 1) hk (fun l43 I1 J1 Q1 w1 X1 => ?_) (fun l43 I1 J1 Q1 w1 X1 => ?_))
        · refine s_ifeqF (pc' := 49) (tgt := 51) dX1_mended_46 (by decide) rfl (by decide) ?_
          refine s_iload_n (pc' := 50) dX1_mended_49 rfl rfl ?_
          refine t_istore_n (pc' := 51) (L' := [.ref 23, .int _, .int _, .int _, .int _]) dX1_mended_50 rfl (Nat.le_of_ble_eq_true rfl) rfl ?_
          refine t_iinc (pc' := 54) (v := nI k) (L' := [.ref 23, .int _, .int _, .int _, .int _]) dX1_mended_51 rfl rfl (nI_dec k) rfl ?_
          refine s_goto (tgt := 6) dX1_mended_54 (by decide) ?_
          have wk1 : wn a (k + 1) := by simpa [wn] using c15
          have hp1 : pcn (nI (k + 1)) ≤ 10 := cntB_le _ _
          have hp2 : pcn (nI m) ≤ 10 := cntB_le _ _
          refine s_fg [4] rfl (ih I1 J1 Q1 (k + 1) (by omega) (w.tr w1) X1 (hP.yes hk wk1 l43 (Nat.not_le.mp (fun z => c38 ((nI_leI (by omega) (by omega)).mpr z)))))
        · refine s_ifeqT (tgt := 51) dX1_mended_46 (by decide) (by decide) ?_
          refine t_iinc (pc' := 54) (v := nI k) (L' := [.ref 23, .int _, .int _, .int _, .int _]) dX1_mended_51 rfl rfl (nI_dec k) rfl ?_
          refine s_goto (tgt := 6) dX1_mended_54 (by decide) ?_
          refine s_fg [4] rfl (ih I1 J1 Q1 m (by omega) (w.tr w1) X1 (hP.no (fun _ z => by rw [l43] at z; cases z) hk))
theorem c_X1_mended {N : Nat} {S : Nat → Nat × Nat} {I : Nat → Nat → Int32} {J : Nat → Nat → Int64} {Q : Nat → Nat → Option Nat} {κ : Option Value → HP → Prop} {D : Nat → Nat → Int32} {nv nr ns : Nat} {ad td : Nat → Nat} {e : Nat} (X : XB N S I J Q D nv nr ns ad td e) {a : Nat} (hk : ∀ m, MdP D nv nr ns a m → ∀ I' J' Q', WW I I' J J' Q Q' → XB N S I' J' Q' D nv nr ns ad td e → κ (some (.int (nI m))) (N, S, I', J', Q')) : CT E1 M_X1_mended [.ref 23, .int (nI a)] (N, S, I, J, Q) κ := by
  refine ofSP mk_X1_mended (Nat.le_of_ble_eq_true rfl) (L := [.ref 23, .int _, .retAddr _, .retAddr _, .retAddr _]) rfl ?_
  refine s_iconst (pc' := 1) (v := 0) dX1_mended_0 rfl (by decide) ?_
  refine t_istore_n (pc' := 2) (L' := [.ref 23, .int _, .int _, .retAddr _, .retAddr _]) dX1_mended_1 rfl (Nat.le_of_ble_eq_true rfl) rfl ?_
  refine s_sipush (pc' := 5) (v := 255) dX1_mended_2 rfl (by decide) ?_
  refine t_istore_n (pc' := 6) (L' := [.ref 23, .int _, .int _, .int _, .retAddr _]) dX1_mended_5 rfl (Nat.le_of_ble_eq_true rfl) rfl ?_
  exact l_X1_mended X hk 255 I J Q 0 (by decide) WW.rf X ⟨by decide, wn_0, LW_0, Or.inl rfl, fun b h1 h2 => by omega⟩
theorem l_X1_joinFront1 {N : Nat} {S : Nat → Nat × Nat} {I : Nat → Nat → Int32} {J : Nat → Nat → Int64} {Q : Nat → Nat → Option Nat} {κ : Option Value → HP → Prop} {D : Nat → Nat → Int32} {nv nr ns v w k : Nat} (hk2 : k < 256) (F : FRT I J D nv nr ns v w k) (k1 : ∀ b0, b0 < k → gd D nv nr ns v w k b0 = true → (gS D nv nr ns k v) ≤ gS D nv nr ns b0 v → (gS D nv nr ns k w) ≤ gS D nv nr ns b0 w → κ none (N, S, I, J, Q)) (k2 : (∀ b, b < k → gd D nv nr ns v w k b = true → ¬ ((gS D nv nr ns k v) ≤ gS D nv nr ns b v ∧ (gS D nv nr ns k w) ≤ gS D nv nr ns b w)) → SP E1 M_X1_joinFront κ 43 [.ref 23, .long (gS D nv nr ns k v), .retAddr 0, .long (gS D nv nr ns k w), .retAddr 0, .retAddr 0, .retAddr 0] [] (N, S, I, J, Q) 0 0) : ∀ d : Nat, ∀ j, j ≤ k → cntB (gd D nv nr ns v w k) j + d = cntB (gd D nv nr ns v w k) k → (∀ b, b < j → gd D nv nr ns v w k b = true → ¬ ((gS D nv nr ns k v) ≤ gS D nv nr ns b v ∧ (gS D nv nr ns k w) ≤ gS D nv nr ns b w)) → SP E1 M_X1_joinFront κ 3 [.ref 23, .long (gS D nv nr ns k v), .retAddr 0, .long (gS D nv nr ns k w), .retAddr 0, .int (nI (cntB (gd D nv nr ns v w k) j)), .retAddr 0] [] (N, S, I, J, Q) 0 0 := by
  intro d
  induction d with
  | zero =>
    intro j hj hd hn
    have hn2 : ∀ b, b < k → gd D nv nr ns v w k b = true → ¬ ((gS D nv nr ns k v) ≤ gS D nv nr ns b v ∧ (gS D nv nr ns k w) ≤ gS D nv nr ns b w) := fun b hb hg => by
      rcases Nat.lt_or_ge b j with z | z
      · exact hn b z hg
      · rw [cnt_end (P := gd D nv nr ns v w k) (n := k) (k - j) j (by omega) (by omega) b z hb] at hg; cases hg
    refine s_iload (pc' := 5) dX1_joinFront_3 rfl rfl ?_
    refine s_aload_n (pc' := 6) dX1_joinFront_5 rfl rfl ?_
    refine t_getI (pc' := 9) dX1_joinFront_6 rfl sh_23 (by decide) fa_X1_39_1 rfl ?_
    refine s_icmpgeT (tgt := 43) dX1_joinFront_9 (by decide) (by rw [F.1]; exact nI_le (by omega) (by have := cntB_le (gd D nv nr ns v w k) k; omega)) ?_
    exact s_fg [5] rfl (k2 hn2)
  | succ d ih =>
    intro j hj hd hn
    obtain ⟨r, hr1, hr, hpr, hrc, hsk⟩ := cnt_next (P := (gd D nv nr ns v w k)) (n := k) (k - j) j (by omega) (by omega)
    have hc1 := cnt_s1 hpr
    have hcl := cntB_le (gd D nv nr ns v w k) r
    rw [show cntB (gd D nv nr ns v w k) j = cntB (gd D nv nr ns v w k) r from hrc.symm]
    refine s_iload (pc' := 5) dX1_joinFront_3 rfl rfl ?_
    refine s_aload_n (pc' := 6) dX1_joinFront_5 rfl rfl ?_
    refine t_getI (pc' := 9) dX1_joinFront_6 rfl sh_23 (by decide) fa_X1_39_1 rfl ?_
    refine s_icmpgeF (pc' := 12) (tgt := 43) dX1_joinFront_9 (by decide) rfl (by rw [F.1]; exact nI_ge (by have := cnt_mono (P := (gd D nv nr ns v w k)) (show r + 1 ≤ k by omega); omega) (by have := cntB_le (gd D nv nr ns v w k) k; omega)) ?_
    refine s_aload_n (pc' := 13) dX1_joinFront_12 rfl rfl ?_
    refine s_getS (pc' := 16) (b := 39) dX1_joinFront_13 rfl (by decide) rfl (by decide) fa_X1_33_1 rfl rfl ?_
    refine s_iload (pc' := 18) dX1_joinFront_16 rfl rfl ?_
    refine t_lald (pc' := 19) dX1_joinFront_18 rfl sh_39 rfl (by omega) ?_
    refine s_lload_n (pc' := 20) dX1_joinFront_19 rfl rfl ?_
    refine s_lcmp (pc' := 21) dX1_joinFront_20 rfl ?_
    refine s_iflt (pc' := 24) (tgt := 37) dX1_joinFront_21 (by decide) rfl (fun c21 => ?_) (fun c21 => ?_)
    · refine t_iinc (pc' := 40) (v := nI (cntB (gd D nv nr ns v w k) r + 1)) (L' := [.ref 23, .long _, .retAddr _, .long _, .retAddr _, .int _, .retAddr _]) dX1_joinFront_37 rfl rfl (nI_inc _) rfl ?_
      refine s_goto (tgt := 3) dX1_joinFront_40 (by decide) ?_
      rw [lg_cmp_lt, (F.2.1 r hr hpr).1] at c21
      refine s_eq ?_ rfl rfl (ih (r + 1) (by omega) (by rw [hc1]; omega) (fun b hb hg => by
        by_cases eb : b = r
        · subst eb; exact fun y => Int64.not_lt.mpr y.1 c21
        · rcases Nat.lt_or_ge b j with z | z
          · exact hn b z hg
          · rw [hsk b z (by omega)] at hg; cases hg))
      rw [hc1]
    · refine s_aload_n (pc' := 25) dX1_joinFront_24 rfl rfl ?_
      refine s_getS (pc' := 28) (b := 40) dX1_joinFront_25 rfl (by decide) rfl (by decide) fa_X1_36_1 rfl rfl ?_
      refine s_iload (pc' := 30) dX1_joinFront_28 rfl rfl ?_
      refine t_lald (pc' := 31) dX1_joinFront_30 rfl sh_40 rfl (by omega) ?_
      refine s_lload_n (pc' := 32) dX1_joinFront_31 rfl rfl ?_
      refine s_lcmp (pc' := 33) dX1_joinFront_32 rfl ?_
      refine s_iflt (pc' := 36) (tgt := 37) dX1_joinFront_33 (by decide) rfl (fun c33 => ?_) (fun c33 => ?_)
      · refine t_iinc (pc' := 40) (v := nI (cntB (gd D nv nr ns v w k) r + 1)) (L' := [.ref 23, .long _, .retAddr _, .long _, .retAddr _, .int _, .retAddr _]) dX1_joinFront_37 rfl rfl (nI_inc _) rfl ?_
        refine s_goto (tgt := 3) dX1_joinFront_40 (by decide) ?_
        rw [lg_cmp_lt, (F.2.1 r hr hpr).1] at c21
        rw [lg_cmp_lt, (F.2.1 r hr hpr).2] at c33
        refine s_eq ?_ rfl rfl (ih (r + 1) (by omega) (by rw [hc1]; omega) (fun b hb hg => by
          by_cases eb : b = r
          · subst eb; exact fun y => Int64.not_lt.mpr y.2 c33
          · rcases Nat.lt_or_ge b j with z | z
            · exact hn b z hg
            · rw [hsk b z (by omega)] at hg; cases hg))
        rw [hc1]
      · exact s_vret dX1_joinFront_36 rfl (by decide) (by decide) (k1 r hr hpr (by rw [lg_cmp_lt, (F.2.1 r hr hpr).1] at c21; exact Int64.not_lt.mp c21) (by rw [lg_cmp_lt, (F.2.1 r hr hpr).2] at c33; exact Int64.not_lt.mp c33))
theorem l_X1_joinFront2 {N : Nat} {S : Nat → Nat × Nat} {I : Nat → Nat → Int32} {J : Nat → Nat → Int64} {Q : Nat → Nat → Option Nat} {κ : Option Value → HP → Prop} {D : Nat → Nat → Int32} {nv nr ns v w k : Nat} (hk2 : k < 256) (F : FRT I J D nv nr ns v w k) (hk : ∀ J', JF2 J J' D nv nr ns v w k k → SP E1 M_X1_joinFront κ 119 [.ref 23, .long (gS D nv nr ns k v), .retAddr 0, .long (gS D nv nr ns k w), .retAddr 0, .int (nI (cntB (stB D nv nr ns v w k) k)), .retAddr 0] [] (N, S, I, J', Q) 0 0) : ∀ d : Nat, ∀ j J', j ≤ k → cntB (gd D nv nr ns v w k) j + d = cntB (gd D nv nr ns v w k) k → JF2 J J' D nv nr ns v w k j → SP E1 M_X1_joinFront κ 49 [.ref 23, .long (gS D nv nr ns k v), .retAddr 0, .long (gS D nv nr ns k w), .retAddr 0, .int (nI (cntB (stB D nv nr ns v w k) j)), .int (nI (cntB (gd D nv nr ns v w k) j))] [] (N, S, I, J', Q) 0 0 := by
  intro d
  induction d with
  | zero =>
    intro j J' hj hd hP
    rw [show cntB (stB D nv nr ns v w k) j = cntB (stB D nv nr ns v w k) k from (cnt_skip hj (fun i a b => by
      cases hs : stB D nv nr ns v w k i with
      | false => rfl
      | true => have := cnt_end (P := gd D nv nr ns v w k) (n := k) (k - j) j (by omega) (by omega) i a b; rw [st_gd hs] at this; cases this)).symm]
    replace hP := hP.skip hj (cnt_end (P := gd D nv nr ns v w k) (n := k) (k - j) j (by omega) (by omega))
    refine s_iload (pc' := 51) dX1_joinFront_49 rfl rfl ?_
    refine s_aload_n (pc' := 52) dX1_joinFront_51 rfl rfl ?_
    refine t_getI (pc' := 55) dX1_joinFront_52 rfl sh_23 (by decide) fa_X1_39_1 rfl ?_
    refine s_icmpgeT (tgt := 119) dX1_joinFront_55 (by decide) (by rw [F.1]; exact nI_le (by omega) (by have := cntB_le (gd D nv nr ns v w k) k; omega)) ?_
    exact s_fg [6] rfl (hk J' hP)
  | succ d ih =>
    intro j J' hj hd hP
    obtain ⟨r, hr1, hr, hpr, hrc, hsk⟩ := cnt_next (P := (gd D nv nr ns v w k)) (n := k) (k - j) j (by omega) (by omega)
    have hc1 := cnt_s1 hpr
    have hcl := cntB_le (gd D nv nr ns v w k) r
    rw [show cntB (gd D nv nr ns v w k) j = cntB (gd D nv nr ns v w k) r from hrc.symm]
    rw [show cntB (stB D nv nr ns v w k) j = cntB (stB D nv nr ns v w k) r from (cnt_skip hr1 (fun i a b => by
      cases hs : stB D nv nr ns v w k i with
      | false => rfl
      | true => have := hsk i a b; rw [st_gd hs] at this; cases this)).symm]
    replace hP := hP.skip hr1 hsk
    refine s_iload (pc' := 51) dX1_joinFront_49 rfl rfl ?_
    refine s_aload_n (pc' := 52) dX1_joinFront_51 rfl rfl ?_
    refine t_getI (pc' := 55) dX1_joinFront_52 rfl sh_23 (by decide) fa_X1_39_1 rfl ?_
    refine s_icmpgeF (pc' := 58) (tgt := 119) dX1_joinFront_55 (by decide) rfl (by rw [F.1]; exact nI_ge (by have := cnt_mono (P := (gd D nv nr ns v w k)) (show r + 1 ≤ k by omega); omega) (by have := cntB_le (gd D nv nr ns v w k) k; omega)) ?_
    refine s_aload_n (pc' := 59) dX1_joinFront_58 rfl rfl ?_
    refine s_getS (pc' := 62) (b := 39) dX1_joinFront_59 rfl (by decide) rfl (by decide) fa_X1_33_1 rfl rfl ?_
    refine s_iload (pc' := 64) dX1_joinFront_62 rfl rfl ?_
    refine t_lald (pc' := 65) dX1_joinFront_64 rfl sh_39 rfl (by omega) ?_
    refine s_lload_n (pc' := 66) dX1_joinFront_65 rfl rfl ?_
    refine s_lcmp (pc' := 67) dX1_joinFront_66 rfl ?_
    refine s_ifgt (pc' := 70) (tgt := 82) dX1_joinFront_67 (by decide) rfl (fun c67 => ?_) (fun c67 => ?_)
    · refine s_aload_n (pc' := 83) dX1_joinFront_82 rfl rfl ?_
      refine s_getS (pc' := 86) (b := 39) dX1_joinFront_83 rfl (by decide) rfl (by decide) fa_X1_33_1 rfl rfl ?_
      refine s_iload (pc' := 88) dX1_joinFront_86 rfl rfl ?_
      refine s_aload_n (pc' := 89) dX1_joinFront_88 rfl rfl ?_
      refine s_getS (pc' := 92) (b := 39) dX1_joinFront_89 rfl (by decide) rfl (by decide) fa_X1_33_1 rfl rfl ?_
      refine s_iload (pc' := 94) dX1_joinFront_92 rfl rfl ?_
      refine t_lald (pc' := 95) dX1_joinFront_94 rfl sh_39 rfl (by omega) ?_
      refine t_last (pc' := 96) dX1_joinFront_95 rfl sh_39 rfl (by have := st_le (D := D) (nv := nv) (nr := nr) (ns := ns) (v := v) (w := w) (k := k) r; omega) ?_
      refine s_aload_n (pc' := 97) dX1_joinFront_96 rfl rfl ?_
      refine s_getS (pc' := 100) (b := 40) dX1_joinFront_97 rfl (by decide) rfl (by decide) fa_X1_36_1 rfl rfl ?_
      refine s_iload (pc' := 102) dX1_joinFront_100 rfl rfl ?_
      refine s_aload_n (pc' := 103) dX1_joinFront_102 rfl rfl ?_
      refine s_getS (pc' := 106) (b := 40) dX1_joinFront_103 rfl (by decide) rfl (by decide) fa_X1_36_1 rfl rfl ?_
      refine s_iload (pc' := 108) dX1_joinFront_106 rfl rfl ?_
      refine t_lald (pc' := 109) dX1_joinFront_108 rfl sh_40 rfl (by omega) ?_
      refine t_last (pc' := 110) dX1_joinFront_109 rfl sh_40 rfl (by have := st_le (D := D) (nv := nv) (nr := nr) (ns := ns) (v := v) (w := w) (k := k) r; omega) ?_
      refine t_iinc (pc' := 113) (v := nI (cntB (stB D nv nr ns v w k) r + 1)) (L' := [.ref 23, .long _, .retAddr _, .long _, .retAddr _, .int _, .int _]) dX1_joinFront_110 rfl rfl (nI_inc _) rfl ?_
      refine t_iinc (pc' := 116) (v := nI (cntB (gd D nv nr ns v w k) r + 1)) (L' := [.ref 23, .long _, .retAddr _, .long _, .retAddr _, .int _, .int _]) dX1_joinFront_113 rfl rfl (nI_inc _) rfl ?_
      refine s_goto (tgt := 49) dX1_joinFront_116 (by decide) ?_
      obtain ⟨o1, o2⟩ := hP.2.2 r (Nat.le_refl r) hr hpr
      rw [lg_cmp_gt, o1] at c67
      have hs : stB D nv nr ns v w k r = true := by unfold stB; rw [hpr, Bool.true_and]; exact decide_eq_true (Or.inl c67)
      refine s_eq ?_ rfl ?_ (ih (r + 1) _ (by omega) (by rw [hc1]; omega) (hP.yes hr hs))
      · rw [hc1, cnt_s1 hs]
      · rw [o1, up2_d (show (40 : Nat) ≠ 39 by decide), o2]
    · refine s_aload_n (pc' := 71) dX1_joinFront_70 rfl rfl ?_
      refine s_getS (pc' := 74) (b := 40) dX1_joinFront_71 rfl (by decide) rfl (by decide) fa_X1_36_1 rfl rfl ?_
      refine s_iload (pc' := 76) dX1_joinFront_74 rfl rfl ?_
      refine t_lald (pc' := 77) dX1_joinFront_76 rfl sh_40 rfl (by omega) ?_
      refine s_lload_n (pc' := 78) dX1_joinFront_77 rfl rfl ?_
      refine s_lcmp (pc' := 79) dX1_joinFront_78 rfl ?_
      refine s_ifle (pc' := 82) (tgt := 113) dX1_joinFront_79 (by decide) rfl (fun c79 => ?_) (fun c79 => ?_)
      · refine t_iinc (pc' := 116) (v := nI (cntB (gd D nv nr ns v w k) r + 1)) (L' := [.ref 23, .long _, .retAddr _, .long _, .retAddr _, .int _, .int _]) dX1_joinFront_113 rfl rfl (nI_inc _) rfl ?_
        refine s_goto (tgt := 49) dX1_joinFront_116 (by decide) ?_
        obtain ⟨o1, o2⟩ := hP.2.2 r (Nat.le_refl r) hr hpr
        rw [lg_cmp_gt, o1] at c67
        rw [lg_cmp_le, o2] at c79
        have hs : stB D nv nr ns v w k r = false := by unfold stB; rw [hpr, Bool.true_and]; exact decide_eq_false (by rintro (z | z); exact c67 z; exact Int64.not_lt.mpr c79 z)
        refine s_eq ?_ rfl rfl (ih (r + 1) _ (by omega) (by rw [hc1]; omega) (hP.no hs))
        rw [hc1, cnt_s0 hs]
      · refine s_aload_n (pc' := 83) dX1_joinFront_82 rfl rfl ?_
        refine s_getS (pc' := 86) (b := 39) dX1_joinFront_83 rfl (by decide) rfl (by decide) fa_X1_33_1 rfl rfl ?_
        refine s_iload (pc' := 88) dX1_joinFront_86 rfl rfl ?_
        refine s_aload_n (pc' := 89) dX1_joinFront_88 rfl rfl ?_
        refine s_getS (pc' := 92) (b := 39) dX1_joinFront_89 rfl (by decide) rfl (by decide) fa_X1_33_1 rfl rfl ?_
        refine s_iload (pc' := 94) dX1_joinFront_92 rfl rfl ?_
        refine t_lald (pc' := 95) dX1_joinFront_94 rfl sh_39 rfl (by omega) ?_
        refine t_last (pc' := 96) dX1_joinFront_95 rfl sh_39 rfl (by have := st_le (D := D) (nv := nv) (nr := nr) (ns := ns) (v := v) (w := w) (k := k) r; omega) ?_
        refine s_aload_n (pc' := 97) dX1_joinFront_96 rfl rfl ?_
        refine s_getS (pc' := 100) (b := 40) dX1_joinFront_97 rfl (by decide) rfl (by decide) fa_X1_36_1 rfl rfl ?_
        refine s_iload (pc' := 102) dX1_joinFront_100 rfl rfl ?_
        refine s_aload_n (pc' := 103) dX1_joinFront_102 rfl rfl ?_
        refine s_getS (pc' := 106) (b := 40) dX1_joinFront_103 rfl (by decide) rfl (by decide) fa_X1_36_1 rfl rfl ?_
        refine s_iload (pc' := 108) dX1_joinFront_106 rfl rfl ?_
        refine t_lald (pc' := 109) dX1_joinFront_108 rfl sh_40 rfl (by omega) ?_
        refine t_last (pc' := 110) dX1_joinFront_109 rfl sh_40 rfl (by have := st_le (D := D) (nv := nv) (nr := nr) (ns := ns) (v := v) (w := w) (k := k) r; omega) ?_
        refine t_iinc (pc' := 113) (v := nI (cntB (stB D nv nr ns v w k) r + 1)) (L' := [.ref 23, .long _, .retAddr _, .long _, .retAddr _, .int _, .int _]) dX1_joinFront_110 rfl rfl (nI_inc _) rfl ?_
        refine t_iinc (pc' := 116) (v := nI (cntB (gd D nv nr ns v w k) r + 1)) (L' := [.ref 23, .long _, .retAddr _, .long _, .retAddr _, .int _, .int _]) dX1_joinFront_113 rfl rfl (nI_inc _) rfl ?_
        refine s_goto (tgt := 49) dX1_joinFront_116 (by decide) ?_
        obtain ⟨o1, o2⟩ := hP.2.2 r (Nat.le_refl r) hr hpr
        rw [lg_cmp_le, o2] at c79
        have hs : stB D nv nr ns v w k r = true := by unfold stB; rw [hpr, Bool.true_and]; exact decide_eq_true (Or.inr (Int64.not_le.mp c79))
        refine s_eq ?_ rfl ?_ (ih (r + 1) _ (by omega) (by rw [hc1]; omega) (hP.yes hr hs))
        · rw [hc1, cnt_s1 hs]
        · rw [o1, up2_d (show (40 : Nat) ≠ 39 by decide), o2]
theorem c_X1_joinFront {N : Nat} {S : Nat → Nat × Nat} {I : Nat → Nat → Int32} {J : Nat → Nat → Int64} {Q : Nat → Nat → Option Nat} {κ : Option Value → HP → Prop} {D : Nat → Nat → Int32} {nv nr ns v w k : Nat} (hk2 : k < 256) (F : FRT I J D nv nr ns v w k) (hl : LW D nv nr ns k = true) (hk : ∀ I' J', FRT I' J' D nv nr ns v w (k + 1) → (∀ a, a ≠ 23 → I' a = I a) → (∀ j, j ≠ 8 → I' 23 j = I 23 j) → (∀ a, a ≠ 39 → a ≠ 40 → J' a = J a) → κ none (N, S, I', J', Q)) : CT E1 M_X1_joinFront [.ref 23, .long (gS D nv nr ns k v), .long (gS D nv nr ns k w)] (N, S, I, J, Q) κ := by
  refine ofSP mk_X1_joinFront (Nat.le_of_ble_eq_true rfl) (L := [.ref 23, .long _, .retAddr _, .long _, .retAddr _, .retAddr _, .retAddr _]) rfl ?_
  refine s_iconst (pc' := 1) (v := 0) dX1_joinFront_0 rfl (by decide) ?_
  refine t_istore (pc' := 3) (L' := [.ref 23, .long _, .retAddr _, .long _, .retAddr _, .int _, .retAddr _]) dX1_joinFront_1 rfl (Nat.le_of_ble_eq_true rfl) rfl ?_
  refine l_X1_joinFront1 hk2 F (fun b0 h1 h2 h3 h4 => hk I J (F.dom h1 h2 h3 h4) (fun _ _ => rfl) (fun _ _ => rfl) (fun _ _ _ => rfl)) (fun hn2 => ?_) (cntB (gd D nv nr ns v w k) k) 0 (Nat.zero_le _) (by simp [cntB]) (fun b hb => by omega)
  refine s_iconst (pc' := 44) (v := 0) dX1_joinFront_43 rfl (by decide) ?_
  refine t_istore (pc' := 46) (L' := [.ref 23, .long _, .retAddr _, .long _, .retAddr _, .int _, .retAddr _]) dX1_joinFront_44 rfl (Nat.le_of_ble_eq_true rfl) rfl ?_
  refine s_iconst (pc' := 47) (v := 0) dX1_joinFront_46 rfl (by decide) ?_
  refine t_istore (pc' := 49) (L' := [.ref 23, .long _, .retAddr _, .long _, .retAddr _, .int _, .int _]) dX1_joinFront_47 rfl (Nat.le_of_ble_eq_true rfl) rfl ?_
  refine l_X1_joinFront2 hk2 F (fun J' hj2 => ?_) (cntB (gd D nv nr ns v w k) k) 0 J (Nat.zero_le _) (by simp [cntB]) ⟨fun _ _ _ => rfl, fun b hb => by omega, fun b _ hb hg => F.2.1 b hb hg⟩
  refine s_aload_n (pc' := 120) dX1_joinFront_119 rfl rfl ?_
  refine s_getS (pc' := 123) (b := 39) dX1_joinFront_120 rfl (by decide) rfl (by decide) fa_X1_33_1 rfl rfl ?_
  refine s_iload (pc' := 125) dX1_joinFront_123 rfl rfl ?_
  refine s_lload_n (pc' := 126) dX1_joinFront_125 rfl rfl ?_
  refine t_last (pc' := 127) dX1_joinFront_126 rfl sh_39 rfl (by have := cntB_le (stB D nv nr ns v w k) k; omega) ?_
  refine s_aload_n (pc' := 128) dX1_joinFront_127 rfl rfl ?_
  refine s_getS (pc' := 131) (b := 40) dX1_joinFront_128 rfl (by decide) rfl (by decide) fa_X1_36_1 rfl rfl ?_
  refine s_iload (pc' := 133) dX1_joinFront_131 rfl rfl ?_
  refine s_lload_n (pc' := 134) dX1_joinFront_133 rfl rfl ?_
  refine t_last (pc' := 135) dX1_joinFront_134 rfl sh_40 rfl (by have := cntB_le (stB D nv nr ns v w k) k; omega) ?_
  refine s_aload_n (pc' := 136) dX1_joinFront_135 rfl rfl ?_
  refine s_iload (pc' := 138) dX1_joinFront_136 rfl rfl ?_
  refine s_iconst (pc' := 139) (v := 1) dX1_joinFront_138 rfl (by decide) ?_
  refine s_iadd (pc' := 140) dX1_joinFront_139 rfl ?_
  refine t_putI (pc' := 143) dX1_joinFront_140 rfl sh_23 (by decide) fa_X1_39_1 (Or.inl rfl) rfl rfl rfl ?_
  exact s_vret dX1_joinFront_143 rfl (by decide) (by decide) (by rw [nI_1]; exact hk _ _ (F.add hl hn2 hj2) (fun a ha => up2_o ha) (fun j hj => up2_e hj) (fun a h1 h2 => by rw [up2_o h2, up2_o h1]; exact hj2.1 a h1 h2))
/-- what both() may change -/
def WQ (I I' : Nat → Nat → Int32) (J J' : Nat → Nat → Int64) (Q Q' : Nat → Nat → Option Nat) : Prop := (∀ a, (a < 23 ∨ 41 < a) → I' a = I a) ∧ (∀ j, j ≠ 8 → I' 23 j = I 23 j) ∧ I' 29 = I 29 ∧ I' 30 = I 30 ∧ I' 31 = I 31 ∧ (∀ a, (a < 25 ∨ 40 < a) → J' a = J a) ∧ (∀ a, a ≠ 32 → Q' a = Q a)
section WQ
variable {N : Nat} {S : Nat → Nat × Nat} {I I' I2 : Nat → Nat → Int32} {J J' J2 : Nat → Nat → Int64} {Q Q' Q2 : Nat → Nat → Option Nat} {D : Nat → Nat → Int32} {nv nr ns e b : Nat} {ad td : Nat → Nat}
theorem WW.q (h : WW I I' J J' Q Q') : WQ I I' J J' Q Q' := ⟨fun a ha => h.1 a (by omega), fun j _ => by rw [h.1 23 (by decide)], h.2.1, h.2.2.1, h.2.2.2.1, fun a ha => h.2.2.2.2.1 a (by omega), h.2.2.2.2.2⟩
theorem WQ.tr (h : WQ I I' J J' Q Q') (h2 : WQ I' I2 J' J2 Q' Q2) : WQ I I2 J J2 Q Q2 :=
  ⟨fun a ha => (h2.1 a ha).trans (h.1 a ha), fun j hj => (h2.2.1 j hj).trans (h.2.1 j hj), h2.2.2.1.trans h.2.2.1, h2.2.2.2.1.trans h.2.2.2.1, h2.2.2.2.2.1.trans h.2.2.2.2.1, fun a ha => (h2.2.2.2.2.2.1 a ha).trans (h.2.2.2.2.2.1 a ha), fun a ha => (h2.2.2.2.2.2.2 a ha).trans (h.2.2.2.2.2.2 a ha)⟩
/-- rows beside the pages change -/
theorem XB.side (h : XB N S I J Q D nv nr ns ad td e) (h1 : ∀ a, a ≠ 23 → a ≠ 41 → I' a = I a) (h2 : ∀ j, j ≠ 8 → I' 23 j = I 23 j) (h3 : ∀ a, a ≠ 39 → a ≠ 40 → J' a = J a) : XB N S I' J' Q D nv nr ns ad td e ∧ WQ I I' J J' Q Q := by
  obtain ⟨x1, x2, x3, x4, ⟨ord, st, x5⟩, x6, k1, k2, k3⟩ := h
  refine ⟨⟨x1.mv (fun a a1 a2 _ => h1 a (by omega) (by omega)) rfl (fun a ha => h1 a (by omega) (by omega)) (fun _ _ => rfl), x2, x3, fun v hv u => by rw [h1 (0 + 7) (by omega) (by omega)]; exact x4 v hv u, ⟨ord, st, x5.mv (h1 29 (by decide) (by decide)) (h1 30 (by decide) (by decide)) (h1 31 (by decide) (by decide))⟩, by rw [h1 31 (by decide) (by decide)]; exact x6, by rw [h2 2 (by decide)]; exact k1, k2, fun b hb => ?_⟩, fun a ha => h1 a (by omega) (by omega), h2, h1 29 (by decide) (by decide), h1 30 (by decide) (by decide), h1 31 (by decide) (by decide), fun a ha => h3 a (by omega) (by omega), fun _ _ => rfl⟩
  obtain ⟨q1, q2⟩ := k3 b hb
  rw [h1 36 (by decide) (by decide)]
  refine ⟨q1, fun z => ?_⟩
  obtain ⟨p1, p2⟩ := q2 z
  exact ⟨fun v hv => by unfold gX; rw [h3 38 (by decide) (by decide)]; exact p1 v hv, fun c hc => by rw [h1 37 (by decide) (by decide)]; exact p2 c hc⟩
end WQ
theorem l_X1_unbettered {N : Nat} {S : Nat → Nat × Nat} {I : Nat → Nat → Int32} {J : Nat → Nat → Int64} {Q : Nat → Nat → Option Nat} {κ : Option Value → HP → Prop} {D : Nat → Nat → Int32} {nv nr ns : Nat} {ad td : Nat → Nat} {e : Nat} (X : XB N S I J Q D nv nr ns ad td e) {v w : Nat} (hv : v < nv) (hw : w < nv) (hk : ∀ I' J' Q', WQ I I' J J' Q Q' → XB N S I' J' Q' D nv nr ns ad td e → κ (some (.int (nI (cntB (gd D nv nr ns v w 256) 256)))) (N, S, I', J', Q')) : ∀ d : Nat, ∀ k I' J' Q', k + d = 256 → WQ I I' J J' Q Q' → XB N S I' J' Q' D nv nr ns ad td e → FRT I' J' D nv nr ns v w k → SP E1 M_X1_unbettered κ 7 [.ref 23, .int (nI v), .int (nI w), .int (nI k)] [] (N, S, I', J', Q') 0 0 := by
  intro d
  induction d with
  | zero =>
    intro k I' J' Q' hd q X2 F
    obtain rfl : k = 256 := by omega
    refine s_iload_n (pc' := 8) dX1_unbettered_7 rfl rfl ?_
    refine s_sipush (pc' := 11) (v := 256) dX1_unbettered_8 rfl (by decide) ?_
    refine s_icmpgeT (tgt := 44) dX1_unbettered_11 (by decide) (by decide) ?_
    refine s_aload_n (pc' := 45) dX1_unbettered_44 rfl rfl ?_
    refine t_getI (pc' := 48) dX1_unbettered_45 rfl sh_23 (by decide) fa_X1_39_1 rfl ?_
    exact s_iret dX1_unbettered_48 rfl (by decide) (by decide) (by rw [F.1]; exact hk I' J' Q' q X2)
  | succ d ih =>
    intro k I' J' Q' hd q X2 F
    refine s_iload_n (pc' := 8) dX1_unbettered_7 rfl rfl ?_
    refine s_sipush (pc' := 11) (v := 256) dX1_unbettered_8 rfl (by decide) ?_
    refine s_icmpgeF (pc' := 14) (tgt := 44) dX1_unbettered_11 (by decide) rfl (nI_ge (b := 256) (by omega) (by decide)) ?_
    refine s_aload_n (pc' := 15) dX1_unbettered_14 rfl rfl ?_
    refine s_iload_n (pc' := 16) dX1_unbettered_15 rfl rfl ?_
    refine s_callV (pc' := 19) (As := [.int _]) dX1_unbettered_16 rfl mk_X1_isLawful ml_X1_79 im_X1_isLawful se_X1_X1_X1_isLawful sh_23 (by decide) rfl rfl rfl ⟨Nat.le_of_ble_eq_true rfl, Nat.le_of_ble_eq_true rfl, Nat.le_of_ble_eq_true rfl, Nat.le_of_ble_eq_true rfl⟩ (Nat.le_of_ble_eq_true rfl) (c_X1_isLawful X2 (b := k) (by omega) (fun l16 I1 J1 Q1 w1 X1 => ?_) (fun l16 I1 J1 Q1 w1 X1 => ?_))
    · refine s_ifeqF (pc' := 22) (tgt := 38) dX1_unbettered_19 (by decide) rfl (by decide) ?_
      refine s_aload_n (pc' := 23) dX1_unbettered_22 rfl rfl ?_
      refine s_aload_n (pc' := 24) dX1_unbettered_23 rfl rfl ?_
      refine s_iload_n (pc' := 25) dX1_unbettered_24 rfl rfl ?_
      refine s_iload_n (pc' := 26) dX1_unbettered_25 rfl rfl ?_
      refine s_callV (pc' := 29) (As := [.int _, .int _]) dX1_unbettered_26 rfl mk_X1_numberOn ml_X1_92 im_X1_numberOn se_X1_X1_X1_numberOn sh_23 (by decide) rfl rfl rfl ⟨Nat.le_of_ble_eq_true rfl, Nat.le_of_ble_eq_true rfl, Nat.le_of_ble_eq_true rfl, Nat.le_of_ble_eq_true rfl⟩ (Nat.le_of_ble_eq_true rfl) (c_X1_numberOn X1 (b := k) (by omega) hv (fun I2 J2 Q2 w2 X2' => ?_))
      refine s_aload_n (pc' := 30) dX1_unbettered_29 rfl rfl ?_
      refine s_iload_n (pc' := 31) dX1_unbettered_30 rfl rfl ?_
      refine s_iload_n (pc' := 32) dX1_unbettered_31 rfl rfl ?_
      refine s_callV (pc' := 35) (As := [.int _, .int _]) dX1_unbettered_32 rfl mk_X1_numberOn ml_X1_92 im_X1_numberOn se_X1_X1_X1_numberOn sh_23 (by decide) rfl rfl rfl ⟨Nat.le_of_ble_eq_true rfl, Nat.le_of_ble_eq_true rfl, Nat.le_of_ble_eq_true rfl, Nat.le_of_ble_eq_true rfl⟩ (Nat.le_of_ble_eq_true rfl) (c_X1_numberOn X2' (b := k) (by omega) hw (fun I3 J3 Q3 w3 X3 => ?_))
      refine s_callV (pc' := 38) (As := [.long _, .long _]) dX1_unbettered_35 rfl mk_X1_joinFront ml_X1_100 im_X1_joinFront se_X1_X1_X1_joinFront sh_23 (by decide) rfl rfl rfl ⟨Nat.le_of_ble_eq_true rfl, Nat.le_of_ble_eq_true rfl, Nat.le_of_ble_eq_true rfl, Nat.le_of_ble_eq_true rfl⟩ (Nat.le_of_ble_eq_true rfl) (c_X1_joinFront (by omega) (F.mv (by rw [((w1.tr w2).tr w3).1 23 (by decide)]) (((w1.tr w2).tr w3).2.2.2.2.1 39 (by decide)) (((w1.tr w2).tr w3).2.2.2.2.1 40 (by decide))) l16 (fun I4 J4 f1 f2 f3 f4 => ?_))
      refine t_iinc (pc' := 41) (v := nI (k + 1)) (L' := [.ref 23, .int _, .int _, .int _]) dX1_unbettered_38 rfl rfl (nI_inc k) rfl ?_
      refine s_goto (tgt := 7) dX1_unbettered_41 (by decide) ?_
      have z := X3.side (I' := I4) (J' := J4) (fun a h1 _ => f2 a h1) f3 f4
      exact ih (k + 1) I4 J4 Q3 (by omega) (((q.tr w1.q).tr (w2.tr w3).q).tr z.2) z.1 f1
    · refine s_ifeqT (tgt := 38) dX1_unbettered_19 (by decide) (by decide) ?_
      refine t_iinc (pc' := 41) (v := nI (k + 1)) (L' := [.ref 23, .int _, .int _, .int _]) dX1_unbettered_38 rfl rfl (nI_inc k) rfl ?_
      refine s_goto (tgt := 7) dX1_unbettered_41 (by decide) ?_
      exact ih (k + 1) I1 J1 Q1 (by omega) (q.tr w1.q) X1 ((F.mv (by rw [w1.1 23 (by decide)]) (w1.2.2.2.2.1 39 (by decide)) (w1.2.2.2.2.1 40 (by decide))).skip l16)
theorem c_X1_unbettered {N : Nat} {S : Nat → Nat × Nat} {I : Nat → Nat → Int32} {J : Nat → Nat → Int64} {Q : Nat → Nat → Option Nat} {κ : Option Value → HP → Prop} {D : Nat → Nat → Int32} {nv nr ns : Nat} {ad td : Nat → Nat} {e : Nat} (X : XB N S I J Q D nv nr ns ad td e) {v w : Nat} (hv : v < nv) (hw : w < nv) (hk : ∀ I' J' Q', WQ I I' J J' Q Q' → XB N S I' J' Q' D nv nr ns ad td e → κ (some (.int (nI (cntB (gd D nv nr ns v w 256) 256)))) (N, S, I', J', Q')) : CT E1 M_X1_unbettered [.ref 23, .int (nI v), .int (nI w)] (N, S, I, J, Q) κ := by
  refine ofSP mk_X1_unbettered (Nat.le_of_ble_eq_true rfl) (L := [.ref 23, .int _, .int _, .retAddr _]) rfl ?_
  refine s_aload_n (pc' := 1) dX1_unbettered_0 rfl rfl ?_
  refine s_iconst (pc' := 2) (v := 0) dX1_unbettered_1 rfl (by decide) ?_
  refine t_putI (pc' := 5) dX1_unbettered_2 rfl sh_23 (by decide) fa_X1_39_1 (Or.inl rfl) rfl rfl rfl ?_
  refine s_iconst (pc' := 6) (v := 0) dX1_unbettered_5 rfl (by decide) ?_
  refine t_istore_n (pc' := 7) (L' := [.ref 23, .int _, .int _, .int _]) dX1_unbettered_6 rfl (Nat.le_of_ble_eq_true rfl) rfl ?_
  have z := X.side (I' := up2 I 23 8 0) (J' := J) (fun a h1 _ => up2_o h1) (fun j hj => up2_e hj) (fun _ _ _ => rfl)
  exact l_X1_unbettered X hv hw hk 256 0 _ J Q rfl z.2 z.1 ⟨up2_s, fun b hb => by omega, fun c hc => by omega⟩
