theorem XB.rd {N : Nat} {S : Nat → Nat × Nat} {I : Nat → Nat → Int32} {J : Nat → Nat → Int64} {Q : Nat → Nat → Option Nat} {D : Nat → Nat → Int32} {nv nr ns : Nat} {ad td : Nat → Nat} {e : Nat} (X : XB N S I J Q D nv nr ns ad td e) {v : Nat} (hv : v < nv) : I 2 v = D 55 v ∧ I 4 v = D 59 v := ⟨(X.1.2.1 v hv).1, (X.1.2.1 v hv).2.2.1⟩
theorem in_add {a b : Int32} (h1 : inR a 0 600000) (h2 : a.toInt ≤ 599000) (h3 : inR b 1 1000) : inR (a + b) 0 600000 ∧ (a + b).toInt ≤ a.toInt + 1000 := by
  obtain ⟨n, e1, e2, -⟩ := toNat_of h1 (by decide)
  obtain ⟨m, e3, e4, -⟩ := toNat_of h3 (by decide)
  have z1 := h1.1; have z2 := h3.1; have z3 := h3.2
  have e : a + b = nI (n + m) := by rw [e1, e3, nI_add]
  have e5 : (a + b).toInt = ((n + m : Nat) : Int) := by rw [e]; exact nI_toInt (by omega)
  unfold inR; rw [e5]; omega
set_option maxHeartbeats 200000 in
theorem l_X11_rest {N : Nat} {S : Nat → Nat × Nat} {I : Nat → Nat → Int32} {J : Nat → Nat → Int64} {Q : Nat → Nat → Option Nat} {κ : Option Value → HP → Prop} {D : Nat → Nat → Int32} {nv nr ns : Nat} {ad td : Nat → Nat} {e : Nat} (X : XB N S I J Q D nv nr ns ad td e) (he : e + 1 < 2 ^ 30) (hk : ∀ I', FG (zr I 4 nv) I' → XB N S I' J Q (zr D 59 nv) nv nr ns ad td (e + 1) → κ (some (.int (cNz (D 59) nv))) (N, S, up2 I' 0 5 0, J, Q)) : ∀ d : Nat, ∀ k, k + d = nv → SP E1 M_X11_rest κ 4 [.ref 0, .int (cNz (D 59) k), .int (nI k)] [] (N, S, zr I 4 k, J, Q) 0 0 := by
  intro d
  induction d with
  | zero =>
    intro k hd
    have hn10 := X.2.1.nv
    obtain rfl : k = nv := by omega
    refine s_iload_n (pc' := 5) dX11_rest_4 rfl rfl ?_
    refine s_aload_n (pc' := 6) dX11_rest_5 rfl rfl ?_
    refine s_getS (pc' := 9) (b := 1) dX11_rest_6 rfl (by decide) rfl (by decide) fa_X11_10_11 rfl rfl ?_
    refine t_getI (pc' := 12) dX11_rest_9 rfl sh_1 (by decide) fa_X11_91_8 rfl ?_
    refine s_icmpgeT (tgt := 46) dX11_rest_12 (by decide) (by rw [zr_d (by decide), X.1.xv]; exact nI_le (Nat.le_refl _) (by omega)) ?_
    refine s_aload_n (pc' := 47) dX11_rest_46 rfl rfl ?_
    refine s_getS (pc' := 50) (b := 23) dX11_rest_47 rfl (by decide) rfl (by decide) fa_X11_24_11 rfl rfl ?_
    refine s_callV (pc' := 53) (As := []) dX11_rest_50 rfl mk_X1_forget ml_X11_97 im_X1_forget se_X1_X1_X1_forget sh_23 (by decide) rfl rfl rfl ⟨Nat.le_of_ble_eq_true rfl, Nat.le_of_ble_eq_true rfl, Nat.le_of_ble_eq_true rfl, Nat.le_of_ble_eq_true rfl⟩ (Nat.le_of_ble_eq_true rfl) (c_X1_forget X.1.zro X.2.1.zro (DR.zro.ac X.2.2.1) (DR.zro.nt X.2.2.2.1 (zr_o (by decide))) (by rw [zr_d (by decide)]; exact X.2.2.2.2.2.1) (J0 := J) (e := e) (BK.hd X.2.2.2.2.2.2 (zr_o (by decide)) (zr_o (by decide)) (zr_o (by decide))) he (fun I1 f1 X1 => ?_))
    refine s_aload_n (pc' := 54) dX11_rest_53 rfl rfl ?_
    refine s_iload_n (pc' := 55) dX11_rest_54 rfl rfl ?_
    refine s_callV (pc' := 58) (As := [.int _]) dX11_rest_55 rfl mk_X11_done ml_X11_100 im_X11_done se_X11_X11_X11_done sh_0 (by decide) rfl rfl rfl ⟨Nat.le_of_ble_eq_true rfl, Nat.le_of_ble_eq_true rfl, Nat.le_of_ble_eq_true rfl, Nat.le_of_ble_eq_true rfl⟩ (Nat.le_of_ble_eq_true rfl) (c_X11_done ?_)
    exact s_iret dX11_rest_58 rfl (by decide) (by decide) (hk I1 f1 X1)
  | succ d ih =>
    intro k hd
    have hn10 := X.2.1.nv
    have hk2 : k < nv := by omega
    refine s_iload_n (pc' := 5) dX11_rest_4 rfl rfl ?_
    refine s_aload_n (pc' := 6) dX11_rest_5 rfl rfl ?_
    refine s_getS (pc' := 9) (b := 1) dX11_rest_6 rfl (by decide) rfl (by decide) fa_X11_10_11 rfl rfl ?_
    refine t_getI (pc' := 12) dX11_rest_9 rfl sh_1 (by decide) fa_X11_91_8 rfl ?_
    refine s_icmpgeF (pc' := 15) (tgt := 46) dX11_rest_12 (by decide) rfl (by rw [zr_d (by decide), X.1.xv]; exact nI_ge (by omega) (by omega)) ?_
    refine s_aload_n (pc' := 16) dX11_rest_15 rfl rfl ?_
    refine s_getS (pc' := 19) (b := 1) dX11_rest_16 rfl (by decide) rfl (by decide) fa_X11_10_11 rfl rfl ?_
    refine s_getS (pc' := 22) (b := 4) dX11_rest_19 rfl (by decide) rfl (by decide) fa_X11_173_8 rfl rfl ?_
    refine s_iload_n (pc' := 23) dX11_rest_22 rfl rfl ?_
    refine t_iald (pc' := 24) dX11_rest_23 rfl sh_4 rfl (by omega) ?_
    refine s_ifeq (pc' := 27) (tgt := 40) dX11_rest_24 (by decide) rfl (fun c24 => ?_) (fun c24 => ?_)
    · refine t_iinc (pc' := 43) (v := nI (k + 1)) (L' := [.ref 0, .int _, .int _]) dX11_rest_40 rfl rfl (nI_inc k) rfl ?_
      refine s_goto (tgt := 4) dX11_rest_43 (by decide) ?_
      rw [zr_e (Nat.le_refl k), (X.rd hk2).2] at c24
      refine s_eq ?_ rfl ?_ (ih (k + 1) (by omega))
      · rw [cNz, if_pos c24, Int32.add_zero]
      · rw [zr_z (by rw [(X.rd hk2).2]; exact c24)]
    · refine s_aload_n (pc' := 28) dX11_rest_27 rfl rfl ?_
      refine s_getS (pc' := 31) (b := 1) dX11_rest_28 rfl (by decide) rfl (by decide) fa_X11_10_11 rfl rfl ?_
      refine s_getS (pc' := 34) (b := 4) dX11_rest_31 rfl (by decide) rfl (by decide) fa_X11_173_8 rfl rfl ?_
      refine s_iload_n (pc' := 35) dX11_rest_34 rfl rfl ?_
      refine s_iconst (pc' := 36) (v := 0) dX11_rest_35 rfl (by decide) ?_
      refine t_iast (pc' := 37) dX11_rest_36 rfl sh_4 rfl (by omega) ?_
      refine t_iinc (pc' := 40) (v := cNz (D 59) k + 1) (L' := [.ref 0, .int _, .int _]) dX11_rest_37 rfl rfl rfl rfl ?_
      refine t_iinc (pc' := 43) (v := nI (k + 1)) (L' := [.ref 0, .int _, .int _]) dX11_rest_40 rfl rfl (nI_inc k) rfl ?_
      refine s_goto (tgt := 4) dX11_rest_43 (by decide) ?_
      rw [zr_e (Nat.le_refl k), (X.rd hk2).2] at c24
      refine s_eq ?_ rfl ?_ (ih (k + 1) (by omega))
      · rw [cNz, if_neg c24]
      · rw [zr_s]
set_option maxHeartbeats 200000 in
theorem c_X11_rest {N : Nat} {S : Nat → Nat × Nat} {I : Nat → Nat → Int32} {J : Nat → Nat → Int64} {Q : Nat → Nat → Option Nat} {κ : Option Value → HP → Prop} {D : Nat → Nat → Int32} {nv nr ns : Nat} {ad td : Nat → Nat} {e : Nat} (X : XB N S I J Q D nv nr ns ad td e) (he : e + 1 < 2 ^ 30) (hk : ∀ I', FG (zr I 4 nv) I' → XB N S I' J Q (zr D 59 nv) nv nr ns ad td (e + 1) → κ (some (.int (cNz (D 59) nv))) (N, S, up2 I' 0 5 0, J, Q)) : CT E1 M_X11_rest [.ref 0] (N, S, I, J, Q) κ := by
  refine ofSP mk_X11_rest (Nat.le_of_ble_eq_true rfl) (L := [.ref 0, .retAddr _, .retAddr _]) rfl ?_
  refine s_iconst (pc' := 1) (v := 0) dX11_rest_0 rfl (by decide) ?_
  refine t_istore_n (pc' := 2) (L' := [.ref 0, .int _, .retAddr _]) dX11_rest_1 rfl (Nat.le_of_ble_eq_true rfl) rfl ?_
  refine s_iconst (pc' := 3) (v := 0) dX11_rest_2 rfl (by decide) ?_
  refine t_istore_n (pc' := 4) (L' := [.ref 0, .int _, .int _]) dX11_rest_3 rfl (Nat.le_of_ble_eq_true rfl) rfl ?_
  exact s_eq rfl rfl (by rw [zr_0]) (l_X11_rest X he hk nv 0 (by omega))
set_option maxHeartbeats 200000 in
theorem c_X11_spend {N : Nat} {S : Nat → Nat × Nat} {I : Nat → Nat → Int32} {J : Nat → Nat → Int64} {Q : Nat → Nat → Option Nat} {κ : Option Value → HP → Prop} {D : Nat → Nat → Int32} {nv nr ns : Nat} {ad td : Nat → Nat} {e : Nat} (X : XB N S I J Q D nv nr ns ad td e) (he : e + 1 < 2 ^ 30) {md : Nat} (hm : D 75 3 = nI md) (hmd : md < 256) (h600 : ∀ v, v < nv → (D 59 v).toInt ≤ 599000) {x y : Int32} (k1 : ((∀ j, j < nv → x ≠ nI j) ∨ (∃ v, v < nv ∧ x = nI v ∧ D 55 v ≠ 2) ∨ ¬ inR y 1 1000) → κ (some (.int (-1))) (N, S, up2 I 0 5 1, J, Q)) (k2 : ∀ v, v < nv → x = nI v → D 55 v = 2 → inR y 1 1000 → ¬ 0 ≤ gS D nv nr ns md v - y.toInt64 → ∀ I' J' Q', WQ I I' J J' Q Q' → XB N S I' J' Q' D nv nr ns ad td e → κ (some (.int (-1))) (N, S, up2 I' 0 5 3, J', Q')) (k3 : ∀ v, v < nv → x = nI v → D 55 v = 2 → inR y 1 1000 → 0 ≤ gS D nv nr ns md v - y.toInt64 → ∀ I' J' Q', WW I I' J J' Q Q' → XB N S I' J' Q' D nv nr ns ad td e → ∀ I2, FG (up2 I' 4 v (D 59 v + y)) I2 → XB N S I2 J' Q' (up2 D 59 v (D 59 v + y)) nv nr ns ad td (e + 1) → κ (some (.int (gS D nv nr ns md v - y.toInt64).toInt32)) (N, S, up2 I2 0 5 0, J', Q')) : CT E1 M_X11_spend [.ref 0, .int x, .int y] (N, S, I, J, Q) κ := by
  refine ofSP mk_X11_spend (Nat.le_of_ble_eq_true rfl) (L := [.ref 0, .int _, .int _, .retAddr _, .retAddr _]) rfl ?_
  refine s_aload_n (pc' := 1) dX11_spend_0 rfl rfl ?_
  refine s_iload_n (pc' := 2) dX11_spend_1 rfl rfl ?_
  refine s_iconst (pc' := 3) (v := 2) dX11_spend_2 rfl (by decide) ?_
  refine s_callV (pc' := 6) (As := [.int _, .int _]) dX11_spend_3 rfl mk_X11_isOfKind ml_X11_166 im_X11_isOfKind se_X11_X11_X11_isOfKind sh_0 (by decide) rfl rfl rfl ⟨Nat.le_of_ble_eq_true rfl, Nat.le_of_ble_eq_true rfl, Nat.le_of_ble_eq_true rfl, Nat.le_of_ble_eq_true rfl⟩ (Nat.le_of_ble_eq_true rfl) (c_X11_isOfKind X.1.xv X.2.1.nv (fun j3 hj3 e3 o3 => ?_) (fun n3 => ?_))
  · subst e3
    refine s_ifeqF (pc' := 9) (tgt := 21) dX11_spend_6 (by decide) rfl (by decide) ?_
    refine s_iload_n (pc' := 10) dX11_spend_9 rfl rfl ?_
    refine s_iconst (pc' := 11) (v := 1) dX11_spend_10 rfl (by decide) ?_
    refine s_icmplt (pc' := 14) (tgt := 21) dX11_spend_11 (by decide) rfl (fun c11 => ?_) (fun c11 => ?_)
    · refine s_aload_n (pc' := 22) dX11_spend_21 rfl rfl ?_
      refine s_iconst (pc' := 23) (v := 1) dX11_spend_22 rfl (by decide) ?_
      refine s_callV (pc' := 26) (As := [.int _]) dX11_spend_23 rfl mk_X11_refused ml_X11_87 im_X11_refused se_X11_X11_X11_refused sh_0 (by decide) rfl rfl rfl ⟨Nat.le_of_ble_eq_true rfl, Nat.le_of_ble_eq_true rfl, Nat.le_of_ble_eq_true rfl, Nat.le_of_ble_eq_true rfl⟩ (Nat.le_of_ble_eq_true rfl) (c_X11_refused ?_)
      exact s_iret dX11_spend_26 rfl (by decide) (by decide) (k1 (Or.inr (Or.inr (in_r1 (a := 1) (by decide) c11))))
    · refine s_iload_n (pc' := 15) dX11_spend_14 rfl rfl ?_
      refine s_sipush (pc' := 18) (v := 1000) dX11_spend_15 rfl (by decide) ?_
      refine s_icmple (pc' := 21) (tgt := 27) dX11_spend_18 (by decide) rfl (fun c18 => ?_) (fun c18 => ?_)
      · have hyR : inR y 1 1000 := in_r (a := 1) (b := 1000) (by decide) (by decide) c11 c18
        have h55 : D 55 j3 = 2 := by rw [← (X.rd hj3).1]; exact o3
        refine s_aload_n (pc' := 28) dX11_spend_27 rfl rfl ?_
        refine s_iload_n (pc' := 29) dX11_spend_28 rfl rfl ?_
        refine s_callV (pc' := 32) (As := [.int _]) dX11_spend_29 rfl mk_X11_numberNow ml_X11_169 im_X11_numberNow se_X11_X11_X11_numberNow sh_0 (by decide) rfl rfl rfl ⟨Nat.le_of_ble_eq_true rfl, Nat.le_of_ble_eq_true rfl, Nat.le_of_ble_eq_true rfl, Nat.le_of_ble_eq_true rfl⟩ (Nat.le_of_ble_eq_true rfl) (c_X11_numberNow X hm hmd (by assumption) (fun I1 J1 Q1 w1 X1 => ?_))
        refine s_iload_n (pc' := 33) dX11_spend_32 rfl rfl ?_
        refine s_i2l (pc' := 34) dX11_spend_33 rfl ?_
        refine s_lsub (pc' := 35) dX11_spend_34 rfl ?_
        refine t_lstore_n (pc' := 36) (L' := [.ref 0, .int _, .int _, .long _, .retAddr _]) dX11_spend_35 rfl (Nat.le_of_ble_eq_true rfl) rfl ?_
        refine s_lload_n (pc' := 37) dX11_spend_36 rfl rfl ?_
        refine s_lconst (pc' := 38) (v := 0) dX11_spend_37 rfl (by decide) ?_
        refine s_lcmp (pc' := 39) dX11_spend_38 rfl ?_
        refine s_ifge (pc' := 42) (tgt := 48) dX11_spend_39 (by decide) rfl (fun c39 => ?_) (fun c39 => ?_)
        · rw [lg_cmp_ge] at c39
          refine s_aload_n (pc' := 49) dX11_spend_48 rfl rfl ?_
          refine s_getS (pc' := 52) (b := 1) dX11_spend_49 rfl (by decide) rfl (by decide) fa_X11_10_11 rfl rfl ?_
          refine s_getS (pc' := 55) (b := 4) dX11_spend_52 rfl (by decide) rfl (by decide) fa_X11_173_8 rfl rfl ?_
          refine s_iload_n (pc' := 56) dX11_spend_55 rfl rfl ?_
          refine s_dup2 (pc' := 57) dX11_spend_56 rfl rfl rfl ?_
          refine t_iald (pc' := 58) dX11_spend_57 rfl sh_4 rfl (by have := X.2.1.nv; omega) ?_
          refine s_iload_n (pc' := 59) dX11_spend_58 rfl rfl ?_
          refine s_iadd (pc' := 60) dX11_spend_59 rfl ?_
          refine t_iast (pc' := 61) dX11_spend_60 rfl sh_4 rfl (by have := X.2.1.nv; omega) ?_
          rw [(X1.rd hj3).2]
          have hxR : inR (D 59 j3 + y) 0 600000 := by
            have z1 := (X.2.1.2.2.1 j3 hj3).2.2.1
            have z2 := h600 j3 hj3
            exact (in_add z1 z2 hyR).1
          refine s_aload_n (pc' := 62) dX11_spend_61 rfl rfl ?_
          refine s_getS (pc' := 65) (b := 23) dX11_spend_62 rfl (by decide) rfl (by decide) fa_X11_24_11 rfl rfl ?_
          refine s_callV (pc' := 68) (As := []) dX11_spend_65 rfl mk_X1_forget ml_X11_97 im_X1_forget se_X1_X1_X1_forget sh_23 (by decide) rfl rfl rfl ⟨Nat.le_of_ble_eq_true rfl, Nat.le_of_ble_eq_true rfl, Nat.le_of_ble_eq_true rfl, Nat.le_of_ble_eq_true rfl⟩ (Nat.le_of_ble_eq_true rfl) (c_X1_forget X1.1.u59 (X1.2.1.u59 hxR) (DR.u59.ac X1.2.2.1) (DR.u59.nt X1.2.2.2.1 (up2_o (by decide))) (by simp (disch := decide) only [up2_d]; exact X1.2.2.2.2.2.1) (J0 := J1) (e := e) (BK.hd X1.2.2.2.2.2.2) he (fun I2 f2 X2 => ?_))
          refine s_aload_n (pc' := 69) dX11_spend_68 rfl rfl ?_
          refine s_lload_n (pc' := 70) dX11_spend_69 rfl rfl ?_
          refine s_l2i (pc' := 71) dX11_spend_70 rfl ?_
          refine s_callV (pc' := 74) (As := [.int _]) dX11_spend_71 rfl mk_X11_done ml_X11_100 im_X11_done se_X11_X11_X11_done sh_0 (by decide) rfl rfl rfl ⟨Nat.le_of_ble_eq_true rfl, Nat.le_of_ble_eq_true rfl, Nat.le_of_ble_eq_true rfl, Nat.le_of_ble_eq_true rfl⟩ (Nat.le_of_ble_eq_true rfl) (c_X11_done ?_)
          exact s_iret dX11_spend_74 rfl (by decide) (by decide) (k3 j3 hj3 rfl h55 hyR c39 I1 J1 Q1 w1 X1 I2 f2 X2)
        · rw [lg_cmp_ge] at c39
          refine s_aload_n (pc' := 43) dX11_spend_42 rfl rfl ?_
          refine s_iconst (pc' := 44) (v := 3) dX11_spend_43 rfl (by decide) ?_
          refine s_callV (pc' := 47) (As := [.int _]) dX11_spend_44 rfl mk_X11_refused ml_X11_87 im_X11_refused se_X11_X11_X11_refused sh_0 (by decide) rfl rfl rfl ⟨Nat.le_of_ble_eq_true rfl, Nat.le_of_ble_eq_true rfl, Nat.le_of_ble_eq_true rfl, Nat.le_of_ble_eq_true rfl⟩ (Nat.le_of_ble_eq_true rfl) (c_X11_refused ?_)
          exact s_iret dX11_spend_47 rfl (by decide) (by decide) (k2 j3 hj3 rfl h55 hyR (fun z => c39 z) I1 J1 Q1 w1.q X1)
      · refine s_aload_n (pc' := 22) dX11_spend_21 rfl rfl ?_
        refine s_iconst (pc' := 23) (v := 1) dX11_spend_22 rfl (by decide) ?_
        refine s_callV (pc' := 26) (As := [.int _]) dX11_spend_23 rfl mk_X11_refused ml_X11_87 im_X11_refused se_X11_X11_X11_refused sh_0 (by decide) rfl rfl rfl ⟨Nat.le_of_ble_eq_true rfl, Nat.le_of_ble_eq_true rfl, Nat.le_of_ble_eq_true rfl, Nat.le_of_ble_eq_true rfl⟩ (Nat.le_of_ble_eq_true rfl) (c_X11_refused ?_)
        exact s_iret dX11_spend_26 rfl (by decide) (by decide) (k1 (Or.inr (Or.inr (in_r2 (b := 1000) (by decide) c18))))
  · refine s_ifeqT (tgt := 21) dX11_spend_6 (by decide) (by decide) ?_
    refine s_aload_n (pc' := 22) dX11_spend_21 rfl rfl ?_
    refine s_iconst (pc' := 23) (v := 1) dX11_spend_22 rfl (by decide) ?_
    refine s_callV (pc' := 26) (As := [.int _]) dX11_spend_23 rfl mk_X11_refused ml_X11_87 im_X11_refused se_X11_X11_X11_refused sh_0 (by decide) rfl rfl rfl ⟨Nat.le_of_ble_eq_true rfl, Nat.le_of_ble_eq_true rfl, Nat.le_of_ble_eq_true rfl, Nat.le_of_ble_eq_true rfl⟩ (Nat.le_of_ble_eq_true rfl) (c_X11_refused ?_)
    exact s_iret dX11_spend_26 rfl (by decide) (by decide) (k1 ((Classical.em (∃ v, v < nv ∧ x = nI v)).elim (fun ⟨v, z1, z2⟩ => Or.inr (Or.inl ⟨v, z1, z2, by rw [← (X.rd z1).1]; exact n3 v z1 z2⟩)) (fun z => Or.inl (fun j hj ej => z ⟨j, hj, ej⟩))))
