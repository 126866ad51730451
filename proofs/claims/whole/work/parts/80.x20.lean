/-! ===== sheets of numbers ===== -/
set_option maxHeartbeats 200000 in
theorem sh_47s {h : HP} {s : Nat} (hs : s < 4) : Sh E1 h (47 + s) 13 40 := by
  rcases (show s = 0 ∨ s = 1 ∨ s = 2 ∨ s = 3 by omega) with rfl | rfl | rfl | rfl
  · exact sh_47
  · exact sh_48
  · exact sh_49
  · exact sh_50
theorem in_m12 {b : Int32} (h : inR b (-1) 2) (h1 : b ≠ -1) : inR b 0 2 := by
  have : b.toInt ≠ -1 := fun z => h1 (Int32.toInt_inj.mp (z.trans (by decide)))
  unfold inR at *; omega
theorem m1_lt {b : Int32} (h : b = -1) : b < 0 := by rw [h]; decide
theorem in_nlt {b : Int32} {B : Int} (h : inR b 0 B) : ¬ b < 0 := by
  rw [int_lt]; have := h.1; have : (0 : Int32).toInt = 0 := by decide
  omega
theorem by_ok : ∀ k, k < 2001 → byo (nI k - 1000) = (nI k - 1000).toInt8.toInt32 ∧ -1000 ≤ (byo (nI k - 1000)).toInt ∧ (byo (nI k - 1000)).toInt ≤ 1000 := by decide +kernel
theorem by_in {v : Int32} (h : inR v (-1000) 1000) : byo v = v.toInt8.toInt32 ∧ inR (byo v) (-1000) 1000 := by
  have hv : ∃ k, k < 2001 ∧ v = nI k - 1000 := by
    refine ⟨(v.toInt + 1000).toNat, ?_, ?_⟩
    · have := h.1; have := h.2; omega
    · have h1 := h.1; have h2 := h.2
      apply Int32.toInt_inj.mp
      have e1 : (nI (v.toInt + 1000).toNat).toInt = v.toInt + 1000 := by rw [nI_toInt (by omega)]; omega
      rw [Int32.toInt_sub, e1, show (1000 : Int32).toInt = 1000 by decide]
      rw [show v.toInt + 1000 - 1000 = v.toInt by omega]
      exact (Int.bmod_eq_of_le (by omega) (by omega)).symm
  obtain ⟨k, k1, rfl⟩ := hv
  exact by_ok k k1
section SH
variable {n N : Nat} {S : Nat → Nat × Nat} {I I1 I2 : Nat → Nat → Int32} {J : Nat → Nat → Int64} {Q : Nat → Nat → Option Nat} {D : Nat → Nat → Int32} {nv nr ns e : Nat} {ad td : Nat → Nat}
set_option maxHeartbeats 200000 in
theorem INVd.sh (H : INVd n N S I J Q D nv nr ns ad td e) (c0 : ∀ j, j ≠ 5 → I1 0 j = I 0 j) (c1 : ∀ a, a ≠ 0 → (a < 47 ∨ 52 < a) → I1 a = I a) (m1 : ∀ a, a ≠ 54 → (a < 91 ∨ 93 < a) → I2 a = I1 a) (m4 : ∀ j, j ≠ 24 → I2 54 j = I1 54 j) (hs : I2 0 5 = I2 54 24)
    (hc : ∀ s, s < 4 → (∃ so, so ≤ 3 ∧ I2 91 s = nI so ∧ I2 51 s = nI so - 1) ∧ (∃ z, z ≤ 40 ∧ I2 92 s = nI z ∧ I2 52 s = nI z) ∧ ∀ i, i < 40 → I2 (47 + s) i = I2 93 (40 * s + i) ∧ inR (I2 93 (40 * s + i)) (-1000) 1000) : INV (n + 1) (N, S, I2, J, Q) := by
  have ce : ∀ a, a ≠ 0 → a ≠ 54 → (a < 47 ∨ (52 < a ∧ a < 91) ∨ 93 < a) → I2 a = I a := fun a a1 a2 a3 => (m1 a a2 (by omega)).trans (c1 a a1 (by omega))
  have c4 : ∀ j, j ≠ 24 → I2 54 j = I 54 j := fun j j1 => by rw [m4 j j1, c1 54 (by decide) (by decide)]
  obtain ⟨h1, h2, h3, h4, h5, h6, h7, h8, h9, h10, h11⟩ := H
  suffices key : INVd (n + 1) N S I2 J Q D nv nr ns ad td e from ⟨D, nv, nr, ns, ad, td, e, key⟩
  have g : Gr N S I Q N S I2 Q := ⟨Nat.le_refl _, fun _ _ => rfl, fun a a1 a2 => ce a (by omega) (by omega) (by omega), fun _ _ _ => rfl⟩
  refine ⟨h1, fun i a b => (ce i (by omega) (by omega) (by omega)).trans (h2 i a b), ?_, by omega, ?_, h6.up, h7, ?_, ?_, h10, h11⟩
  · obtain ⟨x1, x2, x3, x4, ⟨ord, st, x5⟩, x6, k1, k2, k3⟩ := h3
    refine ⟨x1.gr g (fun a a1 a2 _ => ce a (by omega) (by omega) (by omega)) rfl, x2, x3, fun v hv u => by rw [ce (0 + 7) (by omega) (by omega) (by omega)]; exact x4 v hv u, ⟨ord, st, x5.mv (ce 29 (by decide) (by decide) (by decide)) (ce 30 (by decide) (by decide) (by decide)) (ce 31 (by decide) (by decide) (by decide))⟩, by rw [ce 31 (by decide) (by decide) (by decide)]; exact x6, ?_⟩
    unfold BK BG
    rw [ce 23 (by decide) (by decide) (by decide), ce 36 (by decide) (by decide) (by decide), ce 37 (by decide) (by decide) (by decide)]
    exact ⟨k1, k2, k3⟩
  · rw [c4 37 (by decide)]
    exact h5.imp id (fun L => L.mv (ce 81 (by decide) (by decide) (by decide)) (ce 82 (by decide) (by decide) (by decide)) (ce 83 (by decide) (by decide) (by decide)) rfl)
  · obtain ⟨a1, a2, a3, ⟨t, a4, a5⟩, a6, a7, a8, a9, a10⟩ := h8
    refine ⟨hs, ?_, ?_, ⟨t, a4, ?_⟩, ?_, ?_, ?_, ?_, fun s hs => ⟨(a10 s hs).1, hc s hs⟩⟩
    · rw [m1 0 (by decide) (by decide), c0 4 (by decide), c4 23 (by decide)]; exact a2
    · rw [m1 0 (by decide) (by decide), c0 3 (by decide), c4 22 (by decide)]; exact a3
    · rw [c4 25 (by decide), c4 26 (by decide), c4 27 (by decide)]; exact a5.gr g
    · rw [c4 25 (by decide), c4 26 (by decide)]; exact a6
    · rw [ce 42 (by decide) (by decide) (by decide)]; exact a7
    · rw [m1 0 (by decide) (by decide), c0 10 (by decide), c4 31 (by decide), ce 43 (by decide) (by decide) (by decide), ce 79 (by decide) (by decide) (by decide)]; exact a8
    · rw [ce 45 (by decide) (by decide) (by decide), c4 47 (by decide), ce 90 (by decide) (by decide) (by decide)]; exact a9
  · exact (h9.gr g (fun a b1 b2 => ce a (by omega) (by omega) (by omega)) (ce 76 (by decide) (by decide) (by decide)) (c4 22 (by decide)) rfl).up
end SH
set_option maxHeartbeats 200000 in
theorem c_X11_sheet {N : Nat} {S : Nat → Nat × Nat} {I : Nat → Nat → Int32} {J : Nat → Nat → Int64} {Q : Nat → Nat → Option Nat} {κ : Option Value → HP → Prop} {a b n : Int32} (hq : ∀ s, s < 4 → Q 46 s = some (47 + s)) (k1 : ((∀ s, s < 4 → a ≠ nI s) ∨ ¬ inR b (-1) 2 ∨ (¬ b < 0 ∧ ¬ inR n 0 40)) → κ (some (.int (-1))) (N, S, up2 I 0 5 1, J, Q)) (k2 : ∀ s, s < 4 → a = nI s → inR b (-1) 2 → (¬ b < 0 → inR n 0 40) → κ (some (.int 1)) (N, S, up2 (fl (up2 (up2 I 51 s b) 52 s (if b < 0 then 0 else n)) (47 + s) 40 0) 0 5 0, J, Q)) : CT E1 M_X11_sheet [.ref 0, .int a, .int b, .int n] (N, S, I, J, Q) κ := by
  refine ofSP mk_X11_sheet (Nat.le_of_ble_eq_true rfl) (L := [.ref 0, .int _, .int _, .int _, .retAddr _]) rfl ?_
  refine s_iload_n (pc' := 1) dX11_sheet_0 rfl rfl ?_
  refine s_iconst (pc' := 2) (v := -1) dX11_sheet_1 rfl (by decide) ?_
  refine s_icmpne (pc' := 5) (tgt := 9) dX11_sheet_2 (by decide) rfl (fun c2 => ?_) (fun c2 => ?_)
  · refine s_iconst (pc' := 10) (v := 0) dX11_sheet_9 rfl (by decide) ?_
    refine t_istore (pc' := 12) (L' := [.ref 0, .int _, .int _, .int _, .int _]) dX11_sheet_10 rfl (Nat.le_of_ble_eq_true rfl) rfl ?_
    refine s_iload_n (pc' := 13) dX11_sheet_12 rfl rfl ?_
    refine s_callS (pc' := 16) (As := [.int _]) dX11_sheet_13 rfl mk_X11_isRow ml_X11_321 sm_X11_isRow rfl rfl ⟨Nat.le_of_ble_eq_true rfl, Nat.le_of_ble_eq_true rfl, Nat.le_of_ble_eq_true rfl, Nat.le_of_ble_eq_true rfl⟩ (Nat.le_of_ble_eq_true rfl) (c_X11_isRow (fun s hs es => ?_) (fun n13 => ?_))
    · subst es
      refine s_ifeqF (pc' := 19) (tgt := 41) dX11_sheet_16 (by decide) rfl (by decide) ?_
      refine s_iload (pc' := 21) dX11_sheet_19 rfl rfl ?_
      refine s_ifneF (pc' := 24) (tgt := 47) dX11_sheet_21 (by decide) rfl (by decide) ?_
      refine s_iload_n (pc' := 25) dX11_sheet_24 rfl rfl ?_
      refine s_callS (pc' := 28) (As := [.int _]) dX11_sheet_25 rfl mk_X11_isSort ml_X11_324 sm_X11_isSort rfl rfl ⟨Nat.le_of_ble_eq_true rfl, Nat.le_of_ble_eq_true rfl, Nat.le_of_ble_eq_true rfl, Nat.le_of_ble_eq_true rfl⟩ (Nat.le_of_ble_eq_true rfl) (c_X11_isSort (fun i25 => ?_) (fun i25 => ?_))
      · refine s_ifeqF (pc' := 31) (tgt := 41) dX11_sheet_28 (by decide) rfl (by decide) ?_
        refine s_iload_n (pc' := 32) dX11_sheet_31 rfl rfl ?_
        refine s_iflt (pc' := 35) (tgt := 41) dX11_sheet_32 (by decide) rfl (fun c32 => ?_) (fun c32 => ?_)
        · refine s_aload_n (pc' := 42) dX11_sheet_41 rfl rfl ?_
          refine s_iconst (pc' := 43) (v := 1) dX11_sheet_42 rfl (by decide) ?_
          refine s_callV (pc' := 46) (As := [.int _]) dX11_sheet_43 rfl mk_X11_refused ml_X11_87 im_X11_refused se_X11_X11_X11_refused sh_0 (by decide) rfl rfl rfl ⟨Nat.le_of_ble_eq_true rfl, Nat.le_of_ble_eq_true rfl, Nat.le_of_ble_eq_true rfl, Nat.le_of_ble_eq_true rfl⟩ (Nat.le_of_ble_eq_true rfl) (c_X11_refused ?_)
          exact s_iret dX11_sheet_46 rfl (by decide) (by decide) (k1 (Or.inr (Or.inr ⟨in_nlt i25, in_r1 (a := 0) (by decide) c32⟩)))
        · refine s_iload_n (pc' := 36) dX11_sheet_35 rfl rfl ?_
          refine s_bipush (pc' := 38) (v := 40) dX11_sheet_36 rfl (by decide) ?_
          refine s_icmple (pc' := 41) (tgt := 47) dX11_sheet_38 (by decide) rfl (fun c38 => ?_) (fun c38 => ?_)
          · refine s_aload_n (pc' := 48) dX11_sheet_47 rfl rfl ?_
            refine s_getS (pc' := 51) (b := 51) dX11_sheet_48 rfl (by decide) rfl (by decide) fa_X11_69_11 rfl rfl ?_
            refine s_iload_n (pc' := 52) dX11_sheet_51 rfl rfl ?_
            refine s_iload_n (pc' := 53) dX11_sheet_52 rfl rfl ?_
            refine t_iast (pc' := 54) dX11_sheet_53 rfl sh_51 rfl hs ?_
            refine s_aload_n (pc' := 55) dX11_sheet_54 rfl rfl ?_
            refine s_getS (pc' := 58) (b := 52) dX11_sheet_55 rfl (by decide) rfl (by decide) fa_X11_72_11 rfl rfl ?_
            refine s_iload_n (pc' := 59) dX11_sheet_58 rfl rfl ?_
            refine s_iload (pc' := 61) dX11_sheet_59 rfl rfl ?_
            refine s_ifeqT (tgt := 68) dX11_sheet_61 (by decide) (by decide) ?_
            refine s_iload_n (pc' := 69) dX11_sheet_68 rfl rfl ?_
            refine t_iast (pc' := 70) dX11_sheet_69 rfl sh_52 rfl hs ?_
            refine s_aload_n (pc' := 71) dX11_sheet_70 rfl rfl ?_
            refine s_getS (pc' := 74) (b := 46) dX11_sheet_71 rfl (by decide) rfl (by decide) fa_X11_66_11 rfl rfl ?_
            refine s_iload_n (pc' := 75) dX11_sheet_74 rfl rfl ?_
            refine t_aald (pc' := 76) dX11_sheet_75 rfl (Or.inr rfl) sh_46 rfl hs (hq s hs) ?_
            refine s_iconst (pc' := 77) (v := 0) dX11_sheet_76 rfl (by decide) ?_
            refine s_callS (pc' := 80) (As := [.ref _, .int _]) dX11_sheet_77 rfl mk_J7_fill_53178 ml_X11_327 sm_J7_fill_53178 rfl rfl ⟨Nat.le_of_ble_eq_true rfl, Nat.le_of_ble_eq_true rfl, Nat.le_of_ble_eq_true rfl, Nat.le_of_ble_eq_true rfl⟩ (Nat.le_of_ble_eq_true rfl) (c_J7_fill_53178 (n := 40) (by decide) (sh_47s hs) ?_)
            refine s_aload_n (pc' := 81) dX11_sheet_80 rfl rfl ?_
            refine s_iconst (pc' := 82) (v := 1) dX11_sheet_81 rfl (by decide) ?_
            refine s_callV (pc' := 85) (As := [.int _]) dX11_sheet_82 rfl mk_X11_done ml_X11_100 im_X11_done se_X11_X11_X11_done sh_0 (by decide) rfl rfl rfl ⟨Nat.le_of_ble_eq_true rfl, Nat.le_of_ble_eq_true rfl, Nat.le_of_ble_eq_true rfl, Nat.le_of_ble_eq_true rfl⟩ (Nat.le_of_ble_eq_true rfl) (c_X11_done ?_)
            exact s_iret dX11_sheet_85 rfl (by decide) (by decide) (by have q := k2 s hs rfl (by have := i25; unfold inR at *; omega) (fun _ => in_r (a := 0) (b := 40) (by decide) (by decide) c32 c38); rw [if_neg (in_nlt i25)] at q; exact q)
          · refine s_aload_n (pc' := 42) dX11_sheet_41 rfl rfl ?_
            refine s_iconst (pc' := 43) (v := 1) dX11_sheet_42 rfl (by decide) ?_
            refine s_callV (pc' := 46) (As := [.int _]) dX11_sheet_43 rfl mk_X11_refused ml_X11_87 im_X11_refused se_X11_X11_X11_refused sh_0 (by decide) rfl rfl rfl ⟨Nat.le_of_ble_eq_true rfl, Nat.le_of_ble_eq_true rfl, Nat.le_of_ble_eq_true rfl, Nat.le_of_ble_eq_true rfl⟩ (Nat.le_of_ble_eq_true rfl) (c_X11_refused ?_)
            exact s_iret dX11_sheet_46 rfl (by decide) (by decide) (k1 (Or.inr (Or.inr ⟨in_nlt i25, in_r2 (b := 40) (by decide) c38⟩)))
      · refine s_ifeqT (tgt := 41) dX11_sheet_28 (by decide) (by decide) ?_
        refine s_aload_n (pc' := 42) dX11_sheet_41 rfl rfl ?_
        refine s_iconst (pc' := 43) (v := 1) dX11_sheet_42 rfl (by decide) ?_
        refine s_callV (pc' := 46) (As := [.int _]) dX11_sheet_43 rfl mk_X11_refused ml_X11_87 im_X11_refused se_X11_X11_X11_refused sh_0 (by decide) rfl rfl rfl ⟨Nat.le_of_ble_eq_true rfl, Nat.le_of_ble_eq_true rfl, Nat.le_of_ble_eq_true rfl, Nat.le_of_ble_eq_true rfl⟩ (Nat.le_of_ble_eq_true rfl) (c_X11_refused ?_)
        exact s_iret dX11_sheet_46 rfl (by decide) (by decide) (k1 (Or.inr (Or.inl (fun z => i25 (in_m12 z c2)))))
    · refine s_ifeqT (tgt := 41) dX11_sheet_16 (by decide) (by decide) ?_
      refine s_aload_n (pc' := 42) dX11_sheet_41 rfl rfl ?_
      refine s_iconst (pc' := 43) (v := 1) dX11_sheet_42 rfl (by decide) ?_
      refine s_callV (pc' := 46) (As := [.int _]) dX11_sheet_43 rfl mk_X11_refused ml_X11_87 im_X11_refused se_X11_X11_X11_refused sh_0 (by decide) rfl rfl rfl ⟨Nat.le_of_ble_eq_true rfl, Nat.le_of_ble_eq_true rfl, Nat.le_of_ble_eq_true rfl, Nat.le_of_ble_eq_true rfl⟩ (Nat.le_of_ble_eq_true rfl) (c_X11_refused ?_)
      exact s_iret dX11_sheet_46 rfl (by decide) (by decide) (k1 (Or.inl n13))
  · refine s_iconst (pc' := 6) (v := 1) dX11_sheet_5 rfl (by decide) ?_
    refine s_goto (tgt := 10) dX11_sheet_6 (by decide) ?_
    refine t_istore (pc' := 12) (L' := [.ref 0, .int _, .int _, .int _, .int _]) dX11_sheet_10 rfl (Nat.le_of_ble_eq_true rfl) rfl ?_
    refine s_iload_n (pc' := 13) dX11_sheet_12 rfl rfl ?_
    refine s_callS (pc' := 16) (As := [.int _]) dX11_sheet_13 rfl mk_X11_isRow ml_X11_321 sm_X11_isRow rfl rfl ⟨Nat.le_of_ble_eq_true rfl, Nat.le_of_ble_eq_true rfl, Nat.le_of_ble_eq_true rfl, Nat.le_of_ble_eq_true rfl⟩ (Nat.le_of_ble_eq_true rfl) (c_X11_isRow (fun s hs es => ?_) (fun n13 => ?_))
    · subst es
      refine s_ifeqF (pc' := 19) (tgt := 41) dX11_sheet_16 (by decide) rfl (by decide) ?_
      refine s_iload (pc' := 21) dX11_sheet_19 rfl rfl ?_
      refine s_ifneT (tgt := 47) dX11_sheet_21 (by decide) (by decide) ?_
      refine s_aload_n (pc' := 48) dX11_sheet_47 rfl rfl ?_
      refine s_getS (pc' := 51) (b := 51) dX11_sheet_48 rfl (by decide) rfl (by decide) fa_X11_69_11 rfl rfl ?_
      refine s_iload_n (pc' := 52) dX11_sheet_51 rfl rfl ?_
      refine s_iload_n (pc' := 53) dX11_sheet_52 rfl rfl ?_
      refine t_iast (pc' := 54) dX11_sheet_53 rfl sh_51 rfl hs ?_
      refine s_aload_n (pc' := 55) dX11_sheet_54 rfl rfl ?_
      refine s_getS (pc' := 58) (b := 52) dX11_sheet_55 rfl (by decide) rfl (by decide) fa_X11_72_11 rfl rfl ?_
      refine s_iload_n (pc' := 59) dX11_sheet_58 rfl rfl ?_
      refine s_iload (pc' := 61) dX11_sheet_59 rfl rfl ?_
      refine s_ifeqF (pc' := 64) (tgt := 68) dX11_sheet_61 (by decide) rfl (by decide) ?_
      refine s_iconst (pc' := 65) (v := 0) dX11_sheet_64 rfl (by decide) ?_
      refine s_goto (tgt := 69) dX11_sheet_65 (by decide) ?_
      refine t_iast (pc' := 70) dX11_sheet_69 rfl sh_52 rfl hs ?_
      refine s_aload_n (pc' := 71) dX11_sheet_70 rfl rfl ?_
      refine s_getS (pc' := 74) (b := 46) dX11_sheet_71 rfl (by decide) rfl (by decide) fa_X11_66_11 rfl rfl ?_
      refine s_iload_n (pc' := 75) dX11_sheet_74 rfl rfl ?_
      refine t_aald (pc' := 76) dX11_sheet_75 rfl (Or.inr rfl) sh_46 rfl hs (hq s hs) ?_
      refine s_iconst (pc' := 77) (v := 0) dX11_sheet_76 rfl (by decide) ?_
      refine s_callS (pc' := 80) (As := [.ref _, .int _]) dX11_sheet_77 rfl mk_J7_fill_53178 ml_X11_327 sm_J7_fill_53178 rfl rfl ⟨Nat.le_of_ble_eq_true rfl, Nat.le_of_ble_eq_true rfl, Nat.le_of_ble_eq_true rfl, Nat.le_of_ble_eq_true rfl⟩ (Nat.le_of_ble_eq_true rfl) (c_J7_fill_53178 (n := 40) (by decide) (sh_47s hs) ?_)
      refine s_aload_n (pc' := 81) dX11_sheet_80 rfl rfl ?_
      refine s_iconst (pc' := 82) (v := 1) dX11_sheet_81 rfl (by decide) ?_
      refine s_callV (pc' := 85) (As := [.int _]) dX11_sheet_82 rfl mk_X11_done ml_X11_100 im_X11_done se_X11_X11_X11_done sh_0 (by decide) rfl rfl rfl ⟨Nat.le_of_ble_eq_true rfl, Nat.le_of_ble_eq_true rfl, Nat.le_of_ble_eq_true rfl, Nat.le_of_ble_eq_true rfl⟩ (Nat.le_of_ble_eq_true rfl) (c_X11_done ?_)
      exact s_iret dX11_sheet_85 rfl (by decide) (by decide) (by have q := k2 s hs rfl (by rw [show b = -1 from (by first | exact c2 | exact Decidable.not_not.mp c2)]; exact ⟨by decide, by decide⟩) (fun z => absurd (m1_lt (by first | exact c2 | exact Decidable.not_not.mp c2)) z); rw [if_pos (m1_lt (by first | exact c2 | exact Decidable.not_not.mp c2))] at q; exact q)
    · refine s_ifeqT (tgt := 41) dX11_sheet_16 (by decide) (by decide) ?_
      refine s_aload_n (pc' := 42) dX11_sheet_41 rfl rfl ?_
      refine s_iconst (pc' := 43) (v := 1) dX11_sheet_42 rfl (by decide) ?_
      refine s_callV (pc' := 46) (As := [.int _]) dX11_sheet_43 rfl mk_X11_refused ml_X11_87 im_X11_refused se_X11_X11_X11_refused sh_0 (by decide) rfl rfl rfl ⟨Nat.le_of_ble_eq_true rfl, Nat.le_of_ble_eq_true rfl, Nat.le_of_ble_eq_true rfl, Nat.le_of_ble_eq_true rfl⟩ (Nat.le_of_ble_eq_true rfl) (c_X11_refused ?_)
      exact s_iret dX11_sheet_46 rfl (by decide) (by decide) (k1 (Or.inl n13))
set_option maxHeartbeats 200000 in
theorem c_X11_cell {N : Nat} {S : Nat → Nat × Nat} {I : Nat → Nat → Int32} {J : Nat → Nat → Int64} {Q : Nat → Nat → Option Nat} {κ : Option Value → HP → Prop} {a i v : Int32} (hq : ∀ s, s < 4 → Q 46 s = some (47 + s)) (hS : ∀ s, s < 4 → ∃ z, z ≤ 40 ∧ I 52 s = nI z) (k1 : ((∀ s, s < 4 → a ≠ nI s) ∨ ¬ inR v (-1000) 1000) → κ (some (.int (-1))) (N, S, up2 I 0 5 1, J, Q)) (k2 : ∀ s, s < 4 → a = nI s → inR v (-1000) 1000 →  I 51 s = -1 → κ (some (.int (-1))) (N, S, up2 I 0 5 10, J, Q)) (k3 : ∀ s, s < 4 → a = nI s → inR v (-1000) 1000 →  I 51 s ≠ -1 → ∀ z, z ≤ 40 → I 52 s = nI z → (∀ j, j < z → i ≠ nI j) → κ (some (.int (-1))) (N, S, up2 I 0 5 12, J, Q)) (k4 : ∀ s, s < 4 → a = nI s → inR v (-1000) 1000 →  I 51 s ≠ -1 → ∀ z, z ≤ 40 → I 52 s = nI z → ∀ j, j < z → i = nI j → κ (some (.int 1)) (N, S, up2 (up2 I (47 + s) j (if I 51 s = 0 then v.toInt8.toInt32 else v)) 0 5 0, J, Q)) : CT E1 M_X11_cell [.ref 0, .int a, .int i, .int v] (N, S, I, J, Q) κ := by
  refine ofSP mk_X11_cell (Nat.le_of_ble_eq_true rfl) (L := [.ref 0, .int _, .int _, .int _]) rfl ?_
  refine s_iload_n (pc' := 1) dX11_cell_0 rfl rfl ?_
  refine s_callS (pc' := 4) (As := [.int _]) dX11_cell_1 rfl mk_X11_isRow ml_X11_321 sm_X11_isRow rfl rfl ⟨Nat.le_of_ble_eq_true rfl, Nat.le_of_ble_eq_true rfl, Nat.le_of_ble_eq_true rfl, Nat.le_of_ble_eq_true rfl⟩ (Nat.le_of_ble_eq_true rfl) (c_X11_isRow (fun s hs es => ?_) (fun n1 => ?_))
  · subst es
    refine s_ifeqF (pc' := 7) (tgt := 17) dX11_cell_4 (by decide) rfl (by decide) ?_
    refine s_iload_n (pc' := 8) dX11_cell_7 rfl rfl ?_
    refine s_sipush (pc' := 11) (v := 1000) dX11_cell_8 rfl (by decide) ?_
    refine s_callS (pc' := 14) (As := [.int _, .int _]) dX11_cell_11 rfl mk_X11_isWithin ml_X11_79 sm_X11_isWithin rfl rfl ⟨Nat.le_of_ble_eq_true rfl, Nat.le_of_ble_eq_true rfl, Nat.le_of_ble_eq_true rfl, Nat.le_of_ble_eq_true rfl⟩ (Nat.le_of_ble_eq_true rfl) (c_X11_isWithin (m := 1000) (by decide) (fun i11 => ?_) (fun i11 => ?_))
    · refine s_ifneT (tgt := 23) dX11_cell_14 (by decide) (by decide) ?_
      refine s_aload_n (pc' := 24) dX11_cell_23 rfl rfl ?_
      refine s_getS (pc' := 27) (b := 51) dX11_cell_24 rfl (by decide) rfl (by decide) fa_X11_69_11 rfl rfl ?_
      refine s_iload_n (pc' := 28) dX11_cell_27 rfl rfl ?_
      refine t_iald (pc' := 29) dX11_cell_28 rfl sh_51 rfl hs ?_
      refine s_iconst (pc' := 30) (v := -1) dX11_cell_29 rfl (by decide) ?_
      refine s_icmpne (pc' := 33) (tgt := 40) dX11_cell_30 (by decide) rfl (fun c30 => ?_) (fun c30 => ?_)
      · refine s_iload_n (pc' := 41) dX11_cell_40 rfl rfl ?_
        refine s_iflt (pc' := 44) (tgt := 54) dX11_cell_41 (by decide) rfl (fun c41 => ?_) (fun c41 => ?_)
        · refine s_aload_n (pc' := 55) dX11_cell_54 rfl rfl ?_
          refine s_bipush (pc' := 57) (v := 12) dX11_cell_55 rfl (by decide) ?_
          refine s_callV (pc' := 60) (As := [.int _]) dX11_cell_57 rfl mk_X11_refused ml_X11_87 im_X11_refused se_X11_X11_X11_refused sh_0 (by decide) rfl rfl rfl ⟨Nat.le_of_ble_eq_true rfl, Nat.le_of_ble_eq_true rfl, Nat.le_of_ble_eq_true rfl, Nat.le_of_ble_eq_true rfl⟩ (Nat.le_of_ble_eq_true rfl) (c_X11_refused ?_)
          exact s_iret dX11_cell_60 rfl (by decide) (by decide) (by obtain ⟨z, z1, z2⟩ := hS s hs; exact k3 s hs rfl i11 c30 z z1 z2 (fun j hj e => nI_pos (n := j) (by omega) (e ▸ c41)))
        · refine s_iload_n (pc' := 45) dX11_cell_44 rfl rfl ?_
          refine s_aload_n (pc' := 46) dX11_cell_45 rfl rfl ?_
          refine s_getS (pc' := 49) (b := 52) dX11_cell_46 rfl (by decide) rfl (by decide) fa_X11_72_11 rfl rfl ?_
          refine s_iload_n (pc' := 50) dX11_cell_49 rfl rfl ?_
          refine t_iald (pc' := 51) dX11_cell_50 rfl sh_52 rfl hs ?_
          refine s_icmplt (pc' := 54) (tgt := 61) dX11_cell_51 (by decide) rfl (fun c51 => ?_) (fun c51 => ?_)
          · obtain ⟨z, z1, z2⟩ := hS s hs
            rw [z2] at c51
            obtain ⟨j, hj, ej⟩ := ix_in c41 (Int32.not_le.mpr c51) (by omega)
            refine s_aload_n (pc' := 62) dX11_cell_61 rfl rfl ?_
            refine s_getS (pc' := 65) (b := 46) dX11_cell_62 rfl (by decide) rfl (by decide) fa_X11_66_11 rfl rfl ?_
            refine s_iload_n (pc' := 66) dX11_cell_65 rfl rfl ?_
            refine t_aald (pc' := 67) dX11_cell_66 rfl (Or.inr rfl) sh_46 rfl hs (hq s hs) ?_
            refine s_iload_n (pc' := 68) dX11_cell_67 rfl rfl ?_
            refine s_aload_n (pc' := 69) dX11_cell_68 rfl rfl ?_
            refine s_getS (pc' := 72) (b := 51) dX11_cell_69 rfl (by decide) rfl (by decide) fa_X11_69_11 rfl rfl ?_
            refine s_iload_n (pc' := 73) dX11_cell_72 rfl rfl ?_
            refine t_iald (pc' := 74) dX11_cell_73 rfl sh_51 rfl hs ?_
            refine s_ifne (pc' := 77) (tgt := 82) dX11_cell_74 (by decide) rfl (fun c74 => ?_) (fun c74 => ?_)
            · refine s_iload_n (pc' := 83) dX11_cell_82 rfl rfl ?_
              refine t_iast (pc' := 84) dX11_cell_83 rfl (sh_47s hs) ej (by omega) ?_
              refine s_aload_n (pc' := 85) dX11_cell_84 rfl rfl ?_
              refine s_iconst (pc' := 86) (v := 1) dX11_cell_85 rfl (by decide) ?_
              refine s_callV (pc' := 89) (As := [.int _]) dX11_cell_86 rfl mk_X11_done ml_X11_100 im_X11_done se_X11_X11_X11_done sh_0 (by decide) rfl rfl rfl ⟨Nat.le_of_ble_eq_true rfl, Nat.le_of_ble_eq_true rfl, Nat.le_of_ble_eq_true rfl, Nat.le_of_ble_eq_true rfl⟩ (Nat.le_of_ble_eq_true rfl) (c_X11_done ?_)
              exact s_iret dX11_cell_89 rfl (by decide) (by decide) (by have q := k4 s hs rfl i11 c30 z z1 z2 j hj ej; rw [if_neg c74] at q; exact q)
            · refine s_iload_n (pc' := 78) dX11_cell_77 rfl rfl ?_
              refine s_i2b (pc' := 79) dX11_cell_78 rfl ?_
              refine s_goto (tgt := 83) dX11_cell_79 (by decide) ?_
              refine t_iast (pc' := 84) dX11_cell_83 rfl (sh_47s hs) ej (by omega) ?_
              refine s_aload_n (pc' := 85) dX11_cell_84 rfl rfl ?_
              refine s_iconst (pc' := 86) (v := 1) dX11_cell_85 rfl (by decide) ?_
              refine s_callV (pc' := 89) (As := [.int _]) dX11_cell_86 rfl mk_X11_done ml_X11_100 im_X11_done se_X11_X11_X11_done sh_0 (by decide) rfl rfl rfl ⟨Nat.le_of_ble_eq_true rfl, Nat.le_of_ble_eq_true rfl, Nat.le_of_ble_eq_true rfl, Nat.le_of_ble_eq_true rfl⟩ (Nat.le_of_ble_eq_true rfl) (c_X11_done ?_)
              exact s_iret dX11_cell_89 rfl (by decide) (by decide) (by have q := k4 s hs rfl i11 c30 z z1 z2 j hj ej; rw [if_pos (by first | exact c74 | exact Decidable.not_not.mp c74)] at q; exact q)
          · refine s_aload_n (pc' := 55) dX11_cell_54 rfl rfl ?_
            refine s_bipush (pc' := 57) (v := 12) dX11_cell_55 rfl (by decide) ?_
            refine s_callV (pc' := 60) (As := [.int _]) dX11_cell_57 rfl mk_X11_refused ml_X11_87 im_X11_refused se_X11_X11_X11_refused sh_0 (by decide) rfl rfl rfl ⟨Nat.le_of_ble_eq_true rfl, Nat.le_of_ble_eq_true rfl, Nat.le_of_ble_eq_true rfl, Nat.le_of_ble_eq_true rfl⟩ (Nat.le_of_ble_eq_true rfl) (c_X11_refused ?_)
            exact s_iret dX11_cell_60 rfl (by decide) (by decide) (by obtain ⟨z, z1, z2⟩ := hS s hs; rw [z2] at c51; exact k3 s hs rfl i11 c30 z z1 z2 (fun j hj e => c51 (by rw [e]; exact nI_lt hj (by omega))))
      · refine s_aload_n (pc' := 34) dX11_cell_33 rfl rfl ?_
        refine s_bipush (pc' := 36) (v := 10) dX11_cell_34 rfl (by decide) ?_
        refine s_callV (pc' := 39) (As := [.int _]) dX11_cell_36 rfl mk_X11_refused ml_X11_87 im_X11_refused se_X11_X11_X11_refused sh_0 (by decide) rfl rfl rfl ⟨Nat.le_of_ble_eq_true rfl, Nat.le_of_ble_eq_true rfl, Nat.le_of_ble_eq_true rfl, Nat.le_of_ble_eq_true rfl⟩ (Nat.le_of_ble_eq_true rfl) (c_X11_refused ?_)
        exact s_iret dX11_cell_39 rfl (by decide) (by decide) (k2 s hs rfl i11 (by first | exact c30 | exact Decidable.not_not.mp c30))
    · refine s_ifneF (pc' := 17) (tgt := 23) dX11_cell_14 (by decide) rfl (by decide) ?_
      refine s_aload_n (pc' := 18) dX11_cell_17 rfl rfl ?_
      refine s_iconst (pc' := 19) (v := 1) dX11_cell_18 rfl (by decide) ?_
      refine s_callV (pc' := 22) (As := [.int _]) dX11_cell_19 rfl mk_X11_refused ml_X11_87 im_X11_refused se_X11_X11_X11_refused sh_0 (by decide) rfl rfl rfl ⟨Nat.le_of_ble_eq_true rfl, Nat.le_of_ble_eq_true rfl, Nat.le_of_ble_eq_true rfl, Nat.le_of_ble_eq_true rfl⟩ (Nat.le_of_ble_eq_true rfl) (c_X11_refused ?_)
      exact s_iret dX11_cell_22 rfl (by decide) (by decide) (k1 (Or.inr i11))
  · refine s_ifeqT (tgt := 17) dX11_cell_4 (by decide) (by decide) ?_
    refine s_aload_n (pc' := 18) dX11_cell_17 rfl rfl ?_
    refine s_iconst (pc' := 19) (v := 1) dX11_cell_18 rfl (by decide) ?_
    refine s_callV (pc' := 22) (As := [.int _]) dX11_cell_19 rfl mk_X11_refused ml_X11_87 im_X11_refused se_X11_X11_X11_refused sh_0 (by decide) rfl rfl rfl ⟨Nat.le_of_ble_eq_true rfl, Nat.le_of_ble_eq_true rfl, Nat.le_of_ble_eq_true rfl, Nat.le_of_ble_eq_true rfl⟩ (Nat.le_of_ble_eq_true rfl) (c_X11_refused ?_)
    exact s_iret dX11_cell_22 rfl (by decide) (by decide) (k1 (Or.inl n1))
