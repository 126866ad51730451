theorem dpk {N : Nat} {S : Nat → Nat × Nat} {I : Nat → Nat → Int32} {J : Nat → Nat → Int64} {Q : Nat → Nat → Option Nat} {D : Nat → Nat → Int32} {nv nr ns e v : Nat} {ad td : Nat → Nat} (X : XB N S I J Q D nv nr ns ad td e) (hv : v < nv) : I 5 v &&& 7 = D 57 v ∧ I 5 v >>> ((3 : Int32) &&& 31) = D 58 v := by
  have h5 : I 5 v = D 57 v + 8 * D 58 v := (X.1.2.1 v hv).2.2.2.1
  obtain ⟨-, -, -, h3, h4⟩ := X.2.1.2.2.1 v hv
  rw [h5]
  by_cases hk : D 55 v = 3
  · obtain ⟨c, s, c1, c2, c3, c4, e1, e2⟩ := h3 hk
    rw [e1, e2]
    have e : nI c + 8 * nI s = nI (c + 8 * s) := by show nI c + nI 8 * nI s = _; rw [pk_mul, nI_add]
    rw [e, and7 (by omega), shr3 (by omega)]
    exact ⟨by congr 1; omega, by congr 1; omega⟩
  · obtain ⟨e1, e2⟩ := h4 hk
    rw [e1, e2]; decide
set_option maxHeartbeats 200000 in
theorem c_X11_valueTold {N : Nat} {S : Nat → Nat × Nat} {I : Nat → Nat → Int32} {J : Nat → Nat → Int64} {Q : Nat → Nat → Option Nat} {κ : Option Value → HP → Prop} {D : Nat → Nat → Int32} {nv nr ns : Nat} {ad td : Nat → Nat} {e : Nat} (X : XB N S I J Q D nv nr ns ad td e) {md : Nat} (hm : D 75 3 = nI md) (hmd : md < 256) {x w : Int32} (k0 : ((∀ j, j < nv → x ≠ nI j) ∨ ¬ inR w 0 5) → κ (some (.int (-1000))) (N, S, I, J, Q)) (k1 : ∀ v, v < nv → x = nI v → ∀ u, u < 5 → w = nI u → κ (some (.int (vtS D v u))) (N, S, I, J, Q)) (k2 : ∀ v, v < nv → x = nI v → w = nI 5 → ∀ I' J' Q', WQ I I' J J' Q Q' → XB N S I' J' Q' D nv nr ns ad td e → κ (some (.int (b2 (qrS D (nI md) (gS D nv nr ns md) (thS D (nI md) nr) (nI v) nr)))) (N, S, I', J', Q')) : CT E1 M_X11_valueTold [.ref 0, .int x, .int w] (N, S, I, J, Q) κ := by
  refine ofSP mk_X11_valueTold (Nat.le_of_ble_eq_true rfl) (L := [.ref 0, .int _, .int _]) rfl ?_
  refine s_aload_n (pc' := 1) dX11_valueTold_0 rfl rfl ?_
  refine s_iload_n (pc' := 2) dX11_valueTold_1 rfl rfl ?_
  refine s_callV (pc' := 5) (As := [.int _]) dX11_valueTold_2 rfl mk_X11_isValue ml_X11_113 im_X11_isValue se_X11_X11_X11_isValue sh_0 (by decide) rfl rfl rfl ⟨Nat.le_of_ble_eq_true rfl, Nat.le_of_ble_eq_true rfl, Nat.le_of_ble_eq_true rfl, Nat.le_of_ble_eq_true rfl⟩ (Nat.le_of_ble_eq_true rfl) (c_X11_isValue X.1.xv (by have := X.2.1.nv; omega) (fun j2 hj2 e2 => ?_) (fun n2 => ?_))
  · subst e2
    refine s_ifneT (tgt := 12) dX11_valueTold_5 (by decide) (by decide) ?_
    refine s_iload_n (pc' := 13) dX11_valueTold_12 rfl rfl ?_
    by_cases hin : inR w 0 (5 : Nat)
    · obtain ⟨kw, hkw, ekw⟩ := in_n hin
      rcases (show kw = 0 ∨ kw = 1 ∨ kw = 2 ∨ kw = 3 ∨ kw = 4 ∨ kw = 5 by omega) with e6 | e6 | e6 | e6 | e6 | e6
      · rw [e6] at ekw
        refine s_tabIn (tgt := 52) (off := 39) dX11_valueTold_13 (by rw [ekw]; decide) (by rw [ekw]; decide) (by rw [ekw]; rfl) (by decide) ?_
        refine s_aload_n (pc' := 53) dX11_valueTold_52 rfl rfl ?_
        refine s_getS (pc' := 56) (b := 1) dX11_valueTold_53 rfl (by decide) rfl (by decide) fa_X11_10_11 rfl rfl ?_
        refine s_getS (pc' := 59) (b := 2) dX11_valueTold_56 rfl (by decide) rfl (by decide) fa_X11_179_8 rfl rfl ?_
        refine s_iload_n (pc' := 60) dX11_valueTold_59 rfl rfl ?_
        refine t_iald (pc' := 61) dX11_valueTold_60 rfl sh_2 rfl (by have := X.2.1.nv; omega) ?_
        exact s_iret dX11_valueTold_61 rfl (by decide) (by decide) (by have q := k1 j2 hj2 rfl 0 (by decide) ekw; rw [show I 2 j2 = D 55 j2 from (X.1.2.1 j2 hj2).1]; exact q)
      · rw [e6] at ekw
        refine s_tabIn (tgt := 62) (off := 49) dX11_valueTold_13 (by rw [ekw]; decide) (by rw [ekw]; decide) (by rw [ekw]; rfl) (by decide) ?_
        refine s_aload_n (pc' := 63) dX11_valueTold_62 rfl rfl ?_
        refine s_getS (pc' := 66) (b := 1) dX11_valueTold_63 rfl (by decide) rfl (by decide) fa_X11_10_11 rfl rfl ?_
        refine s_getS (pc' := 69) (b := 3) dX11_valueTold_66 rfl (by decide) rfl (by decide) fa_X11_182_8 rfl rfl ?_
        refine s_iload_n (pc' := 70) dX11_valueTold_69 rfl rfl ?_
        refine t_iald (pc' := 71) dX11_valueTold_70 rfl sh_3 rfl (by have := X.2.1.nv; omega) ?_
        exact s_iret dX11_valueTold_71 rfl (by decide) (by decide) (by have q := k1 j2 hj2 rfl 1 (by decide) ekw; rw [show I 3 j2 = D 56 j2 from (X.1.2.1 j2 hj2).2.1]; exact q)
      · rw [e6] at ekw
        refine s_tabIn (tgt := 72) (off := 59) dX11_valueTold_13 (by rw [ekw]; decide) (by rw [ekw]; decide) (by rw [ekw]; rfl) (by decide) ?_
        refine s_aload_n (pc' := 73) dX11_valueTold_72 rfl rfl ?_
        refine s_getS (pc' := 76) (b := 1) dX11_valueTold_73 rfl (by decide) rfl (by decide) fa_X11_10_11 rfl rfl ?_
        refine s_getS (pc' := 79) (b := 4) dX11_valueTold_76 rfl (by decide) rfl (by decide) fa_X11_173_8 rfl rfl ?_
        refine s_iload_n (pc' := 80) dX11_valueTold_79 rfl rfl ?_
        refine t_iald (pc' := 81) dX11_valueTold_80 rfl sh_4 rfl (by have := X.2.1.nv; omega) ?_
        exact s_iret dX11_valueTold_81 rfl (by decide) (by decide) (by have q := k1 j2 hj2 rfl 2 (by decide) ekw; rw [show I 4 j2 = D 59 j2 from (X.1.2.1 j2 hj2).2.2.1]; exact q)
      · rw [e6] at ekw
        refine s_tabIn (tgt := 82) (off := 69) dX11_valueTold_13 (by rw [ekw]; decide) (by rw [ekw]; decide) (by rw [ekw]; rfl) (by decide) ?_
        refine s_aload_n (pc' := 83) dX11_valueTold_82 rfl rfl ?_
        refine s_getS (pc' := 86) (b := 1) dX11_valueTold_83 rfl (by decide) rfl (by decide) fa_X11_10_11 rfl rfl ?_
        refine s_iload_n (pc' := 87) dX11_valueTold_86 rfl rfl ?_
        refine s_callV (pc' := 90) (As := [.int _]) dX11_valueTold_87 rfl mk_X8_diceCount ml_X11_185 im_X8_diceCount se_X8_X8_X8_diceCount sh_1 (by decide) rfl rfl rfl ⟨Nat.le_of_ble_eq_true rfl, Nat.le_of_ble_eq_true rfl, Nat.le_of_ble_eq_true rfl, Nat.le_of_ble_eq_true rfl⟩ (Nat.le_of_ble_eq_true rfl) (c_X8_diceCount (by have := X.2.1.nv; omega) ?_)
        exact s_iret dX11_valueTold_90 rfl (by decide) (by decide) (by have q := k1 j2 hj2 rfl 3 (by decide) ekw; rw [(dpk X hj2).1]; exact q)
      · rw [e6] at ekw
        refine s_tabIn (tgt := 91) (off := 78) dX11_valueTold_13 (by rw [ekw]; decide) (by rw [ekw]; decide) (by rw [ekw]; rfl) (by decide) ?_
        refine s_aload_n (pc' := 92) dX11_valueTold_91 rfl rfl ?_
        refine s_getS (pc' := 95) (b := 1) dX11_valueTold_92 rfl (by decide) rfl (by decide) fa_X11_10_11 rfl rfl ?_
        refine s_iload_n (pc' := 96) dX11_valueTold_95 rfl rfl ?_
        refine s_callV (pc' := 99) (As := [.int _]) dX11_valueTold_96 rfl mk_X8_diceSides ml_X11_188 im_X8_diceSides se_X8_X8_X8_diceSides sh_1 (by decide) rfl rfl rfl ⟨Nat.le_of_ble_eq_true rfl, Nat.le_of_ble_eq_true rfl, Nat.le_of_ble_eq_true rfl, Nat.le_of_ble_eq_true rfl⟩ (Nat.le_of_ble_eq_true rfl) (c_X8_diceSides (by have := X.2.1.nv; omega) ?_)
        exact s_iret dX11_valueTold_99 rfl (by decide) (by decide) (by have q := k1 j2 hj2 rfl 4 (by decide) ekw; rw [(dpk X hj2).2]; exact q)
      · rw [e6] at ekw
        refine s_tabIn (tgt := 100) (off := 87) dX11_valueTold_13 (by rw [ekw]; decide) (by rw [ekw]; decide) (by rw [ekw]; rfl) (by decide) ?_
        refine s_aload_n (pc' := 101) dX11_valueTold_100 rfl rfl ?_
        refine s_callV (pc' := 104) (As := []) dX11_valueTold_101 rfl mk_X11_reckonedNow ml_X11_191 im_X11_reckonedNow se_X11_X11_X11_reckonedNow sh_0 (by decide) rfl rfl rfl ⟨Nat.le_of_ble_eq_true rfl, Nat.le_of_ble_eq_true rfl, Nat.le_of_ble_eq_true rfl, Nat.le_of_ble_eq_true rfl⟩ (Nat.le_of_ble_eq_true rfl) (c_X11_reckonedNow X hm hmd (fun I1 J1 Q1 w1 X1 r1 => ?_))
        have hg := r1.gs X.2.1 X.2.2.1
        refine t_getI (pc' := 107) dX11_valueTold_104 rfl sh_24 (by decide) fa_X11_195_5 rfl ?_
        refine s_iload_n (pc' := 108) dX11_valueTold_107 rfl rfl ?_
        refine s_callS (pc' := 111) (As := [.int _, .int _]) dX11_valueTold_108 rfl mk_X11_hasBit ml_X11_145 sm_X11_hasBit rfl rfl ⟨Nat.le_of_ble_eq_true rfl, Nat.le_of_ble_eq_true rfl, Nat.le_of_ble_eq_true rfl, Nat.le_of_ble_eq_true rfl⟩ (Nat.le_of_ble_eq_true rfl) (e_hasBit (j := j2) rfl (by have := X.2.1.nv; omega) (fun b108 => ?_) (fun b108 => ?_))
        · refine s_callS (pc' := 114) (As := [.int _]) dX11_valueTold_111 rfl mk_X11_bit ml_X11_200 sm_X11_bit rfl rfl ⟨Nat.le_of_ble_eq_true rfl, Nat.le_of_ble_eq_true rfl, Nat.le_of_ble_eq_true rfl, Nat.le_of_ble_eq_true rfl⟩ (Nat.le_of_ble_eq_true rfl) (c_X11_bit (fun _ => ?_) (fun z => absurd z (by decide)))
          exact s_iret dX11_valueTold_114 rfl (by decide) (by decide) (by have q := k2 j2 hj2 rfl ekw I1 J1 Q1 w1.q X1; rw [← ((r1.2.2.2.1 j2 hj2).gs X.2.1 hg).2, b108] at q; exact q)
        · refine s_callS (pc' := 114) (As := [.int _]) dX11_valueTold_111 rfl mk_X11_bit ml_X11_200 sm_X11_bit rfl rfl ⟨Nat.le_of_ble_eq_true rfl, Nat.le_of_ble_eq_true rfl, Nat.le_of_ble_eq_true rfl, Nat.le_of_ble_eq_true rfl⟩ (Nat.le_of_ble_eq_true rfl) (c_X11_bit (fun z => absurd rfl z) (fun _ => ?_))
          exact s_iret dX11_valueTold_114 rfl (by decide) (by decide) (by have q := k2 j2 hj2 rfl ekw I1 J1 Q1 w1.q X1; rw [← ((r1.2.2.2.1 j2 hj2).gs X.2.1 hg).2, b108] at q; exact q)
    · refine s_tabOut (tgt := 115) dX11_valueTold_13 (by (try decide); exact out8 hin) (by decide) ?_
      refine s_sipush (pc' := 118) (v := -1000) dX11_valueTold_115 rfl (by decide) ?_
      exact s_iret dX11_valueTold_118 rfl (by decide) (by decide) (k0 (Or.inr hin))
  · refine s_ifneF (pc' := 8) (tgt := 12) dX11_valueTold_5 (by decide) rfl (by decide) ?_
    refine s_sipush (pc' := 11) (v := -1000) dX11_valueTold_8 rfl (by decide) ?_
    exact s_iret dX11_valueTold_11 rfl (by decide) (by decide) (k0 (Or.inl n2))
set_option maxHeartbeats 200000 in
theorem c_X11_ruleTold {N : Nat} {S : Nat → Nat × Nat} {I : Nat → Nat → Int32} {J : Nat → Nat → Int64} {Q : Nat → Nat → Option Nat} {κ : Option Value → HP → Prop} {D : Nat → Nat → Int32} {nv nr ns : Nat} {ad td : Nat → Nat} {e : Nat} (X : XB N S I J Q D nv nr ns ad td e) {md : Nat} (hm : D 75 3 = nI md) (hmd : md < 256) (hT : ∀ r, r < nr → D 60 r ≠ 1 → D 64 r = 0) {x w : Int32} (k0 : ((∀ j, j < nr → x ≠ nI j) ∨ ¬ inR w 0 8) → κ (some (.int (-1))) (N, S, I, J, Q)) (k1 : ∀ r, r < nr → x = nI r → ∀ u, u < 5 → w = nI u → κ (some (.int (rtS D r u))) (N, S, I, J, Q)) (k2 : ∀ r, r < nr → x = nI r → ∀ u, 5 ≤ u → u ≤ 8 → w = nI u → ∀ I' J' Q', WQ I I' J J' Q Q' → XB N S I' J' Q' D nv nr ns ad td e → κ (some (.int (rtN D nv nr ns md r u))) (N, S, I', J', Q')) : CT E1 M_X11_ruleTold [.ref 0, .int x, .int w] (N, S, I, J, Q) κ := by
  refine ofSP mk_X11_ruleTold (Nat.le_of_ble_eq_true rfl) (L := [.ref 0, .int _, .int _, .retAddr _, .retAddr _]) rfl ?_
  refine s_aload_n (pc' := 1) dX11_ruleTold_0 rfl rfl ?_
  refine s_iload_n (pc' := 2) dX11_ruleTold_1 rfl rfl ?_
  refine s_callV (pc' := 5) (As := [.int _]) dX11_ruleTold_2 rfl mk_X11_ruleOrNull ml_X11_216 im_X11_ruleOrNull se_X11_X11_X11_ruleOrNull sh_0 (by decide) rfl rfl rfl ⟨Nat.le_of_ble_eq_true rfl, Nat.le_of_ble_eq_true rfl, Nat.le_of_ble_eq_true rfl, Nat.le_of_ble_eq_true rfl⟩ (Nat.le_of_ble_eq_true rfl) (c_X11_ruleOrNull X.1.xr X.2.1.nr (fun r hr => ⟨_, X.1.q hr⟩) (fun r a hr er ha => ?_) (fun nn => ?_))
  · obtain rfl : a = ad r := Option.some.inj (ha.symm.trans (X.1.q hr))
    subst er
    have R := X.1.ro hr
    refine t_astore_n (pc' := 6) (L' := [.ref 0, .int _, .int _, .ref _, .retAddr _]) dX11_ruleTold_5 rfl (Nat.le_of_ble_eq_true rfl) rfl ?_
    refine s_aload_n (pc' := 7) dX11_ruleTold_6 rfl rfl ?_
    refine s_ifnonnull (tgt := 12) dX11_ruleTold_7 (by decide) ?_
    have hn30 := X.2.1.nr
    refine s_iload_n (pc' := 13) dX11_ruleTold_12 rfl rfl ?_
    by_cases hin : inR w 0 (8 : Nat)
    · obtain ⟨kw, hkw, ekw⟩ := in_n hin
      rcases (show kw = 0 ∨ kw = 1 ∨ kw = 2 ∨ kw = 3 ∨ kw = 4 ∨ kw = 5 ∨ kw = 6 ∨ kw = 7 ∨ kw = 8 by omega) with e6 | e6 | e6 | e6 | e6 | e6 | e6 | e6 | e6
      · rw [e6] at ekw
        refine s_tabIn (tgt := 64) (off := 51) dX11_ruleTold_13 (by rw [ekw]; decide) (by rw [ekw]; decide) (by rw [ekw]; rfl) (by decide) ?_
        refine s_aload_n (pc' := 65) dX11_ruleTold_64 rfl rfl ?_
        refine t_getI (pc' := 68) (j := 0) dX11_ruleTold_65 rfl R.sh (rk_lt (kc_rk _)) (fr_X11_220 (kc_rk _)) (by rw [rk_ft (kc_rk _) (by decide)]; rfl) ?_
        exact s_iret dX11_ruleTold_68 rfl (by decide) (by decide) (by have q := k1 r hr rfl 0 (by decide) ekw; rw [R.f0]; exact q)
      · rw [e6] at ekw
        refine s_tabIn (tgt := 69) (off := 56) dX11_ruleTold_13 (by rw [ekw]; decide) (by rw [ekw]; decide) (by rw [ekw]; rfl) (by decide) ?_
        refine s_aload_n (pc' := 70) dX11_ruleTold_69 rfl rfl ?_
        refine t_getI (pc' := 73) (j := 3) dX11_ruleTold_70 rfl R.sh (rk_lt (kc_rk _)) (fr_X11_225 (kc_rk _)) (by rw [rk_ft (kc_rk _) (by decide)]; rfl) ?_
        exact s_iret dX11_ruleTold_73 rfl (by decide) (by decide) (by have q := k1 r hr rfl 1 (by decide) ekw; rw [R.f3]; exact q)
      · rw [e6] at ekw
        refine s_tabIn (tgt := 74) (off := 61) dX11_ruleTold_13 (by rw [ekw]; decide) (by rw [ekw]; decide) (by rw [ekw]; rfl) (by decide) ?_
        refine s_aload_n (pc' := 75) dX11_ruleTold_74 rfl rfl ?_
        refine t_getI (pc' := 78) (j := 4) dX11_ruleTold_75 rfl R.sh (rk_lt (kc_rk _)) (fr_X11_228 (kc_rk _)) (by rw [rk_ft (kc_rk _) (by decide)]; rfl) ?_
        exact s_iret dX11_ruleTold_78 rfl (by decide) (by decide) (by have q := k1 r hr rfl 2 (by decide) ekw; rw [R.f4]; exact q)
      · rw [e6] at ekw
        refine s_tabIn (tgt := 79) (off := 66) dX11_ruleTold_13 (by rw [ekw]; decide) (by rw [ekw]; decide) (by rw [ekw]; rfl) (by decide) ?_
        refine s_aload_n (pc' := 80) dX11_ruleTold_79 rfl rfl ?_
        refine t_getI (pc' := 83) (j := 5) dX11_ruleTold_80 rfl R.sh (rk_lt (kc_rk _)) (fr_X11_231 (kc_rk _)) (by rw [rk_ft (kc_rk _) (by decide)]; rfl) ?_
        exact s_iret dX11_ruleTold_83 rfl (by decide) (by decide) (by have q := k1 r hr rfl 3 (by decide) ekw; rw [R.f5]; exact q)
      · rw [e6] at ekw
        refine s_tabIn (tgt := 84) (off := 71) dX11_ruleTold_13 (by rw [ekw]; decide) (by rw [ekw]; decide) (by rw [ekw]; rfl) (by decide) ?_
        refine s_aload_n (pc' := 85) dX11_ruleTold_84 rfl rfl ?_
        refine i_typed (pc' := 88) dX11_ruleTold_85 rfl R.sh cl_X11_131 (fun k85 => ?_) (fun k85 => ?_)
        · refine s_ifeqF (pc' := 91) (tgt := 105) dX11_ruleTold_88 (by decide) rfl (by decide) ?_
          refine s_aload_n (pc' := 92) dX11_ruleTold_91 rfl rfl ?_
          refine i_castT (pc' := 95) dX11_ruleTold_92 rfl (kc1 k85 R.sh) cl_X11_131 ?_
          refine t_astore (pc' := 97) (L' := [.ref 0, .int _, .int _, .ref _, .ref _]) dX11_ruleTold_95 rfl (Nat.le_of_ble_eq_true rfl) rfl ?_
          refine s_aload (pc' := 99) dX11_ruleTold_97 rfl rfl ?_
          refine t_getI (pc' := 102) dX11_ruleTold_99 rfl (kc1 k85 R.sh) (by decide) fa_X11_234_10 rfl ?_
          refine s_goto (tgt := 106) dX11_ruleTold_102 (by decide) ?_
          exact s_iret dX11_ruleTold_106 rfl (by decide) (by decide) (by have q := k1 r hr rfl 4 (by decide) ekw; rw [R.f10 k85]; exact q)
        · refine s_ifeqT (tgt := 105) dX11_ruleTold_88 (by decide) (by decide) ?_
          refine s_iconst (pc' := 106) (v := 0) dX11_ruleTold_105 rfl (by decide) ?_
          exact s_iret dX11_ruleTold_106 rfl (by decide) (by decide) (by have q := k1 r hr rfl 4 (by decide) ekw; rw [show rtS D r 4 = 0 from hT r hr k85] at q; exact q)
      · rw [e6] at ekw
        refine s_tabIn (tgt := 107) (off := 94) dX11_ruleTold_13 (by rw [ekw]; decide) (by rw [ekw]; decide) (by rw [ekw]; rfl) (by decide) ?_
        refine s_aload_n (pc' := 108) dX11_ruleTold_107 rfl rfl ?_
        refine s_callV (pc' := 111) (As := []) dX11_ruleTold_108 rfl mk_X11_reckonedNow ml_X11_191 im_X11_reckonedNow se_X11_X11_X11_reckonedNow sh_0 (by decide) rfl rfl rfl ⟨Nat.le_of_ble_eq_true rfl, Nat.le_of_ble_eq_true rfl, Nat.le_of_ble_eq_true rfl, Nat.le_of_ble_eq_true rfl⟩ (Nat.le_of_ble_eq_true rfl) (c_X11_reckonedNow X hm hmd (fun I1 J1 Q1 w1 X1 r1 => ?_))
        have hg := r1.gs X.2.1 X.2.2.1
        refine t_getI (pc' := 114) dX11_ruleTold_111 rfl sh_24 (by decide) fa_X11_237_5 rfl ?_
        refine s_iload_n (pc' := 115) dX11_ruleTold_114 rfl rfl ?_
        refine s_callS (pc' := 118) (As := [.int _, .int _]) dX11_ruleTold_115 rfl mk_X11_hasBit ml_X11_145 sm_X11_hasBit rfl rfl ⟨Nat.le_of_ble_eq_true rfl, Nat.le_of_ble_eq_true rfl, Nat.le_of_ble_eq_true rfl, Nat.le_of_ble_eq_true rfl⟩ (Nat.le_of_ble_eq_true rfl) (e_hasBit (j := r) rfl (by omega) (fun b115 => ?_) (fun b115 => ?_))
        · refine s_callS (pc' := 121) (As := [.int _]) dX11_ruleTold_118 rfl mk_X11_bit ml_X11_200 sm_X11_bit rfl rfl ⟨Nat.le_of_ble_eq_true rfl, Nat.le_of_ble_eq_true rfl, Nat.le_of_ble_eq_true rfl, Nat.le_of_ble_eq_true rfl⟩ (Nat.le_of_ble_eq_true rfl) (c_X11_bit (fun _ => ?_) (fun z => absurd z (by decide)))
          exact s_iret dX11_ruleTold_121 rfl (by decide) (by decide) (by
    have q := k2 r hr rfl 5 (by decide) (by decide) ekw I1 J1 Q1 w1.q X1
    unfold rtN at q
    rw [if_pos rfl, decide_eq_true ((bitI_1 (by omega)).mpr (by rw [← r1.2.1]; exact b115))] at q
    exact q)
        · refine s_callS (pc' := 121) (As := [.int _]) dX11_ruleTold_118 rfl mk_X11_bit ml_X11_200 sm_X11_bit rfl rfl ⟨Nat.le_of_ble_eq_true rfl, Nat.le_of_ble_eq_true rfl, Nat.le_of_ble_eq_true rfl, Nat.le_of_ble_eq_true rfl⟩ (Nat.le_of_ble_eq_true rfl) (c_X11_bit (fun z => absurd rfl z) (fun _ => ?_))
          exact s_iret dX11_ruleTold_121 rfl (by decide) (by decide) (by
    have q := k2 r hr rfl 5 (by decide) (by decide) ekw I1 J1 Q1 w1.q X1
    unfold rtN at q
    rw [if_pos rfl, decide_eq_false (fun z => by rw [← r1.2.1, bitI_1 (by omega), b115] at z; cases z)] at q
    exact q)
      · rw [e6] at ekw
        refine s_tabIn (tgt := 122) (off := 109) dX11_ruleTold_13 (by rw [ekw]; decide) (by rw [ekw]; decide) (by rw [ekw]; rfl) (by decide) ?_
        refine s_aload_n (pc' := 123) dX11_ruleTold_122 rfl rfl ?_
        refine t_getR (pc' := 126) dX11_ruleTold_123 rfl R.sh (rk_lt (kc_rk _)) (fr_X11_240 (kc_rk _)) (rk_ft (kc_rk _) (by decide)) R.f2 ?_
        refine s_aload_n (pc' := 127) dX11_ruleTold_126 rfl rfl ?_
        refine s_getS (pc' := 130) (b := 1) dX11_ruleTold_127 rfl (by decide) rfl (by decide) fa_X11_10_11 rfl rfl ?_
        refine t_getI (pc' := 133) dX11_ruleTold_130 rfl sh_1 (by decide) fa_X11_142_8 rfl ?_
        refine s_aload_n (pc' := 134) dX11_ruleTold_133 rfl rfl ?_
        rw [X.1.md, hm]
        refine s_callV (pc' := 137) (As := []) dX11_ruleTold_134 rfl mk_X11_reckonedNow ml_X11_191 im_X11_reckonedNow se_X11_X11_X11_reckonedNow sh_0 (by decide) rfl rfl rfl ⟨Nat.le_of_ble_eq_true rfl, Nat.le_of_ble_eq_true rfl, Nat.le_of_ble_eq_true rfl, Nat.le_of_ble_eq_true rfl⟩ (Nat.le_of_ble_eq_true rfl) (c_X11_reckonedNow X hm hmd (fun I1 J1 Q1 w1 X1 r1 => ?_))
        have hg := r1.gs X.2.1 X.2.2.1
        refine s_getS (pc' := 140) (b := 25) dX11_ruleTold_137 rfl (by decide) rfl (by decide) fa_X11_243_5 rfl rfl ?_
        refine s_callV (pc' := 143) (As := [.int _, .ref 25]) dX11_ruleTold_140 rfl mk_X9_holds ml_X11_246 im_X9_holds se_X9_X9_X9_holds R.to.sh (by decide) rfl rfl rfl ⟨Nat.le_of_ble_eq_true rfl, Nat.le_of_ble_eq_true rfl, Nat.le_of_ble_eq_true rfl, Nat.le_of_ble_eq_true rfl⟩ (Nat.le_of_ble_eq_true rfl) (c_X9_holds X.2.1 (r := r) hr (X1.1.ro hr).to (fun h140 => ?_) (fun h140 => ?_))
        · refine s_callS (pc' := 146) (As := [.int _]) dX11_ruleTold_143 rfl mk_X11_bit ml_X11_200 sm_X11_bit rfl rfl ⟨Nat.le_of_ble_eq_true rfl, Nat.le_of_ble_eq_true rfl, Nat.le_of_ble_eq_true rfl, Nat.le_of_ble_eq_true rfl⟩ (Nat.le_of_ble_eq_true rfl) (c_X11_bit (fun _ => ?_) (fun z => absurd z (by decide)))
          exact s_iret dX11_ruleTold_146 rfl (by decide) (by decide) (by
    have q := k2 r hr rfl 6 (by decide) (by decide) ekw I1 J1 Q1 w1.q X1
    unfold rtN at q
    rw [if_neg (by decide), if_pos rfl, hB_gg (g := gS D nv nr ns md) (g' := J1 25) X.2.1 (fun u hu => (hg u hu).symm) hr, h140] at q
    exact q)
        · refine s_callS (pc' := 146) (As := [.int _]) dX11_ruleTold_143 rfl mk_X11_bit ml_X11_200 sm_X11_bit rfl rfl ⟨Nat.le_of_ble_eq_true rfl, Nat.le_of_ble_eq_true rfl, Nat.le_of_ble_eq_true rfl, Nat.le_of_ble_eq_true rfl⟩ (Nat.le_of_ble_eq_true rfl) (c_X11_bit (fun z => absurd rfl z) (fun _ => ?_))
          exact s_iret dX11_ruleTold_146 rfl (by decide) (by decide) (by
    have q := k2 r hr rfl 6 (by decide) (by decide) ekw I1 J1 Q1 w1.q X1
    unfold rtN at q
    rw [if_neg (by decide), if_pos rfl, hB_gg (g := gS D nv nr ns md) (g' := J1 25) X.2.1 (fun u hu => (hg u hu).symm) hr, h140] at q
    exact q)
      · rw [e6] at ekw
        refine s_tabIn (tgt := 147) (off := 134) dX11_ruleTold_13 (by rw [ekw]; decide) (by rw [ekw]; decide) (by rw [ekw]; rfl) (by decide) ?_
        refine s_aload_n (pc' := 148) dX11_ruleTold_147 rfl rfl ?_
        refine t_getI (pc' := 151) (j := 6) dX11_ruleTold_148 rfl R.sh (rk_lt (kc_rk _)) (fr_X11_250 (kc_rk _)) (by rw [rk_ft (kc_rk _) (by decide)]; rfl) ?_
        refine s_iconst (pc' := 152) (v := -1) dX11_ruleTold_151 rfl (by decide) ?_
        refine s_icmpne (pc' := 155) (tgt := 159) dX11_ruleTold_152 (by decide) rfl (fun c152 => ?_) (fun c152 => ?_)
        · refine s_aload_n (pc' := 160) dX11_ruleTold_159 rfl rfl ?_
          refine s_callV (pc' := 163) (As := []) dX11_ruleTold_160 rfl mk_X11_reckonedNow ml_X11_191 im_X11_reckonedNow se_X11_X11_X11_reckonedNow sh_0 (by decide) rfl rfl rfl ⟨Nat.le_of_ble_eq_true rfl, Nat.le_of_ble_eq_true rfl, Nat.le_of_ble_eq_true rfl, Nat.le_of_ble_eq_true rfl⟩ (Nat.le_of_ble_eq_true rfl) (c_X11_reckonedNow X hm hmd (fun I1 J1 Q1 w1 X1 r1 => ?_))
          have hg := r1.gs X.2.1 X.2.2.1
          refine s_getS (pc' := 166) (b := 27) dX11_ruleTold_163 rfl (by decide) rfl (by decide) fa_X11_253_5 rfl rfl ?_
          refine s_iload_n (pc' := 167) dX11_ruleTold_166 rfl rfl ?_
          refine t_iald (pc' := 168) dX11_ruleTold_167 rfl sh_27 rfl (by have := X.2.1.nr; omega) ?_
          exact s_iret dX11_ruleTold_168 rfl (by decide) (by decide) (by
    have q := k2 r hr rfl 7 (by decide) (by decide) ekw I1 J1 Q1 w1.q X1
    unfold rtN at q
    have h3 : D 60 r ≤ 3 := Decidable.byContradiction (fun z => c152 (by rw [R.f6]; exact (wr_m1 X.2.1 hr).mpr z))
    obtain ⟨aa, ha1, ha2⟩ := X.2.1.aim hr (DA.rf (I := D)) h3
    have hn10 := X.2.1.nv
    have z := ((r1.2.2.2.1 aa ha1).gs X.2.1 hg).1 r hr (by simp only [kvB, Bool.and_eq_true, decide_eq_true_eq]; exact ⟨h3, ha2⟩)
    rw [if_neg (by decide), if_neg (by decide), if_pos h3, ha2, nI_clamp (by omega), if_pos rfl] at q
    rw [z.1]
    exact q)
        · refine s_iconst (pc' := 156) (v := -1) dX11_ruleTold_155 rfl (by decide) ?_
          refine s_goto (tgt := 168) dX11_ruleTold_156 (by decide) ?_
          exact s_iret dX11_ruleTold_168 rfl (by decide) (by decide) (by
    have q := k2 r hr rfl 7 (by decide) (by decide) ekw I J Q WW.rf.q X
    unfold rtN at q
    rw [if_neg (by decide), if_neg (by decide), if_neg ((wr_m1 X.2.1 hr).mp (by rw [← R.f6]; simpa using c152))] at q
    exact q)
      · rw [e6] at ekw
        refine s_tabIn (tgt := 169) (off := 156) dX11_ruleTold_13 (by rw [ekw]; decide) (by rw [ekw]; decide) (by rw [ekw]; rfl) (by decide) ?_
        refine s_aload_n (pc' := 170) dX11_ruleTold_169 rfl rfl ?_
        refine t_getI (pc' := 173) (j := 6) dX11_ruleTold_170 rfl R.sh (rk_lt (kc_rk _)) (fr_X11_250 (kc_rk _)) (by rw [rk_ft (kc_rk _) (by decide)]; rfl) ?_
        refine s_iconst (pc' := 174) (v := -1) dX11_ruleTold_173 rfl (by decide) ?_
        refine s_icmpne (pc' := 177) (tgt := 181) dX11_ruleTold_174 (by decide) rfl (fun c174 => ?_) (fun c174 => ?_)
        · refine s_aload_n (pc' := 182) dX11_ruleTold_181 rfl rfl ?_
          refine s_callV (pc' := 185) (As := []) dX11_ruleTold_182 rfl mk_X11_reckonedNow ml_X11_191 im_X11_reckonedNow se_X11_X11_X11_reckonedNow sh_0 (by decide) rfl rfl rfl ⟨Nat.le_of_ble_eq_true rfl, Nat.le_of_ble_eq_true rfl, Nat.le_of_ble_eq_true rfl, Nat.le_of_ble_eq_true rfl⟩ (Nat.le_of_ble_eq_true rfl) (c_X11_reckonedNow X hm hmd (fun I1 J1 Q1 w1 X1 r1 => ?_))
          have hg := r1.gs X.2.1 X.2.2.1
          refine s_getS (pc' := 188) (b := 28) dX11_ruleTold_185 rfl (by decide) rfl (by decide) fa_X11_256_5 rfl rfl ?_
          refine s_iload_n (pc' := 189) dX11_ruleTold_188 rfl rfl ?_
          refine t_iald (pc' := 190) dX11_ruleTold_189 rfl sh_28 rfl (by have := X.2.1.nr; omega) ?_
          exact s_iret dX11_ruleTold_190 rfl (by decide) (by decide) (by
    have q := k2 r hr rfl 8 (by decide) (by decide) ekw I1 J1 Q1 w1.q X1
    unfold rtN at q
    have h3 : D 60 r ≤ 3 := Decidable.byContradiction (fun z => c174 (by rw [R.f6]; exact (wr_m1 X.2.1 hr).mpr z))
    obtain ⟨aa, ha1, ha2⟩ := X.2.1.aim hr (DA.rf (I := D)) h3
    have hn10 := X.2.1.nv
    have z := ((r1.2.2.2.1 aa ha1).gs X.2.1 hg).1 r hr (by simp only [kvB, Bool.and_eq_true, decide_eq_true_eq]; exact ⟨h3, ha2⟩)
    rw [if_neg (by decide), if_neg (by decide), if_pos h3, ha2, nI_clamp (by omega), if_neg (by decide)] at q
    rw [z.2.1]
    exact q)
        · refine s_iconst (pc' := 178) (v := -1) dX11_ruleTold_177 rfl (by decide) ?_
          refine s_goto (tgt := 190) dX11_ruleTold_178 (by decide) ?_
          exact s_iret dX11_ruleTold_190 rfl (by decide) (by decide) (by
    have q := k2 r hr rfl 8 (by decide) (by decide) ekw I J Q WW.rf.q X
    unfold rtN at q
    rw [if_neg (by decide), if_neg (by decide), if_neg ((wr_m1 X.2.1 hr).mp (by rw [← R.f6]; simpa using c174))] at q
    exact q)
    · refine s_tabOut (tgt := 191) dX11_ruleTold_13 (by (try decide); exact out8 hin) (by decide) ?_
      refine s_iconst (pc' := 192) (v := -1) dX11_ruleTold_191 rfl (by decide) ?_
      exact s_iret dX11_ruleTold_192 rfl (by decide) (by decide) (k0 (Or.inr hin))
  · refine t_astore_nN (pc' := 6) (L' := [.ref 0, .int _, .int _, .null, .retAddr _]) dX11_ruleTold_5 rfl (Nat.le_of_ble_eq_true rfl) rfl ?_
    refine s_aload_nN (pc' := 7) dX11_ruleTold_6 rfl rfl ?_
    refine s_ifnonnullN (pc' := 10) dX11_ruleTold_7 rfl ?_
    refine s_iconst (pc' := 11) (v := -1) dX11_ruleTold_10 rfl (by decide) ?_
    exact s_iret dX11_ruleTold_11 rfl (by decide) (by decide) (k0 (Or.inl nn))
set_option maxHeartbeats 200000 in
theorem c_X11_amount {N : Nat} {S : Nat → Nat × Nat} {I : Nat → Nat → Int32} {J : Nat → Nat → Int64} {Q : Nat → Nat → Option Nat} {κ : Option Value → HP → Prop} {D : Nat → Nat → Int32} {nv nr ns : Nat} {ad td : Nat → Nat} {e : Nat} (X : XB N S I J Q D nv nr ns ad td e) {md : Nat} (hm : D 75 3 = nI md) (hmd : md < 256) {v : Int32} (k1 : ((∀ j, j < nr → v ≠ nI j) ∨ ∃ r, r < nr ∧ v = nI r ∧ ¬ D 60 r ≤ 3) → κ (some (.long (-1000000000000))) (N, S, I, J, Q)) (k2 : ∀ r, r < nr → v = nI r → D 60 r ≤ 3 → ∀ I' J' Q', WQ I I' J J' Q Q' → XB N S I' J' Q' D nv nr ns ad td e → κ (some (.long (amt D (gS D nv nr ns md) r))) (N, S, I', J', Q')) : CT E1 M_X11_amount [.ref 0, .int v] (N, S, I, J, Q) κ := by
  refine ofSP mk_X11_amount (Nat.le_of_ble_eq_true rfl) (L := [.ref 0, .int _, .retAddr _]) rfl ?_
  refine s_aload_n (pc' := 1) dX11_amount_0 rfl rfl ?_
  refine s_iload_n (pc' := 2) dX11_amount_1 rfl rfl ?_
  refine s_callV (pc' := 5) (As := [.int _]) dX11_amount_2 rfl mk_X11_ruleOrNull ml_X11_216 im_X11_ruleOrNull se_X11_X11_X11_ruleOrNull sh_0 (by decide) rfl rfl rfl ⟨Nat.le_of_ble_eq_true rfl, Nat.le_of_ble_eq_true rfl, Nat.le_of_ble_eq_true rfl, Nat.le_of_ble_eq_true rfl⟩ (Nat.le_of_ble_eq_true rfl) (c_X11_ruleOrNull X.1.xr X.2.1.nr (fun r hr => ⟨_, X.1.q hr⟩) (fun r a hr er ha => ?_) (fun nn => ?_))
  · obtain rfl : a = ad r := Option.some.inj (ha.symm.trans (X.1.q hr))
    subst er
    have R := X.1.ro hr
    refine t_astore_n (pc' := 6) (L' := [.ref 0, .int _, .ref _]) dX11_amount_5 rfl (Nat.le_of_ble_eq_true rfl) rfl ?_
    refine s_aload_n (pc' := 7) dX11_amount_6 rfl rfl ?_
    refine s_ifnull (pc' := 10) dX11_amount_7 rfl ?_
    refine s_aload_n (pc' := 11) dX11_amount_10 rfl rfl ?_
    refine t_getI (pc' := 14) (j := 6) dX11_amount_11 rfl R.sh (rk_lt (kc_rk _)) (fr_X11_250 (kc_rk _)) (by rw [rk_ft (kc_rk _) (by decide)]; rfl) ?_
    refine s_iconst (pc' := 15) (v := -1) dX11_amount_14 rfl (by decide) ?_
    refine s_icmpne (pc' := 18) (tgt := 22) dX11_amount_15 (by decide) rfl (fun c15 => ?_) (fun c15 => ?_)
    · refine s_aload_n (pc' := 23) dX11_amount_22 rfl rfl ?_
      refine s_callV (pc' := 26) (As := []) dX11_amount_23 rfl mk_X11_reckonedNow ml_X11_191 im_X11_reckonedNow se_X11_X11_X11_reckonedNow sh_0 (by decide) rfl rfl rfl ⟨Nat.le_of_ble_eq_true rfl, Nat.le_of_ble_eq_true rfl, Nat.le_of_ble_eq_true rfl, Nat.le_of_ble_eq_true rfl⟩ (Nat.le_of_ble_eq_true rfl) (c_X11_reckonedNow X hm hmd (fun I1 J1 Q1 w1 X1 r1 => ?_))
      have hg := r1.gs X.2.1 X.2.2.1
      refine s_getS (pc' := 29) (b := 26) dX11_amount_26 rfl (by decide) rfl (by decide) fa_X11_259_5 rfl rfl ?_
      refine s_iload_n (pc' := 30) dX11_amount_29 rfl rfl ?_
      refine t_lald (pc' := 31) dX11_amount_30 rfl sh_26 rfl (by have := X.2.1.nr; omega) ?_
      exact s_lret dX11_amount_31 rfl (by decide) (by decide) (by
    have h3 : D 60 r ≤ 3 := Decidable.byContradiction (fun z => c15 (by rw [R.f6]; exact (wr_m1 X.2.1 hr).mpr z))
    obtain ⟨aa, ha1, ha2⟩ := X.2.1.aim hr (DA.rf (I := D)) h3
    rw [(((r1.2.2.2.1 aa ha1).gs X.2.1 hg).1 r hr (by simp only [kvB, Bool.and_eq_true, decide_eq_true_eq]; exact ⟨h3, ha2⟩)).2.2]
    exact k2 r hr rfl h3 I1 J1 Q1 w1.q X1)
    · refine s_ldc2 (pc' := 21) dX11_amount_18 rfl kl_X11_207 ?_
      exact s_lret dX11_amount_21 rfl (by decide) (by decide) (k1 (Or.inr ⟨r, hr, rfl, (wr_m1 X.2.1 hr).mp (by rw [← R.f6]; simpa using c15)⟩))
  · refine t_astore_nN (pc' := 6) (L' := [.ref 0, .int _, .null]) dX11_amount_5 rfl (Nat.le_of_ble_eq_true rfl) rfl ?_
    refine s_aload_nN (pc' := 7) dX11_amount_6 rfl rfl ?_
    refine s_ifnullN (tgt := 18) dX11_amount_7 (by decide) ?_
    refine s_ldc2 (pc' := 21) dX11_amount_18 rfl kl_X11_207 ?_
    exact s_lret dX11_amount_21 rfl (by decide) (by decide) (k1 (Or.inl nn))
set_option maxHeartbeats 200000 in
theorem c_X11_ring {N : Nat} {S : Nat → Nat × Nat} {I : Nat → Nat → Int32} {J : Nat → Nat → Int64} {Q : Nat → Nat → Option Nat} {κ : Option Value → HP → Prop} {x : Int32} {kk : Nat} (hk : I 0 10 = nI kk) (hk10 : kk ≤ 10) (k1 : ∀ j, j < kk → x = nI j → κ (some (.int (I 43 j))) (N, S, I, J, Q)) (k2 : (∀ j, j < kk → x ≠ nI j) → κ (some (.int (-1))) (N, S, I, J, Q)) : CT E1 M_X11_ring [.ref 0, .int x] (N, S, I, J, Q) κ := by
  refine ofSP mk_X11_ring (Nat.le_of_ble_eq_true rfl) (L := [.ref 0, .int _]) rfl ?_
  refine s_iload_n (pc' := 1) dX11_ring_0 rfl rfl ?_
  refine s_iflt (pc' := 4) (tgt := 21) dX11_ring_1 (by decide) rfl (fun c1 => ?_) (fun c1 => ?_)
  · refine s_iconst (pc' := 22) (v := -1) dX11_ring_21 rfl (by decide) ?_
    exact s_iret dX11_ring_22 rfl (by decide) (by decide) (k2 (fun j hj e => nI_pos (n := j) (by omega) (e ▸ c1)))
  · refine s_iload_n (pc' := 5) dX11_ring_4 rfl rfl ?_
    refine s_aload_n (pc' := 6) dX11_ring_5 rfl rfl ?_
    refine t_getI (pc' := 9) dX11_ring_6 rfl sh_0 (by decide) fa_X11_58_11 rfl ?_
    refine s_icmpge (pc' := 12) (tgt := 21) dX11_ring_9 (by decide) rfl (fun c9 => ?_) (fun c9 => ?_)
    · refine s_iconst (pc' := 22) (v := -1) dX11_ring_21 rfl (by decide) ?_
      exact s_iret dX11_ring_22 rfl (by decide) (by decide) (k2 (fun j hj e => nI_ge hj (by omega) (by rw [hk, e] at c9; exact c9)))
    · rw [hk] at c9
      obtain ⟨j, hj, ej⟩ := ix_in c1 c9 (by omega)
      subst ej
      refine s_aload_n (pc' := 13) dX11_ring_12 rfl rfl ?_
      refine s_getS (pc' := 16) (b := 43) dX11_ring_13 rfl (by decide) rfl (by decide) fa_X11_51_11 rfl rfl ?_
      refine s_iload_n (pc' := 17) dX11_ring_16 rfl rfl ?_
      refine t_iald (pc' := 18) dX11_ring_17 rfl sh_43 rfl (by omega) ?_
      refine s_goto (tgt := 22) dX11_ring_18 (by decide) ?_
      exact s_iret dX11_ring_22 rfl (by decide) (by decide) (k1 j hj rfl)
set_option maxHeartbeats 200000 in
theorem c_X11_trace {N : Nat} {S : Nat → Nat × Nat} {I : Nat → Nat → Int32} {J : Nat → Nat → Int64} {Q : Nat → Nat → Option Nat} {κ : Option Value → HP → Prop} {x : Int32} {t : Nat} (ht : I 45 0 = nI t) (h50 : t ≤ 50) (k1 : ∀ j, j < t → x = nI j → κ (some (.int (I 45 (j + 1)))) (N, S, I, J, Q)) (k2 : (∀ j, j < t → x ≠ nI j) → κ (some (.int (-1))) (N, S, I, J, Q)) : CT E1 M_X11_trace [.ref 0, .int x] (N, S, I, J, Q) κ := by
  refine ofSP mk_X11_trace (Nat.le_of_ble_eq_true rfl) (L := [.ref 0, .int _]) rfl ?_
  refine s_iload_n (pc' := 1) dX11_trace_0 rfl rfl ?_
  refine s_iflt (pc' := 4) (tgt := 25) dX11_trace_1 (by decide) rfl (fun c1 => ?_) (fun c1 => ?_)
  · refine s_iconst (pc' := 26) (v := -1) dX11_trace_25 rfl (by decide) ?_
    exact s_iret dX11_trace_26 rfl (by decide) (by decide) (k2 (fun j hj e => nI_pos (n := j) (by omega) (e ▸ c1)))
  · refine s_iload_n (pc' := 5) dX11_trace_4 rfl rfl ?_
    refine s_aload_n (pc' := 6) dX11_trace_5 rfl rfl ?_
    refine s_getS (pc' := 9) (b := 45) dX11_trace_6 rfl (by decide) rfl (by decide) fa_X11_61_11 rfl rfl ?_
    refine s_iconst (pc' := 10) (v := 0) dX11_trace_9 rfl (by decide) ?_
    refine t_iald (pc' := 11) (q := 0) dX11_trace_10 rfl sh_45 rfl (by decide) ?_
    refine s_icmpge (pc' := 14) (tgt := 25) dX11_trace_11 (by decide) rfl (fun c11 => ?_) (fun c11 => ?_)
    · refine s_iconst (pc' := 26) (v := -1) dX11_trace_25 rfl (by decide) ?_
      exact s_iret dX11_trace_26 rfl (by decide) (by decide) (k2 (fun j hj e => nI_ge hj (by omega) (by rw [ht, e] at c11; exact c11)))
    · rw [ht] at c11
      obtain ⟨j, hj, ej⟩ := ix_in c1 c11 (by omega)
      subst ej
      refine s_aload_n (pc' := 15) dX11_trace_14 rfl rfl ?_
      refine s_getS (pc' := 18) (b := 45) dX11_trace_15 rfl (by decide) rfl (by decide) fa_X11_61_11 rfl rfl ?_
      refine s_iload_n (pc' := 19) dX11_trace_18 rfl rfl ?_
      refine s_iconst (pc' := 20) (v := 1) dX11_trace_19 rfl (by decide) ?_
      refine s_iadd (pc' := 21) dX11_trace_20 rfl ?_
      refine t_iald (pc' := 22) (q := j + 1) dX11_trace_21 rfl sh_45 (nI_1 j) (by omega) ?_
      refine s_goto (tgt := 26) dX11_trace_22 (by decide) ?_
      exact s_iret dX11_trace_26 rfl (by decide) (by decide) (k1 j hj rfl)
set_option maxHeartbeats 200000 in
theorem l_X8_lastingSpells {N : Nat} {S : Nat → Nat × Nat} {I : Nat → Nat → Int32} {J : Nat → Nat → Int64} {Q : Nat → Nat → Option Nat} {κ : Option Value → HP → Prop} {D : Nat → Nat → Int32} {nv nr ns : Nat} {ad td : Nat → Nat} (X : XS N S I Q D nv nr ns ad td 0) (hW : DW D nv nr ns) (hk : κ (some (.int (cGt (D 74) (D 75 6) ns))) (N, S, I, J, Q)) : ∀ d : Nat, ∀ k, k + d = ns → SP E1 M_X8_lastingSpells κ 4 [.ref 1, .int (cGt (D 74) (D 75 6) k), .int (nI k)] [] (N, S, I, J, Q) 0 0 := by
  intro d
  induction d with
  | zero =>
    intro k hd
    obtain rfl : k = ns := by omega
    refine s_iload_n (pc' := 5) dX8_lastingSpells_4 rfl rfl ?_
    refine s_aload_n (pc' := 6) dX8_lastingSpells_5 rfl rfl ?_
    refine t_getI (pc' := 9) dX8_lastingSpells_6 rfl sh_1 (by decide) fa_X8_43_8 rfl ?_
    refine s_icmpgeT (tgt := 34) dX8_lastingSpells_9 (by decide) (by rw [X.xs]; exact nI_le (Nat.le_refl _) (by have := hW.ns; omega)) ?_
    refine s_iload_n (pc' := 35) dX8_lastingSpells_34 rfl rfl ?_
    exact s_iret dX8_lastingSpells_35 rfl (by decide) (by decide) hk
  | succ d ih =>
    intro k hd
    have hn10 := hW.ns
    have hk2 : k < ns := by omega
    refine s_iload_n (pc' := 5) dX8_lastingSpells_4 rfl rfl ?_
    refine s_aload_n (pc' := 6) dX8_lastingSpells_5 rfl rfl ?_
    refine t_getI (pc' := 9) dX8_lastingSpells_6 rfl sh_1 (by decide) fa_X8_43_8 rfl ?_
    refine s_icmpgeF (pc' := 12) (tgt := 34) dX8_lastingSpells_9 (by decide) rfl (by rw [X.xs]; exact nI_ge (by omega) (by omega)) ?_
    refine s_aload_n (pc' := 13) dX8_lastingSpells_12 rfl rfl ?_
    refine t_getI (pc' := 16) dX8_lastingSpells_13 rfl sh_1 (by decide) fa_X8_55_8 rfl ?_
    refine s_aload_n (pc' := 17) dX8_lastingSpells_16 rfl rfl ?_
    refine s_getS (pc' := 20) (b := 11) dX8_lastingSpells_17 rfl (by decide) rfl (by decide) fa_X8_52_8 rfl rfl ?_
    refine s_iload_n (pc' := 21) dX8_lastingSpells_20 rfl rfl ?_
    refine t_iald (pc' := 22) dX8_lastingSpells_21 rfl sh_11 rfl (by omega) ?_
    refine s_icmpge (pc' := 25) (tgt := 28) dX8_lastingSpells_22 (by decide) rfl (fun c22 => ?_) (fun c22 => ?_)
    · refine t_iinc (pc' := 31) (v := nI (k + 1)) (L' := [.ref 1, .int _, .int _]) dX8_lastingSpells_28 rfl rfl (nI_inc k) rfl ?_
      refine s_goto (tgt := 4) dX8_lastingSpells_31 (by decide) ?_
      rw [X.tn, show I 11 k = D 74 k from (X.2.2.2 k hk2).2.2] at c22
      refine s_eq ?_ rfl rfl (ih (k + 1) (by omega))
      rw [cGt, if_neg (Int32.not_lt.mpr c22), Int32.add_zero]
    · refine t_iinc (pc' := 28) (v := (cGt (D 74) (D 75 6) k) + 1) (L' := [.ref 1, .int _, .int _]) dX8_lastingSpells_25 rfl rfl rfl rfl ?_
      refine t_iinc (pc' := 31) (v := nI (k + 1)) (L' := [.ref 1, .int _, .int _]) dX8_lastingSpells_28 rfl rfl (nI_inc k) rfl ?_
      refine s_goto (tgt := 4) dX8_lastingSpells_31 (by decide) ?_
      rw [X.tn, show I 11 k = D 74 k from (X.2.2.2 k hk2).2.2] at c22
      refine s_eq ?_ rfl rfl (ih (k + 1) (by omega))
      rw [cGt, if_pos (Int32.not_le.mp c22)]
set_option maxHeartbeats 200000 in
theorem c_X8_lastingSpells {N : Nat} {S : Nat → Nat × Nat} {I : Nat → Nat → Int32} {J : Nat → Nat → Int64} {Q : Nat → Nat → Option Nat} {κ : Option Value → HP → Prop} {D : Nat → Nat → Int32} {nv nr ns : Nat} {ad td : Nat → Nat} (X : XS N S I Q D nv nr ns ad td 0) (hW : DW D nv nr ns) (hk : κ (some (.int (cGt (D 74) (D 75 6) ns))) (N, S, I, J, Q)) : CT E1 M_X8_lastingSpells [.ref 1] (N, S, I, J, Q) κ := by
  refine ofSP mk_X8_lastingSpells (Nat.le_of_ble_eq_true rfl) (L := [.ref 1, .retAddr _, .retAddr _]) rfl ?_
  refine s_iconst (pc' := 1) (v := 0) dX8_lastingSpells_0 rfl (by decide) ?_
  refine t_istore_n (pc' := 2) (L' := [.ref 1, .int _, .retAddr _]) dX8_lastingSpells_1 rfl (Nat.le_of_ble_eq_true rfl) rfl ?_
  refine s_iconst (pc' := 3) (v := 0) dX8_lastingSpells_2 rfl (by decide) ?_
  refine t_istore_n (pc' := 4) (L' := [.ref 1, .int _, .int _]) dX8_lastingSpells_3 rfl (Nat.le_of_ble_eq_true rfl) rfl ?_
  exact l_X8_lastingSpells X hW hk ns 0 (by omega)
set_option maxHeartbeats 200000 in
theorem c_X11_count {N : Nat} {S : Nat → Nat × Nat} {I : Nat → Nat → Int32} {J : Nat → Nat → Int64} {Q : Nat → Nat → Option Nat} {κ : Option Value → HP → Prop} {D : Nat → Nat → Int32} {nv nr ns : Nat} {ad td : Nat → Nat} {e : Nat} (X : XB N S I J Q D nv nr ns ad td e) {md : Nat} (hm : D 75 3 = nI md) (hmd : md < 256) {w : Int32} (k0 : ∀ u, u < 3 → w = nI u → κ (some (.int (D 75 u))) (N, S, I, J, Q)) (k3 : w = nI 3 → κ (some (.int (cGt (D 74) (D 75 6) ns))) (N, S, I, J, Q)) (k4 : w = nI 4 → κ (some (.int (D 75 6))) (N, S, I, J, Q)) (k5 : w = nI 5 → κ (some (.int (D 75 3))) (N, S, I, J, Q)) (k6 : w = nI 6 → ∀ I' J' Q', WQ I I' J J' Q Q' → XB N S I' J' Q' D nv nr ns ad td e → κ (some (.int (nI (cntB (LW D nv nr ns) 256)))) (N, S, I', J', Q')) (k7 : w = nI 7 → κ (some (.int (I 45 0))) (N, S, I, J, Q)) (k8 : w = nI 8 → κ (some (.int (I 0 10))) (N, S, I, J, Q)) (k1 : (∀ k, k ≤ 8 → w ≠ nI k) → κ (some (.int (-1))) (N, S, I, J, Q)) : CT E1 M_X11_count [.ref 0, .int w] (N, S, I, J, Q) κ := by
  refine ofSP mk_X11_count (Nat.le_of_ble_eq_true rfl) (L := [.ref 0, .int _]) rfl ?_
  refine s_iload_n (pc' := 1) dX11_count_0 rfl rfl ?_
  by_cases hin : inR w 0 (8 : Nat)
  · obtain ⟨kw, hkw, ekw⟩ := in_n hin
    rcases (show kw = 0 ∨ kw = 1 ∨ kw = 2 ∨ kw = 3 ∨ kw = 4 ∨ kw = 5 ∨ kw = 6 ∨ kw = 7 ∨ kw = 8 by omega) with e6 | e6 | e6 | e6 | e6 | e6 | e6 | e6 | e6
    · rw [e6] at ekw
      refine s_tabIn (tgt := 52) (off := 51) dX11_count_1 (by rw [ekw]; decide) (by rw [ekw]; decide) (by rw [ekw]; rfl) (by decide) ?_
      refine s_aload_n (pc' := 53) dX11_count_52 rfl rfl ?_
      refine s_getS (pc' := 56) (b := 1) dX11_count_53 rfl (by decide) rfl (by decide) fa_X11_10_11 rfl rfl ?_
      refine t_getI (pc' := 59) dX11_count_56 rfl sh_1 (by decide) fa_X11_91_8 rfl ?_
      exact s_iret dX11_count_59 rfl (by decide) (by decide) (by rw [X.1.xv, ← X.2.1.1.2.2.2.1]; exact k0 0 (by decide) ekw)
    · rw [e6] at ekw
      refine s_tabIn (tgt := 60) (off := 59) dX11_count_1 (by rw [ekw]; decide) (by rw [ekw]; decide) (by rw [ekw]; rfl) (by decide) ?_
      refine s_aload_n (pc' := 61) dX11_count_60 rfl rfl ?_
      refine s_getS (pc' := 64) (b := 1) dX11_count_61 rfl (by decide) rfl (by decide) fa_X11_10_11 rfl rfl ?_
      refine t_getI (pc' := 67) dX11_count_64 rfl sh_1 (by decide) fa_X11_133_8 rfl ?_
      exact s_iret dX11_count_67 rfl (by decide) (by decide) (by rw [X.1.xr, ← X.2.1.1.2.2.2.2.1]; exact k0 1 (by decide) ekw)
    · rw [e6] at ekw
      refine s_tabIn (tgt := 68) (off := 67) dX11_count_1 (by rw [ekw]; decide) (by rw [ekw]; decide) (by rw [ekw]; rfl) (by decide) ?_
      refine s_aload_n (pc' := 69) dX11_count_68 rfl rfl ?_
      refine s_getS (pc' := 72) (b := 1) dX11_count_69 rfl (by decide) rfl (by decide) fa_X11_10_11 rfl rfl ?_
      refine t_getI (pc' := 75) dX11_count_72 rfl sh_1 (by decide) fa_X11_153_8 rfl ?_
      exact s_iret dX11_count_75 rfl (by decide) (by decide) (by rw [X.1.xs, ← X.2.1.1.2.2.2.2.2]; exact k0 2 (by decide) ekw)
    · rw [e6] at ekw
      refine s_tabIn (tgt := 76) (off := 75) dX11_count_1 (by rw [ekw]; decide) (by rw [ekw]; decide) (by rw [ekw]; rfl) (by decide) ?_
      refine s_aload_n (pc' := 77) dX11_count_76 rfl rfl ?_
      refine s_getS (pc' := 80) (b := 1) dX11_count_77 rfl (by decide) rfl (by decide) fa_X11_10_11 rfl rfl ?_
      refine s_callV (pc' := 83) (As := []) dX11_count_80 rfl mk_X8_lastingSpells ml_X11_162 im_X8_lastingSpells se_X8_X8_X8_lastingSpells sh_1 (by decide) rfl rfl rfl ⟨Nat.le_of_ble_eq_true rfl, Nat.le_of_ble_eq_true rfl, Nat.le_of_ble_eq_true rfl, Nat.le_of_ble_eq_true rfl⟩ (Nat.le_of_ble_eq_true rfl) (c_X8_lastingSpells X.1 X.2.1 ?_)
      exact s_iret dX11_count_83 rfl (by decide) (by decide) (k3 ekw)
    · rw [e6] at ekw
      refine s_tabIn (tgt := 84) (off := 83) dX11_count_1 (by rw [ekw]; decide) (by rw [ekw]; decide) (by rw [ekw]; rfl) (by decide) ?_
      refine s_aload_n (pc' := 85) dX11_count_84 rfl rfl ?_
      refine s_getS (pc' := 88) (b := 1) dX11_count_85 rfl (by decide) rfl (by decide) fa_X11_10_11 rfl rfl ?_
      refine t_getI (pc' := 91) dX11_count_88 rfl sh_1 (by decide) fa_X11_156_8 rfl ?_
      exact s_iret dX11_count_91 rfl (by decide) (by decide) (by rw [X.1.tn]; exact k4 ekw)
    · rw [e6] at ekw
      refine s_tabIn (tgt := 92) (off := 91) dX11_count_1 (by rw [ekw]; decide) (by rw [ekw]; decide) (by rw [ekw]; rfl) (by decide) ?_
      refine s_aload_n (pc' := 93) dX11_count_92 rfl rfl ?_
      refine s_getS (pc' := 96) (b := 1) dX11_count_93 rfl (by decide) rfl (by decide) fa_X11_10_11 rfl rfl ?_
      refine t_getI (pc' := 99) dX11_count_96 rfl sh_1 (by decide) fa_X11_142_8 rfl ?_
      exact s_iret dX11_count_99 rfl (by decide) (by decide) (by rw [X.1.md]; exact k5 ekw)
    · rw [e6] at ekw
      refine s_tabIn (tgt := 100) (off := 99) dX11_count_1 (by rw [ekw]; decide) (by rw [ekw]; decide) (by rw [ekw]; rfl) (by decide) ?_
      refine s_aload_n (pc' := 101) dX11_count_100 rfl rfl ?_
      refine s_getS (pc' := 104) (b := 23) dX11_count_101 rfl (by decide) rfl (by decide) fa_X11_24_11 rfl rfl ?_
      refine s_callV (pc' := 107) (As := []) dX11_count_104 rfl mk_X1_lawfulSheets ml_X11_305 im_X1_lawfulSheets se_X1_X1_X1_lawfulSheets sh_23 (by decide) rfl rfl rfl ⟨Nat.le_of_ble_eq_true rfl, Nat.le_of_ble_eq_true rfl, Nat.le_of_ble_eq_true rfl, Nat.le_of_ble_eq_true rfl⟩ (Nat.le_of_ble_eq_true rfl) (c_X1_lawfulSheets X (fun I1 J1 Q1 w1 X1 => ?_))
      exact s_iret dX11_count_107 rfl (by decide) (by decide) (k6 ekw I1 J1 Q1 w1.q X1)
    · rw [e6] at ekw
      refine s_tabIn (tgt := 108) (off := 107) dX11_count_1 (by rw [ekw]; decide) (by rw [ekw]; decide) (by rw [ekw]; rfl) (by decide) ?_
      refine s_aload_n (pc' := 109) dX11_count_108 rfl rfl ?_
      refine s_getS (pc' := 112) (b := 45) dX11_count_109 rfl (by decide) rfl (by decide) fa_X11_61_11 rfl rfl ?_
      refine s_iconst (pc' := 113) (v := 0) dX11_count_112 rfl (by decide) ?_
      refine t_iald (pc' := 114) (q := 0) dX11_count_113 rfl sh_45 rfl (by decide) ?_
      exact s_iret dX11_count_114 rfl (by decide) (by decide) (k7 ekw)
    · rw [e6] at ekw
      refine s_tabIn (tgt := 115) (off := 114) dX11_count_1 (by rw [ekw]; decide) (by rw [ekw]; decide) (by rw [ekw]; rfl) (by decide) ?_
      refine s_aload_n (pc' := 116) dX11_count_115 rfl rfl ?_
      refine t_getI (pc' := 119) dX11_count_116 rfl sh_0 (by decide) fa_X11_58_11 rfl ?_
      exact s_iret dX11_count_119 rfl (by decide) (by decide) (k8 ekw)
  · refine s_tabOut (tgt := 120) dX11_count_1 (by (try decide); exact out8 hin) (by decide) ?_
    refine s_iconst (pc' := 121) (v := -1) dX11_count_120 rfl (by decide) ?_
    exact s_iret dX11_count_121 rfl (by decide) (by decide) (k1 (fun k hk e => hin (by rw [e]; exact nI_in2 hk (by decide))))
