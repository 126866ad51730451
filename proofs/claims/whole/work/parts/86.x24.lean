theorem k_cases {D : Nat → Nat → Int32} {r : Nat} (hk : ∃ k, k ≤ 6 ∧ D 60 r = nI k) : D 60 r = 0 ∨ D 60 r = 1 ∨ D 60 r = 2 ∨ D 60 r = 3 ∨ D 60 r = 4 ∨ D 60 r = 5 ∨ D 60 r = 6 := by
  obtain ⟨k, k1, k2⟩ := hk
  rw [k2]
  rcases (show k = 0 ∨ k = 1 ∨ k = 2 ∨ k = 3 ∨ k = 4 ∨ k = 5 ∨ k = 6 by omega) with rfl | rfl | rfl | rfl | rfl | rfl | rfl <;> decide
theorem fg_op {D : Nat → Nat → Int32} {r : Nat} (hk : ∃ k, k ≤ 6 ∧ D 60 r = nI k) : (D 60 r ≠ 0 ∧ D 60 r ≠ 1 ∧ D 60 r ≠ 2 ∧ D 60 r ≠ 3 ∧ D 60 r ≠ 4) ↔ 5 ≤ D 60 r := by
  rcases k_cases hk with z | z | z | z | z | z | z <;> rw [z] <;> decide
theorem fg_un {D : Nat → Nat → Int32} {r m : Nat} (hm : m < 7) (hk : ∃ k, k ≤ 6 ∧ D 60 r = nI k) : (nI m = 0 ∨ D 60 r = nI m ∨ (nI m = 5 ∧ (D 60 r ≠ 0 ∧ D 60 r ≠ 1 ∧ D 60 r ≠ 2 ∧ D 60 r ≠ 3 ∧ D 60 r ≠ 4))) ↔ (m = 0 ∨ D 60 r = nI m ∨ (m = 5 ∧ D 60 r = 6)) := by
  rcases (show m = 0 ∨ m = 1 ∨ m = 2 ∨ m = 3 ∨ m = 4 ∨ m = 5 ∨ m = 6 by omega) with rfl | rfl | rfl | rfl | rfl | rfl | rfl <;> rcases k_cases hk with z | z | z | z | z | z | z <;> rw [z] <;> decide
theorem csX_csm {f g : Nat → Int32} {s : Nat} : ∀ m, (∀ i, i ≤ m → f i = g (40 * s + i)) → csX f m = csm g s m
  | 0, _ => rfl
  | m + 1, h => by rw [csX, csm, csX_csm m (fun i hi => h i (by omega)), h (m + 1) (Nat.le_refl _)]
set_option maxHeartbeats 200000 in
theorem c_X11_forge {N : Nat} {S : Nat → Nat × Nat} {I : Nat → Nat → Int32} {J : Nat → Nat → Int64} {Q : Nat → Nat → Option Nat} {κ : Option Value → HP → Prop} {D : Nat → Nat → Int32} {nv nr ns : Nat} {ad td : Nat → Nat} {e : Nat} (X : XB N S I J Q D nv nr ns ad td e) (hq : ∀ s, s < 4 → Q 46 s = some (47 + s)) {so cl : Nat → Int32} {sz : Nat → Nat} (hS : ∀ s, s < 4 → I 52 s = nI (sz s) ∧ sz s ≤ 40) (hso : ∀ s, s < 4 → (I 51 s = -1 ↔ so s = 0) ∧ (I 51 s = 0 ↔ so s = 1) ∧ (I 51 s = 1 ↔ so s = 2)) (hcl : ∀ s, s < 4 → ∀ i, i < 40 → I (47 + s) i = cl (40 * s + i)) {wh n x : Int32} (k1 : (¬ inR wh 0 6 ∨ ¬ inR n (-100) 100 ∨ ¬ inR x (-100) 100) → κ (some (.int (-1))) (N, S, up2 I 0 5 1, J, Q)) (k2 : ∀ w, w ≤ 6 → wh = nI w → inR n (-100) 100 → inR x (-100) 100 → κ (some (.int (fgR D so cl nr sz w n x).1)) (N, S, up2 I 0 5 (fgR D so cl nr sz w n x).2, J, Q)) : CT E1 M_X11_forge [.ref 0, .int wh, .int n, .int x] (N, S, I, J, Q) κ := by
  refine ofSP mk_X11_forge (Nat.le_of_ble_eq_true rfl) (L := [.ref 0, .int _, .int _, .int _, .retAddr _, .retAddr _]) rfl ?_
  refine s_iload_n (pc' := 1) dX11_forge_0 rfl rfl ?_
  refine s_iflt (pc' := 4) (tgt := 28) dX11_forge_1 (by decide) rfl (fun c1 => ?_) (fun c1 => ?_)
  · refine s_aload_n (pc' := 29) dX11_forge_28 rfl rfl ?_
    refine s_iconst (pc' := 30) (v := 1) dX11_forge_29 rfl (by decide) ?_
    refine s_callV (pc' := 33) (As := [.int _]) dX11_forge_30 rfl mk_X11_refused ml_X11_87 im_X11_refused se_X11_X11_X11_refused sh_0 (by decide) rfl rfl rfl ⟨Nat.le_of_ble_eq_true rfl, Nat.le_of_ble_eq_true rfl, Nat.le_of_ble_eq_true rfl, Nat.le_of_ble_eq_true rfl⟩ (Nat.le_of_ble_eq_true rfl) (c_X11_refused ?_)
    exact s_iret dX11_forge_33 rfl (by decide) (by decide) (k1 (Or.inl (in_r1 (a := 0) (by decide) c1)))
  · refine s_iload_n (pc' := 5) dX11_forge_4 rfl rfl ?_
    refine s_bipush (pc' := 7) (v := 6) dX11_forge_5 rfl (by decide) ?_
    refine s_icmpgt (pc' := 10) (tgt := 28) dX11_forge_7 (by decide) rfl (fun c7 => ?_) (fun c7 => ?_)
    · refine s_aload_n (pc' := 29) dX11_forge_28 rfl rfl ?_
      refine s_iconst (pc' := 30) (v := 1) dX11_forge_29 rfl (by decide) ?_
      refine s_callV (pc' := 33) (As := [.int _]) dX11_forge_30 rfl mk_X11_refused ml_X11_87 im_X11_refused se_X11_X11_X11_refused sh_0 (by decide) rfl rfl rfl ⟨Nat.le_of_ble_eq_true rfl, Nat.le_of_ble_eq_true rfl, Nat.le_of_ble_eq_true rfl, Nat.le_of_ble_eq_true rfl⟩ (Nat.le_of_ble_eq_true rfl) (c_X11_refused ?_)
      exact s_iret dX11_forge_33 rfl (by decide) (by decide) (k1 (Or.inl (in_r2 (b := 6) (by decide) (Int32.not_le.mpr c7))))
    · refine s_iload_n (pc' := 11) dX11_forge_10 rfl rfl ?_
      refine s_bipush (pc' := 13) (v := 100) dX11_forge_11 rfl (by decide) ?_
      refine s_callS (pc' := 16) (As := [.int _, .int _]) dX11_forge_13 rfl mk_X11_isWithin ml_X11_79 sm_X11_isWithin rfl rfl ⟨Nat.le_of_ble_eq_true rfl, Nat.le_of_ble_eq_true rfl, Nat.le_of_ble_eq_true rfl, Nat.le_of_ble_eq_true rfl⟩ (Nat.le_of_ble_eq_true rfl) (c_X11_isWithin (m := 100) (by decide) (fun i13 => ?_) (fun i13 => ?_))
      · refine s_ifeqF (pc' := 19) (tgt := 28) dX11_forge_16 (by decide) rfl (by decide) ?_
        refine s_iload_n (pc' := 20) dX11_forge_19 rfl rfl ?_
        refine s_bipush (pc' := 22) (v := 100) dX11_forge_20 rfl (by decide) ?_
        refine s_callS (pc' := 25) (As := [.int _, .int _]) dX11_forge_22 rfl mk_X11_isWithin ml_X11_79 sm_X11_isWithin rfl rfl ⟨Nat.le_of_ble_eq_true rfl, Nat.le_of_ble_eq_true rfl, Nat.le_of_ble_eq_true rfl, Nat.le_of_ble_eq_true rfl⟩ (Nat.le_of_ble_eq_true rfl) (c_X11_isWithin (m := 100) (by decide) (fun i22 => ?_) (fun i22 => ?_))
        · refine s_ifneT (tgt := 34) dX11_forge_25 (by decide) (by decide) ?_
          have iw : inR wh 0 6 := in_r (a := 0) (b := 6) (by decide) (by decide) c1 (Int32.not_lt.mp c7)
          have hs : mdl x 4 < 4 := mdl_lt (by decide)
          refine s_aload_n (pc' := 35) dX11_forge_34 rfl rfl ?_
          refine s_iload_n (pc' := 36) dX11_forge_35 rfl rfl ?_
          refine s_bipush (pc' := 38) (v := 30) dX11_forge_36 rfl (by decide) ?_
          refine s_callS (pc' := 41) (As := [.int _, .int _]) dX11_forge_38 rfl mk_J9_floorMod_7cf53 ml_X11_336 sm_J9_floorMod_7cf53 rfl rfl ⟨Nat.le_of_ble_eq_true rfl, Nat.le_of_ble_eq_true rfl, Nat.le_of_ble_eq_true rfl, Nat.le_of_ble_eq_true rfl⟩ (Nat.le_of_ble_eq_true rfl) (c_J9_floorMod_7cf53 (by decide) ?_)
          rw [(mdX_in i22).1]
          refine s_callV (pc' := 44) (As := [.int _]) dX11_forge_41 rfl mk_X11_ruleOrNull ml_X11_216 im_X11_ruleOrNull se_X11_X11_X11_ruleOrNull sh_0 (by decide) rfl rfl rfl ⟨Nat.le_of_ble_eq_true rfl, Nat.le_of_ble_eq_true rfl, Nat.le_of_ble_eq_true rfl, Nat.le_of_ble_eq_true rfl⟩ (Nat.le_of_ble_eq_true rfl) (c_X11_ruleOrNull X.1.xr X.2.1.nr (fun r hr => ⟨_, X.1.q hr⟩) (fun r a hr er ha => ?_) (fun nn0 => ?_))
          · obtain rfl : a = ad r := Option.some.inj (ha.symm.trans (X.1.q hr))
            have er2 : mdl x 30 = r := ixe er (by have := mdl_lt (x := x) (m := 30) (by decide); omega) (by have := X.2.1.nr; omega)
            subst er2
            have R := X.1.ro hr
            refine t_astore (pc' := 46) (L' := [.ref 0, .int _, .int _, .int _, .ref _, .retAddr _]) dX11_forge_44 rfl (Nat.le_of_ble_eq_true rfl) rfl ?_
            refine s_iload_n (pc' := 47) dX11_forge_46 rfl rfl ?_
            refine s_iconst (pc' := 48) (v := 4) dX11_forge_47 rfl (by decide) ?_
            refine s_callS (pc' := 51) (As := [.int _, .int _]) dX11_forge_48 rfl mk_J9_floorMod_7cf53 ml_X11_336 sm_J9_floorMod_7cf53 rfl rfl ⟨Nat.le_of_ble_eq_true rfl, Nat.le_of_ble_eq_true rfl, Nat.le_of_ble_eq_true rfl, Nat.le_of_ble_eq_true rfl⟩ (Nat.le_of_ble_eq_true rfl) (c_J9_floorMod_7cf53 (by decide) ?_)
            rw [(mdX_in i22).2.1]
            refine t_istore (pc' := 53) (L' := [.ref 0, .int _, .int _, .int _, .ref _, .int _]) dX11_forge_51 rfl (Nat.le_of_ble_eq_true rfl) rfl ?_
            refine s_iload_n (pc' := 54) dX11_forge_53 rfl rfl ?_
            obtain ⟨kw, hkw, ekw⟩ := in_n (show inR wh 0 (6 : Nat) from iw)
            rcases (show kw = 0 ∨ kw = 1 ∨ kw = 2 ∨ kw = 3 ∨ kw = 4 ∨ kw = 5 ∨ kw = 6 by omega) with e6 | e6 | e6 | e6 | e6 | e6 | e6
            · rw [e6] at ekw
              refine s_tabIn (tgt := 92) (off := 38) dX11_forge_54 (by rw [ekw]; decide) (by rw [ekw]; decide) (by rw [ekw]; rfl) (by decide) ?_
              refine s_aload_n (pc' := 93) dX11_forge_92 rfl rfl ?_
              refine s_aload (pc' := 95) dX11_forge_93 rfl rfl ?_
              refine s_iload_n (pc' := 96) dX11_forge_95 rfl rfl ?_
              refine s_bipush (pc' := 98) (v := 7) dX11_forge_96 rfl (by decide) ?_
              refine s_callS (pc' := 101) (As := [.int _, .int _]) dX11_forge_98 rfl mk_J9_floorMod_7cf53 ml_X11_336 sm_J9_floorMod_7cf53 rfl rfl ⟨Nat.le_of_ble_eq_true rfl, Nat.le_of_ble_eq_true rfl, Nat.le_of_ble_eq_true rfl, Nat.le_of_ble_eq_true rfl⟩ (Nat.le_of_ble_eq_true rfl) (c_J9_floorMod_7cf53 (by decide) ?_)
              rw [(mdX_in i13).2.2.1]
              refine s_callV (pc' := 104) (As := [.ref _, .int _]) dX11_forge_101 rfl mk_X11_takenForKind ml_X11_341 im_X11_takenForKind se_X11_X11_X11_takenForKind sh_0 (by decide) rfl rfl rfl ⟨Nat.le_of_ble_eq_true rfl, Nat.le_of_ble_eq_true rfl, Nat.le_of_ble_eq_true rfl, Nat.le_of_ble_eq_true rfl⟩ (Nat.le_of_ble_eq_true rfl) (c_X11_takenForKind R (fun u => ?_) (fun u => ?_))
              · exact s_iret dX11_forge_104 rfl (by decide) (by decide) (by have q := k2 0 (by decide) ekw i13 i22; unfold fgR at q; rw [if_pos (show (0 : Nat) = 0 by decide), if_pos hr, if_pos ((fg_un (mdl_lt (by decide)) (X.2.1.2.1 (mdl x 30) hr).1).mp u)] at q; exact q)
              · exact s_iret dX11_forge_104 rfl (by decide) (by decide) (by have q := k2 0 (by decide) ekw i13 i22; unfold fgR at q; rw [if_pos (show (0 : Nat) = 0 by decide), if_pos hr, if_neg (fun z => u ((fg_un (mdl_lt (by decide)) (X.2.1.2.1 (mdl x 30) hr).1).mpr z))] at q; exact q)
            · rw [e6] at ekw
              refine s_tabIn (tgt := 105) (off := 51) dX11_forge_54 (by rw [ekw]; decide) (by rw [ekw]; decide) (by rw [ekw]; rfl) (by decide) ?_
              refine s_iload_n (pc' := 106) dX11_forge_105 rfl rfl ?_
              refine s_ifge (pc' := 109) (tgt := 118) dX11_forge_106 (by decide) rfl (fun c106 => ?_) (fun c106 => ?_)
              · refine s_aload_n (pc' := 119) dX11_forge_118 rfl rfl ?_
                refine s_iload_n (pc' := 120) dX11_forge_119 rfl rfl ?_
                refine s_callV (pc' := 123) (As := [.int _]) dX11_forge_120 rfl mk_X11_done ml_X11_100 im_X11_done se_X11_X11_X11_done sh_0 (by decide) rfl rfl rfl ⟨Nat.le_of_ble_eq_true rfl, Nat.le_of_ble_eq_true rfl, Nat.le_of_ble_eq_true rfl, Nat.le_of_ble_eq_true rfl⟩ (Nat.le_of_ble_eq_true rfl) (c_X11_done ?_)
                exact s_iret dX11_forge_123 rfl (by decide) (by decide) (by have q := k2 1 (by decide) ekw i13 i22; unfold fgR at q; rw [if_neg (show ¬ (1 : Nat) = 0 by decide), if_pos (show (1 : Nat) = 1 by decide), if_neg (Int32.not_lt.mpr c106)] at q; exact q)
              · refine s_aload_n (pc' := 110) dX11_forge_109 rfl rfl ?_
                refine s_bipush (pc' := 112) (v := 13) dX11_forge_110 rfl (by decide) ?_
                refine s_callV (pc' := 115) (As := [.int _]) dX11_forge_112 rfl mk_X11_refused ml_X11_87 im_X11_refused se_X11_X11_X11_refused sh_0 (by decide) rfl rfl rfl ⟨Nat.le_of_ble_eq_true rfl, Nat.le_of_ble_eq_true rfl, Nat.le_of_ble_eq_true rfl, Nat.le_of_ble_eq_true rfl⟩ (Nat.le_of_ble_eq_true rfl) (c_X11_refused ?_)
                refine s_goto (tgt := 123) dX11_forge_115 (by decide) ?_
                exact s_iret dX11_forge_123 rfl (by decide) (by decide) (by have q := k2 1 (by decide) ekw i13 i22; unfold fgR at q; rw [if_neg (show ¬ (1 : Nat) = 0 by decide), if_pos (show (1 : Nat) = 1 by decide), if_pos (Int32.not_le.mp c106)] at q; exact q)
            · rw [e6] at ekw
              refine s_tabIn (tgt := 124) (off := 70) dX11_forge_54 (by rw [ekw]; decide) (by rw [ekw]; decide) (by rw [ekw]; rfl) (by decide) ?_
              refine s_aload_n (pc' := 125) dX11_forge_124 rfl rfl ?_
              refine s_iload (pc' := 127) dX11_forge_125 rfl rfl ?_
              refine s_iload_n (pc' := 128) dX11_forge_127 rfl rfl ?_
              refine s_callV (pc' := 131) (As := [.int _, .int _]) dX11_forge_128 rfl mk_X11_readFromShorts ml_X11_345 im_X11_readFromShorts se_X11_X11_X11_readFromShorts sh_0 (by decide) rfl rfl rfl ⟨Nat.le_of_ble_eq_true rfl, Nat.le_of_ble_eq_true rfl, Nat.le_of_ble_eq_true rfl, Nat.le_of_ble_eq_true rfl⟩ (Nat.le_of_ble_eq_true rfl) (c_X11_readFromShorts hq hs (hS _ hs).2 (hS _ hs).1 (fun u1 => ?_) (fun u1 u2 => ?_) (fun u1 u2 => ?_) (fun u1 j hj ej => ?_))
              · exact s_iret dX11_forge_131 rfl (by decide) (by decide) (by have q := k2 2 (by decide) ekw i13 i22; unfold fgR at q; rw [if_neg (show ¬ (2 : Nat) = 0 by decide), if_neg (show ¬ (2 : Nat) = 1 by decide), if_pos (show (2 : Nat) = 2 by decide), if_pos ((hso _ hs).1.mp u1)] at q; exact q)
              · exact s_iret dX11_forge_131 rfl (by decide) (by decide) (by have q := k2 2 (by decide) ekw i13 i22; unfold fgR at q; rw [if_neg (show ¬ (2 : Nat) = 0 by decide), if_neg (show ¬ (2 : Nat) = 1 by decide), if_pos (show (2 : Nat) = 2 by decide), if_neg (fun z => u1 ((hso _ hs).1.mpr z)), if_neg (fun z => u2 ((hso _ hs).2.2.mpr z))] at q; exact q)
              · exact s_iret dX11_forge_131 rfl (by decide) (by decide) (by have q := k2 2 (by decide) ekw i13 i22; unfold fgR at q; rw [if_neg (show ¬ (2 : Nat) = 0 by decide), if_neg (show ¬ (2 : Nat) = 1 by decide), if_pos (show (2 : Nat) = 2 by decide), if_neg (fun z => by rw [(hso _ hs).2.2.mp u1] at z; exact absurd z (by decide)), if_pos ((hso _ hs).2.2.mp u1), if_neg (fun z => by obtain ⟨jj, q1, q2, -⟩ := toNat_of (x := n) (a := 0) (b := 100) ⟨z.1, i13.2⟩ (Int.le_refl 0); exact u2 jj (by have := z.2; omega) q1)] at q; exact q)
              · have hz40 := (hS _ hs).2
                exact s_iret dX11_forge_131 rfl (by decide) (by decide) (by have q := k2 2 (by decide) ekw i13 i22; unfold fgR at q; rw [if_neg (show ¬ (2 : Nat) = 0 by decide), if_neg (show ¬ (2 : Nat) = 1 by decide), if_pos (show (2 : Nat) = 2 by decide), if_neg (fun z => by rw [(hso _ hs).2.2.mp u1] at z; exact absurd z (by decide)), if_pos ((hso _ hs).2.2.mp u1), if_pos (by rw [ej, nI_toInt (by omega)]; omega)] at q; rw [show n.toInt.toNat = j by rw [ej, nI_toInt (by omega)]; omega, ← hcl _ hs j (by omega)] at q; exact q)
            · rw [e6] at ekw
              refine s_tabIn (tgt := 132) (off := 78) dX11_forge_54 (by rw [ekw]; decide) (by rw [ekw]; decide) (by rw [ekw]; rfl) (by decide) ?_
              refine s_aload_n (pc' := 133) dX11_forge_132 rfl rfl ?_
              refine s_iload (pc' := 135) dX11_forge_133 rfl rfl ?_
              refine s_iload_n (pc' := 136) dX11_forge_135 rfl rfl ?_
              refine s_callV (pc' := 139) (As := [.int _, .int _]) dX11_forge_136 rfl mk_X11_copiedFromBytes ml_X11_348 im_X11_copiedFromBytes se_X11_X11_X11_copiedFromBytes sh_0 (by decide) rfl rfl rfl ⟨Nat.le_of_ble_eq_true rfl, Nat.le_of_ble_eq_true rfl, Nat.le_of_ble_eq_true rfl, Nat.le_of_ble_eq_true rfl⟩ (Nat.le_of_ble_eq_true rfl) (c_X11_copiedFromBytes hq hs (hS _ hs).2 (hS _ hs).1 i13 (fun u1 => ?_) (fun u1 u2 => ?_) (fun u1 u2 => ?_) (fun u1 m m3 mz ej => ?_))
              · exact s_iret dX11_forge_139 rfl (by decide) (by decide) (by have q := k2 3 (by decide) ekw i13 i22; unfold fgR at q; rw [if_neg (show ¬ (3 : Nat) = 0 by decide), if_neg (show ¬ (3 : Nat) = 1 by decide), if_neg (show ¬ (3 : Nat) = 2 by decide), if_pos (show (3 : Nat) = 3 by decide), if_pos ((hso _ hs).1.mp u1)] at q; exact q)
              · exact s_iret dX11_forge_139 rfl (by decide) (by decide) (by have q := k2 3 (by decide) ekw i13 i22; unfold fgR at q; rw [if_neg (show ¬ (3 : Nat) = 0 by decide), if_neg (show ¬ (3 : Nat) = 1 by decide), if_neg (show ¬ (3 : Nat) = 2 by decide), if_pos (show (3 : Nat) = 3 by decide), if_neg (fun z => u1 ((hso _ hs).1.mpr z)), if_neg (fun z => u2 ((hso _ hs).2.1.mpr z))] at q; exact q)
              · exact s_iret dX11_forge_139 rfl (by decide) (by decide) (by have q := k2 3 (by decide) ekw i13 i22; unfold fgR at q; rw [if_neg (show ¬ (3 : Nat) = 0 by decide), if_neg (show ¬ (3 : Nat) = 1 by decide), if_neg (show ¬ (3 : Nat) = 2 by decide), if_pos (show (3 : Nat) = 3 by decide), if_neg (fun z => by rw [(hso _ hs).2.1.mp u1] at z; exact absurd z (by decide)), if_pos ((hso _ hs).2.1.mp u1), if_neg (fun z => u2 (cpOk_iff.mpr z))] at q; exact q)
              · have hz40 := (hS _ hs).2
                exact s_iret dX11_forge_139 rfl (by decide) (by decide) (by have q := k2 3 (by decide) ekw i13 i22; unfold fgR at q; rw [if_neg (show ¬ (3 : Nat) = 0 by decide), if_neg (show ¬ (3 : Nat) = 1 by decide), if_neg (show ¬ (3 : Nat) = 2 by decide), if_pos (show (3 : Nat) = 3 by decide), if_neg (fun z => by rw [(hso _ hs).2.1.mp u1] at z; exact absurd z (by decide)), if_pos ((hso _ hs).2.1.mp u1), if_pos (cpOk_iff.mp ⟨m, m3, mz, ej⟩)] at q; rw [show n.toInt.toNat = m by rw [ej, nI_toInt (by omega)]; omega, ← csX_csm m (fun i hi => hcl _ hs i (by omega))] at q; exact q)
            · rw [e6] at ekw
              refine s_tabIn (tgt := 140) (off := 86) dX11_forge_54 (by rw [ekw]; decide) (by rw [ekw]; decide) (by rw [ekw]; rfl) (by decide) ?_
              refine s_aload_n (pc' := 141) dX11_forge_140 rfl rfl ?_
              refine s_aload (pc' := 143) dX11_forge_141 rfl rfl ?_
              refine s_callV (pc' := 146) (As := [.ref _]) dX11_forge_143 rfl mk_X11_putAmongOpens ml_X11_351 im_X11_putAmongOpens se_X11_X11_X11_putAmongOpens sh_0 (by decide) rfl rfl rfl ⟨Nat.le_of_ble_eq_true rfl, Nat.le_of_ble_eq_true rfl, Nat.le_of_ble_eq_true rfl, Nat.le_of_ble_eq_true rfl⟩ (Nat.le_of_ble_eq_true rfl) (c_X11_putAmongOpens R (fun u => ?_) (fun u => ?_))
              · exact s_iret dX11_forge_146 rfl (by decide) (by decide) (by have q := k2 4 (by decide) ekw i13 i22; unfold fgR at q; rw [if_neg (show ¬ (4 : Nat) = 0 by decide), if_neg (show ¬ (4 : Nat) = 1 by decide), if_neg (show ¬ (4 : Nat) = 2 by decide), if_neg (show ¬ (4 : Nat) = 3 by decide), if_pos (show (4 : Nat) = 4 by decide), if_pos hr, if_pos ((fg_op (X.2.1.2.1 (mdl x 30) hr).1).mp u)] at q; exact q)
              · exact s_iret dX11_forge_146 rfl (by decide) (by decide) (by have q := k2 4 (by decide) ekw i13 i22; unfold fgR at q; rw [if_neg (show ¬ (4 : Nat) = 0 by decide), if_neg (show ¬ (4 : Nat) = 1 by decide), if_neg (show ¬ (4 : Nat) = 2 by decide), if_neg (show ¬ (4 : Nat) = 3 by decide), if_pos (show (4 : Nat) = 4 by decide), if_pos hr, if_neg (fun z => u ((fg_op (X.2.1.2.1 (mdl x 30) hr).1).mpr z))] at q; exact q)
            · rw [e6] at ekw
              refine s_tabIn (tgt := 147) (off := 93) dX11_forge_54 (by rw [ekw]; decide) (by rw [ekw]; decide) (by rw [ekw]; rfl) (by decide) ?_
              refine s_iload_n (pc' := 148) dX11_forge_147 rfl rfl ?_
              refine s_ifne (pc' := 151) (tgt := 160) dX11_forge_148 (by decide) rfl (fun c148 => ?_) (fun c148 => ?_)
              · refine s_aload_n (pc' := 161) dX11_forge_160 rfl rfl ?_
                refine s_sipush (pc' := 164) (v := 1000) dX11_forge_161 rfl (by decide) ?_
                refine s_iload_n (pc' := 165) dX11_forge_164 rfl rfl ?_
                refine s_idiv (pc' := 166) dX11_forge_165 rfl c148 ?_
                refine s_callV (pc' := 169) (As := [.int _]) dX11_forge_166 rfl mk_X11_done ml_X11_100 im_X11_done se_X11_X11_X11_done sh_0 (by decide) rfl rfl rfl ⟨Nat.le_of_ble_eq_true rfl, Nat.le_of_ble_eq_true rfl, Nat.le_of_ble_eq_true rfl, Nat.le_of_ble_eq_true rfl⟩ (Nat.le_of_ble_eq_true rfl) (c_X11_done ?_)
                exact s_iret dX11_forge_169 rfl (by decide) (by decide) (by have q := k2 5 (by decide) ekw i13 i22; unfold fgR at q; rw [if_neg (show ¬ (5 : Nat) = 0 by decide), if_neg (show ¬ (5 : Nat) = 1 by decide), if_neg (show ¬ (5 : Nat) = 2 by decide), if_neg (show ¬ (5 : Nat) = 3 by decide), if_neg (show ¬ (5 : Nat) = 4 by decide), if_pos (show (5 : Nat) = 5 by decide), if_neg c148] at q; exact q)
              · refine s_aload_n (pc' := 152) dX11_forge_151 rfl rfl ?_
                refine s_bipush (pc' := 154) (v := 15) dX11_forge_152 rfl (by decide) ?_
                refine s_callV (pc' := 157) (As := [.int _]) dX11_forge_154 rfl mk_X11_refused ml_X11_87 im_X11_refused se_X11_X11_X11_refused sh_0 (by decide) rfl rfl rfl ⟨Nat.le_of_ble_eq_true rfl, Nat.le_of_ble_eq_true rfl, Nat.le_of_ble_eq_true rfl, Nat.le_of_ble_eq_true rfl⟩ (Nat.le_of_ble_eq_true rfl) (c_X11_refused ?_)
                refine s_goto (tgt := 169) dX11_forge_157 (by decide) ?_
                exact s_iret dX11_forge_169 rfl (by decide) (by decide) (by have q := k2 5 (by decide) ekw i13 i22; unfold fgR at q; rw [if_neg (show ¬ (5 : Nat) = 0 by decide), if_neg (show ¬ (5 : Nat) = 1 by decide), if_neg (show ¬ (5 : Nat) = 2 by decide), if_neg (show ¬ (5 : Nat) = 3 by decide), if_neg (show ¬ (5 : Nat) = 4 by decide), if_pos (show (5 : Nat) = 5 by decide), if_pos (by first | exact c148 | exact Decidable.not_not.mp c148)] at q; exact q)
            · rw [e6] at ekw
              refine s_tabOut (tgt := 170) dX11_forge_54 (by rw [ekw]; decide) (by decide) ?_
              refine s_iload_n (pc' := 171) dX11_forge_170 rfl rfl ?_
              refine s_iconst (pc' := 172) (v := 2) dX11_forge_171 rfl (by decide) ?_
              refine s_callS (pc' := 175) (As := [.int _, .int _]) dX11_forge_172 rfl mk_J9_floorMod_7cf53 ml_X11_336 sm_J9_floorMod_7cf53 rfl rfl ⟨Nat.le_of_ble_eq_true rfl, Nat.le_of_ble_eq_true rfl, Nat.le_of_ble_eq_true rfl, Nat.le_of_ble_eq_true rfl⟩ (Nat.le_of_ble_eq_true rfl) (c_J9_floorMod_7cf53 (by decide) ?_)
              rw [(mdX_in i13).2.2.2]
              refine s_ifne (pc' := 178) (tgt := 187) dX11_forge_175 (by decide) rfl (fun c175 => ?_) (fun c175 => ?_)
              · refine s_aload_n (pc' := 188) dX11_forge_187 rfl rfl ?_
                refine s_iconst (pc' := 189) (v := 1) dX11_forge_188 rfl (by decide) ?_
                refine s_callV (pc' := 192) (As := [.int _]) dX11_forge_189 rfl mk_X11_done ml_X11_100 im_X11_done se_X11_X11_X11_done sh_0 (by decide) rfl rfl rfl ⟨Nat.le_of_ble_eq_true rfl, Nat.le_of_ble_eq_true rfl, Nat.le_of_ble_eq_true rfl, Nat.le_of_ble_eq_true rfl⟩ (Nat.le_of_ble_eq_true rfl) (c_X11_done ?_)
                exact s_iret dX11_forge_192 rfl (by decide) (by decide) (by have q := k2 6 (by decide) ekw i13 i22; unfold fgR at q; rw [if_neg (show ¬ (6 : Nat) = 0 by decide), if_neg (show ¬ (6 : Nat) = 1 by decide), if_neg (show ¬ (6 : Nat) = 2 by decide), if_neg (show ¬ (6 : Nat) = 3 by decide), if_neg (show ¬ (6 : Nat) = 4 by decide), if_neg (show ¬ (6 : Nat) = 5 by decide), if_neg (fun z => c175 (by rw [z]; rfl))] at q; exact q)
              · refine s_aload_n (pc' := 179) dX11_forge_178 rfl rfl ?_
                refine s_bipush (pc' := 181) (v := 10) dX11_forge_179 rfl (by decide) ?_
                refine s_callV (pc' := 184) (As := [.int _]) dX11_forge_181 rfl mk_X11_refused ml_X11_87 im_X11_refused se_X11_X11_X11_refused sh_0 (by decide) rfl rfl rfl ⟨Nat.le_of_ble_eq_true rfl, Nat.le_of_ble_eq_true rfl, Nat.le_of_ble_eq_true rfl, Nat.le_of_ble_eq_true rfl⟩ (Nat.le_of_ble_eq_true rfl) (c_X11_refused ?_)
                refine s_goto (tgt := 192) dX11_forge_184 (by decide) ?_
                exact s_iret dX11_forge_192 rfl (by decide) (by decide) (by have q := k2 6 (by decide) ekw i13 i22; unfold fgR at q; rw [if_neg (show ¬ (6 : Nat) = 0 by decide), if_neg (show ¬ (6 : Nat) = 1 by decide), if_neg (show ¬ (6 : Nat) = 2 by decide), if_neg (show ¬ (6 : Nat) = 3 by decide), if_neg (show ¬ (6 : Nat) = 4 by decide), if_neg (show ¬ (6 : Nat) = 5 by decide), if_pos (ixe (b := 0) (by first | exact c175 | exact Decidable.not_not.mp c175) (by have := mdl_lt (x := n) (m := 2) (by decide); omega) (by decide))] at q; exact q)
          · have nn : ¬ mdl x 30 < nr := fun z => nn0 _ z rfl
            refine t_astoreN (pc' := 46) (L' := [.ref 0, .int _, .int _, .int _, .null, .retAddr _]) dX11_forge_44 rfl (Nat.le_of_ble_eq_true rfl) rfl ?_
            refine s_iload_n (pc' := 47) dX11_forge_46 rfl rfl ?_
            refine s_iconst (pc' := 48) (v := 4) dX11_forge_47 rfl (by decide) ?_
            refine s_callS (pc' := 51) (As := [.int _, .int _]) dX11_forge_48 rfl mk_J9_floorMod_7cf53 ml_X11_336 sm_J9_floorMod_7cf53 rfl rfl ⟨Nat.le_of_ble_eq_true rfl, Nat.le_of_ble_eq_true rfl, Nat.le_of_ble_eq_true rfl, Nat.le_of_ble_eq_true rfl⟩ (Nat.le_of_ble_eq_true rfl) (c_J9_floorMod_7cf53 (by decide) ?_)
            rw [(mdX_in i22).2.1]
            refine t_istore (pc' := 53) (L' := [.ref 0, .int _, .int _, .int _, .null, .int _]) dX11_forge_51 rfl (Nat.le_of_ble_eq_true rfl) rfl ?_
            refine s_iload_n (pc' := 54) dX11_forge_53 rfl rfl ?_
            obtain ⟨kw, hkw, ekw⟩ := in_n (show inR wh 0 (6 : Nat) from iw)
            rcases (show kw = 0 ∨ kw = 1 ∨ kw = 2 ∨ kw = 3 ∨ kw = 4 ∨ kw = 5 ∨ kw = 6 by omega) with e6 | e6 | e6 | e6 | e6 | e6 | e6
            · rw [e6] at ekw
              refine s_tabIn (tgt := 92) (off := 38) dX11_forge_54 (by rw [ekw]; decide) (by rw [ekw]; decide) (by rw [ekw]; rfl) (by decide) ?_
              refine s_aload_n (pc' := 93) dX11_forge_92 rfl rfl ?_
              refine s_aloadN (pc' := 95) dX11_forge_93 rfl rfl ?_
              refine s_iload_n (pc' := 96) dX11_forge_95 rfl rfl ?_
              refine s_bipush (pc' := 98) (v := 7) dX11_forge_96 rfl (by decide) ?_
              refine s_callS (pc' := 101) (As := [.int _, .int _]) dX11_forge_98 rfl mk_J9_floorMod_7cf53 ml_X11_336 sm_J9_floorMod_7cf53 rfl rfl ⟨Nat.le_of_ble_eq_true rfl, Nat.le_of_ble_eq_true rfl, Nat.le_of_ble_eq_true rfl, Nat.le_of_ble_eq_true rfl⟩ (Nat.le_of_ble_eq_true rfl) (c_J9_floorMod_7cf53 (by decide) ?_)
              rw [(mdX_in i13).2.2.1]
              refine s_callV (pc' := 104) (As := [.null, .int _]) dX11_forge_101 rfl mk_X11_takenForKind ml_X11_341 im_X11_takenForKind se_X11_X11_X11_takenForKind sh_0 (by decide) rfl rfl rfl ⟨Nat.le_of_ble_eq_true rfl, Nat.le_of_ble_eq_true rfl, Nat.le_of_ble_eq_true rfl, Nat.le_of_ble_eq_true rfl⟩ (Nat.le_of_ble_eq_true rfl) (c_X11_takenForKindN ?_)
              exact s_iret dX11_forge_104 rfl (by decide) (by decide) (by have q := k2 0 (by decide) ekw i13 i22; unfold fgR at q; rw [if_pos (show (0 : Nat) = 0 by decide), if_neg nn] at q; exact q)
            · rw [e6] at ekw
              refine s_tabIn (tgt := 105) (off := 51) dX11_forge_54 (by rw [ekw]; decide) (by rw [ekw]; decide) (by rw [ekw]; rfl) (by decide) ?_
              refine s_iload_n (pc' := 106) dX11_forge_105 rfl rfl ?_
              refine s_ifge (pc' := 109) (tgt := 118) dX11_forge_106 (by decide) rfl (fun c106 => ?_) (fun c106 => ?_)
              · refine s_aload_n (pc' := 119) dX11_forge_118 rfl rfl ?_
                refine s_iload_n (pc' := 120) dX11_forge_119 rfl rfl ?_
                refine s_callV (pc' := 123) (As := [.int _]) dX11_forge_120 rfl mk_X11_done ml_X11_100 im_X11_done se_X11_X11_X11_done sh_0 (by decide) rfl rfl rfl ⟨Nat.le_of_ble_eq_true rfl, Nat.le_of_ble_eq_true rfl, Nat.le_of_ble_eq_true rfl, Nat.le_of_ble_eq_true rfl⟩ (Nat.le_of_ble_eq_true rfl) (c_X11_done ?_)
                exact s_iret dX11_forge_123 rfl (by decide) (by decide) (by have q := k2 1 (by decide) ekw i13 i22; unfold fgR at q; rw [if_neg (show ¬ (1 : Nat) = 0 by decide), if_pos (show (1 : Nat) = 1 by decide), if_neg (Int32.not_lt.mpr c106)] at q; exact q)
              · refine s_aload_n (pc' := 110) dX11_forge_109 rfl rfl ?_
                refine s_bipush (pc' := 112) (v := 13) dX11_forge_110 rfl (by decide) ?_
                refine s_callV (pc' := 115) (As := [.int _]) dX11_forge_112 rfl mk_X11_refused ml_X11_87 im_X11_refused se_X11_X11_X11_refused sh_0 (by decide) rfl rfl rfl ⟨Nat.le_of_ble_eq_true rfl, Nat.le_of_ble_eq_true rfl, Nat.le_of_ble_eq_true rfl, Nat.le_of_ble_eq_true rfl⟩ (Nat.le_of_ble_eq_true rfl) (c_X11_refused ?_)
                refine s_goto (tgt := 123) dX11_forge_115 (by decide) ?_
                exact s_iret dX11_forge_123 rfl (by decide) (by decide) (by have q := k2 1 (by decide) ekw i13 i22; unfold fgR at q; rw [if_neg (show ¬ (1 : Nat) = 0 by decide), if_pos (show (1 : Nat) = 1 by decide), if_pos (Int32.not_le.mp c106)] at q; exact q)
            · rw [e6] at ekw
              refine s_tabIn (tgt := 124) (off := 70) dX11_forge_54 (by rw [ekw]; decide) (by rw [ekw]; decide) (by rw [ekw]; rfl) (by decide) ?_
              refine s_aload_n (pc' := 125) dX11_forge_124 rfl rfl ?_
              refine s_iload (pc' := 127) dX11_forge_125 rfl rfl ?_
              refine s_iload_n (pc' := 128) dX11_forge_127 rfl rfl ?_
              refine s_callV (pc' := 131) (As := [.int _, .int _]) dX11_forge_128 rfl mk_X11_readFromShorts ml_X11_345 im_X11_readFromShorts se_X11_X11_X11_readFromShorts sh_0 (by decide) rfl rfl rfl ⟨Nat.le_of_ble_eq_true rfl, Nat.le_of_ble_eq_true rfl, Nat.le_of_ble_eq_true rfl, Nat.le_of_ble_eq_true rfl⟩ (Nat.le_of_ble_eq_true rfl) (c_X11_readFromShorts hq hs (hS _ hs).2 (hS _ hs).1 (fun u1 => ?_) (fun u1 u2 => ?_) (fun u1 u2 => ?_) (fun u1 j hj ej => ?_))
              · exact s_iret dX11_forge_131 rfl (by decide) (by decide) (by have q := k2 2 (by decide) ekw i13 i22; unfold fgR at q; rw [if_neg (show ¬ (2 : Nat) = 0 by decide), if_neg (show ¬ (2 : Nat) = 1 by decide), if_pos (show (2 : Nat) = 2 by decide), if_pos ((hso _ hs).1.mp u1)] at q; exact q)
              · exact s_iret dX11_forge_131 rfl (by decide) (by decide) (by have q := k2 2 (by decide) ekw i13 i22; unfold fgR at q; rw [if_neg (show ¬ (2 : Nat) = 0 by decide), if_neg (show ¬ (2 : Nat) = 1 by decide), if_pos (show (2 : Nat) = 2 by decide), if_neg (fun z => u1 ((hso _ hs).1.mpr z)), if_neg (fun z => u2 ((hso _ hs).2.2.mpr z))] at q; exact q)
              · exact s_iret dX11_forge_131 rfl (by decide) (by decide) (by have q := k2 2 (by decide) ekw i13 i22; unfold fgR at q; rw [if_neg (show ¬ (2 : Nat) = 0 by decide), if_neg (show ¬ (2 : Nat) = 1 by decide), if_pos (show (2 : Nat) = 2 by decide), if_neg (fun z => by rw [(hso _ hs).2.2.mp u1] at z; exact absurd z (by decide)), if_pos ((hso _ hs).2.2.mp u1), if_neg (fun z => by obtain ⟨jj, q1, q2, -⟩ := toNat_of (x := n) (a := 0) (b := 100) ⟨z.1, i13.2⟩ (Int.le_refl 0); exact u2 jj (by have := z.2; omega) q1)] at q; exact q)
              · have hz40 := (hS _ hs).2
                exact s_iret dX11_forge_131 rfl (by decide) (by decide) (by have q := k2 2 (by decide) ekw i13 i22; unfold fgR at q; rw [if_neg (show ¬ (2 : Nat) = 0 by decide), if_neg (show ¬ (2 : Nat) = 1 by decide), if_pos (show (2 : Nat) = 2 by decide), if_neg (fun z => by rw [(hso _ hs).2.2.mp u1] at z; exact absurd z (by decide)), if_pos ((hso _ hs).2.2.mp u1), if_pos (by rw [ej, nI_toInt (by omega)]; omega)] at q; rw [show n.toInt.toNat = j by rw [ej, nI_toInt (by omega)]; omega, ← hcl _ hs j (by omega)] at q; exact q)
            · rw [e6] at ekw
              refine s_tabIn (tgt := 132) (off := 78) dX11_forge_54 (by rw [ekw]; decide) (by rw [ekw]; decide) (by rw [ekw]; rfl) (by decide) ?_
              refine s_aload_n (pc' := 133) dX11_forge_132 rfl rfl ?_
              refine s_iload (pc' := 135) dX11_forge_133 rfl rfl ?_
              refine s_iload_n (pc' := 136) dX11_forge_135 rfl rfl ?_
              refine s_callV (pc' := 139) (As := [.int _, .int _]) dX11_forge_136 rfl mk_X11_copiedFromBytes ml_X11_348 im_X11_copiedFromBytes se_X11_X11_X11_copiedFromBytes sh_0 (by decide) rfl rfl rfl ⟨Nat.le_of_ble_eq_true rfl, Nat.le_of_ble_eq_true rfl, Nat.le_of_ble_eq_true rfl, Nat.le_of_ble_eq_true rfl⟩ (Nat.le_of_ble_eq_true rfl) (c_X11_copiedFromBytes hq hs (hS _ hs).2 (hS _ hs).1 i13 (fun u1 => ?_) (fun u1 u2 => ?_) (fun u1 u2 => ?_) (fun u1 m m3 mz ej => ?_))
              · exact s_iret dX11_forge_139 rfl (by decide) (by decide) (by have q := k2 3 (by decide) ekw i13 i22; unfold fgR at q; rw [if_neg (show ¬ (3 : Nat) = 0 by decide), if_neg (show ¬ (3 : Nat) = 1 by decide), if_neg (show ¬ (3 : Nat) = 2 by decide), if_pos (show (3 : Nat) = 3 by decide), if_pos ((hso _ hs).1.mp u1)] at q; exact q)
              · exact s_iret dX11_forge_139 rfl (by decide) (by decide) (by have q := k2 3 (by decide) ekw i13 i22; unfold fgR at q; rw [if_neg (show ¬ (3 : Nat) = 0 by decide), if_neg (show ¬ (3 : Nat) = 1 by decide), if_neg (show ¬ (3 : Nat) = 2 by decide), if_pos (show (3 : Nat) = 3 by decide), if_neg (fun z => u1 ((hso _ hs).1.mpr z)), if_neg (fun z => u2 ((hso _ hs).2.1.mpr z))] at q; exact q)
              · exact s_iret dX11_forge_139 rfl (by decide) (by decide) (by have q := k2 3 (by decide) ekw i13 i22; unfold fgR at q; rw [if_neg (show ¬ (3 : Nat) = 0 by decide), if_neg (show ¬ (3 : Nat) = 1 by decide), if_neg (show ¬ (3 : Nat) = 2 by decide), if_pos (show (3 : Nat) = 3 by decide), if_neg (fun z => by rw [(hso _ hs).2.1.mp u1] at z; exact absurd z (by decide)), if_pos ((hso _ hs).2.1.mp u1), if_neg (fun z => u2 (cpOk_iff.mpr z))] at q; exact q)
              · have hz40 := (hS _ hs).2
                exact s_iret dX11_forge_139 rfl (by decide) (by decide) (by have q := k2 3 (by decide) ekw i13 i22; unfold fgR at q; rw [if_neg (show ¬ (3 : Nat) = 0 by decide), if_neg (show ¬ (3 : Nat) = 1 by decide), if_neg (show ¬ (3 : Nat) = 2 by decide), if_pos (show (3 : Nat) = 3 by decide), if_neg (fun z => by rw [(hso _ hs).2.1.mp u1] at z; exact absurd z (by decide)), if_pos ((hso _ hs).2.1.mp u1), if_pos (cpOk_iff.mp ⟨m, m3, mz, ej⟩)] at q; rw [show n.toInt.toNat = m by rw [ej, nI_toInt (by omega)]; omega, ← csX_csm m (fun i hi => hcl _ hs i (by omega))] at q; exact q)
            · rw [e6] at ekw
              refine s_tabIn (tgt := 140) (off := 86) dX11_forge_54 (by rw [ekw]; decide) (by rw [ekw]; decide) (by rw [ekw]; rfl) (by decide) ?_
              refine s_aload_n (pc' := 141) dX11_forge_140 rfl rfl ?_
              refine s_aloadN (pc' := 143) dX11_forge_141 rfl rfl ?_
              refine s_callV (pc' := 146) (As := [.null]) dX11_forge_143 rfl mk_X11_putAmongOpens ml_X11_351 im_X11_putAmongOpens se_X11_X11_X11_putAmongOpens sh_0 (by decide) rfl rfl rfl ⟨Nat.le_of_ble_eq_true rfl, Nat.le_of_ble_eq_true rfl, Nat.le_of_ble_eq_true rfl, Nat.le_of_ble_eq_true rfl⟩ (Nat.le_of_ble_eq_true rfl) (c_X11_putAmongOpensN ?_)
              exact s_iret dX11_forge_146 rfl (by decide) (by decide) (by have q := k2 4 (by decide) ekw i13 i22; unfold fgR at q; rw [if_neg (show ¬ (4 : Nat) = 0 by decide), if_neg (show ¬ (4 : Nat) = 1 by decide), if_neg (show ¬ (4 : Nat) = 2 by decide), if_neg (show ¬ (4 : Nat) = 3 by decide), if_pos (show (4 : Nat) = 4 by decide), if_neg nn] at q; exact q)
            · rw [e6] at ekw
              refine s_tabIn (tgt := 147) (off := 93) dX11_forge_54 (by rw [ekw]; decide) (by rw [ekw]; decide) (by rw [ekw]; rfl) (by decide) ?_
              refine s_iload_n (pc' := 148) dX11_forge_147 rfl rfl ?_
              refine s_ifne (pc' := 151) (tgt := 160) dX11_forge_148 (by decide) rfl (fun c148 => ?_) (fun c148 => ?_)
              · refine s_aload_n (pc' := 161) dX11_forge_160 rfl rfl ?_
                refine s_sipush (pc' := 164) (v := 1000) dX11_forge_161 rfl (by decide) ?_
                refine s_iload_n (pc' := 165) dX11_forge_164 rfl rfl ?_
                refine s_idiv (pc' := 166) dX11_forge_165 rfl c148 ?_
                refine s_callV (pc' := 169) (As := [.int _]) dX11_forge_166 rfl mk_X11_done ml_X11_100 im_X11_done se_X11_X11_X11_done sh_0 (by decide) rfl rfl rfl ⟨Nat.le_of_ble_eq_true rfl, Nat.le_of_ble_eq_true rfl, Nat.le_of_ble_eq_true rfl, Nat.le_of_ble_eq_true rfl⟩ (Nat.le_of_ble_eq_true rfl) (c_X11_done ?_)
                exact s_iret dX11_forge_169 rfl (by decide) (by decide) (by have q := k2 5 (by decide) ekw i13 i22; unfold fgR at q; rw [if_neg (show ¬ (5 : Nat) = 0 by decide), if_neg (show ¬ (5 : Nat) = 1 by decide), if_neg (show ¬ (5 : Nat) = 2 by decide), if_neg (show ¬ (5 : Nat) = 3 by decide), if_neg (show ¬ (5 : Nat) = 4 by decide), if_pos (show (5 : Nat) = 5 by decide), if_neg c148] at q; exact q)
              · refine s_aload_n (pc' := 152) dX11_forge_151 rfl rfl ?_
                refine s_bipush (pc' := 154) (v := 15) dX11_forge_152 rfl (by decide) ?_
                refine s_callV (pc' := 157) (As := [.int _]) dX11_forge_154 rfl mk_X11_refused ml_X11_87 im_X11_refused se_X11_X11_X11_refused sh_0 (by decide) rfl rfl rfl ⟨Nat.le_of_ble_eq_true rfl, Nat.le_of_ble_eq_true rfl, Nat.le_of_ble_eq_true rfl, Nat.le_of_ble_eq_true rfl⟩ (Nat.le_of_ble_eq_true rfl) (c_X11_refused ?_)
                refine s_goto (tgt := 169) dX11_forge_157 (by decide) ?_
                exact s_iret dX11_forge_169 rfl (by decide) (by decide) (by have q := k2 5 (by decide) ekw i13 i22; unfold fgR at q; rw [if_neg (show ¬ (5 : Nat) = 0 by decide), if_neg (show ¬ (5 : Nat) = 1 by decide), if_neg (show ¬ (5 : Nat) = 2 by decide), if_neg (show ¬ (5 : Nat) = 3 by decide), if_neg (show ¬ (5 : Nat) = 4 by decide), if_pos (show (5 : Nat) = 5 by decide), if_pos (by first | exact c148 | exact Decidable.not_not.mp c148)] at q; exact q)
            · rw [e6] at ekw
              refine s_tabOut (tgt := 170) dX11_forge_54 (by rw [ekw]; decide) (by decide) ?_
              refine s_iload_n (pc' := 171) dX11_forge_170 rfl rfl ?_
              refine s_iconst (pc' := 172) (v := 2) dX11_forge_171 rfl (by decide) ?_
              refine s_callS (pc' := 175) (As := [.int _, .int _]) dX11_forge_172 rfl mk_J9_floorMod_7cf53 ml_X11_336 sm_J9_floorMod_7cf53 rfl rfl ⟨Nat.le_of_ble_eq_true rfl, Nat.le_of_ble_eq_true rfl, Nat.le_of_ble_eq_true rfl, Nat.le_of_ble_eq_true rfl⟩ (Nat.le_of_ble_eq_true rfl) (c_J9_floorMod_7cf53 (by decide) ?_)
              rw [(mdX_in i13).2.2.2]
              refine s_ifne (pc' := 178) (tgt := 187) dX11_forge_175 (by decide) rfl (fun c175 => ?_) (fun c175 => ?_)
              · refine s_aload_n (pc' := 188) dX11_forge_187 rfl rfl ?_
                refine s_iconst (pc' := 189) (v := 1) dX11_forge_188 rfl (by decide) ?_
                refine s_callV (pc' := 192) (As := [.int _]) dX11_forge_189 rfl mk_X11_done ml_X11_100 im_X11_done se_X11_X11_X11_done sh_0 (by decide) rfl rfl rfl ⟨Nat.le_of_ble_eq_true rfl, Nat.le_of_ble_eq_true rfl, Nat.le_of_ble_eq_true rfl, Nat.le_of_ble_eq_true rfl⟩ (Nat.le_of_ble_eq_true rfl) (c_X11_done ?_)
                exact s_iret dX11_forge_192 rfl (by decide) (by decide) (by have q := k2 6 (by decide) ekw i13 i22; unfold fgR at q; rw [if_neg (show ¬ (6 : Nat) = 0 by decide), if_neg (show ¬ (6 : Nat) = 1 by decide), if_neg (show ¬ (6 : Nat) = 2 by decide), if_neg (show ¬ (6 : Nat) = 3 by decide), if_neg (show ¬ (6 : Nat) = 4 by decide), if_neg (show ¬ (6 : Nat) = 5 by decide), if_neg (fun z => c175 (by rw [z]; rfl))] at q; exact q)
              · refine s_aload_n (pc' := 179) dX11_forge_178 rfl rfl ?_
                refine s_bipush (pc' := 181) (v := 10) dX11_forge_179 rfl (by decide) ?_
                refine s_callV (pc' := 184) (As := [.int _]) dX11_forge_181 rfl mk_X11_refused ml_X11_87 im_X11_refused se_X11_X11_X11_refused sh_0 (by decide) rfl rfl rfl ⟨Nat.le_of_ble_eq_true rfl, Nat.le_of_ble_eq_true rfl, Nat.le_of_ble_eq_true rfl, Nat.le_of_ble_eq_true rfl⟩ (Nat.le_of_ble_eq_true rfl) (c_X11_refused ?_)
                refine s_goto (tgt := 192) dX11_forge_184 (by decide) ?_
                exact s_iret dX11_forge_192 rfl (by decide) (by decide) (by have q := k2 6 (by decide) ekw i13 i22; unfold fgR at q; rw [if_neg (show ¬ (6 : Nat) = 0 by decide), if_neg (show ¬ (6 : Nat) = 1 by decide), if_neg (show ¬ (6 : Nat) = 2 by decide), if_neg (show ¬ (6 : Nat) = 3 by decide), if_neg (show ¬ (6 : Nat) = 4 by decide), if_neg (show ¬ (6 : Nat) = 5 by decide), if_pos (ixe (b := 0) (by first | exact c175 | exact Decidable.not_not.mp c175) (by have := mdl_lt (x := n) (m := 2) (by decide); omega) (by decide))] at q; exact q)
        · refine s_ifneF (pc' := 28) (tgt := 34) dX11_forge_25 (by decide) rfl (by decide) ?_
          refine s_aload_n (pc' := 29) dX11_forge_28 rfl rfl ?_
          refine s_iconst (pc' := 30) (v := 1) dX11_forge_29 rfl (by decide) ?_
          refine s_callV (pc' := 33) (As := [.int _]) dX11_forge_30 rfl mk_X11_refused ml_X11_87 im_X11_refused se_X11_X11_X11_refused sh_0 (by decide) rfl rfl rfl ⟨Nat.le_of_ble_eq_true rfl, Nat.le_of_ble_eq_true rfl, Nat.le_of_ble_eq_true rfl, Nat.le_of_ble_eq_true rfl⟩ (Nat.le_of_ble_eq_true rfl) (c_X11_refused ?_)
          exact s_iret dX11_forge_33 rfl (by decide) (by decide) (k1 (Or.inr (Or.inr i22)))
      · refine s_ifeqT (tgt := 28) dX11_forge_16 (by decide) (by decide) ?_
        refine s_aload_n (pc' := 29) dX11_forge_28 rfl rfl ?_
        refine s_iconst (pc' := 30) (v := 1) dX11_forge_29 rfl (by decide) ?_
        refine s_callV (pc' := 33) (As := [.int _]) dX11_forge_30 rfl mk_X11_refused ml_X11_87 im_X11_refused se_X11_X11_X11_refused sh_0 (by decide) rfl rfl rfl ⟨Nat.le_of_ble_eq_true rfl, Nat.le_of_ble_eq_true rfl, Nat.le_of_ble_eq_true rfl, Nat.le_of_ble_eq_true rfl⟩ (Nat.le_of_ble_eq_true rfl) (c_X11_refused ?_)
        exact s_iret dX11_forge_33 rfl (by decide) (by decide) (k1 (Or.inr (Or.inl i13)))
