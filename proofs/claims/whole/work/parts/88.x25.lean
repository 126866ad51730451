/-! ===== dice ===== -/
/-- what dice() tells: g the number, c dice of s sides, w what is asked -/
def diS (g : Int64) (c s : Int32) (w : Nat) : Int64 :=
  if w = 0 then g + c.toInt64 else if w = 1 then g + (c * s).toInt64
  else if w = 2 then (if c * (s + 1) - c * (s + 1) / 2 * 2 = 0 then g + (c * (s + 1) / 2).toInt64 else g * 2 + (c * (s + 1)).toInt64)
  else (if c * (s + 1) - c * (s + 1) / 2 * 2 = 0 then 1 else 2)
set_option maxHeartbeats 200000 in
theorem c_X1_numberOnB {N : Nat} {S : Nat → Nat × Nat} {I : Nat → Nat → Int32} {J : Nat → Nat → Int64} {Q : Nat → Nat → Option Nat} {κ : Option Value → HP → Prop} {D : Nat → Nat → Int32} {nv nr ns : Nat} {ad td : Nat → Nat} {e : Nat} (X : XB N S I J Q D nv nr ns ad td e) {b v : Nat} (hb : b < 256) (hv : v < nv) (hk : nb (gS D nv nr ns b v) (2 ^ 60) → ∀ I' J' Q', WW I I' J J' Q Q' → XB N S I' J' Q' D nv nr ns ad td e → κ (some (.long (gS D nv nr ns b v))) (N, S, I', J', Q')) : CT E1 M_X1_numberOn [.ref 23, .int (nI v), .int (nI b)] (N, S, I, J, Q) κ := by
  refine ofSP mk_X1_numberOn (Nat.le_of_ble_eq_true rfl) (L := [.ref 23, .int _, .int _]) rfl ?_
  refine s_aload_n (pc' := 1) dX1_numberOn_0 rfl rfl ?_
  refine s_iload_n (pc' := 2) dX1_numberOn_1 rfl rfl ?_
  refine s_callV (pc' := 5) (As := [.int _]) dX1_numberOn_2 rfl mk_X1_write ml_X1_67 im_X1_write se_X1_X1_X1_write sh_23 (by decide) rfl rfl rfl ⟨Nat.le_of_ble_eq_true rfl, Nat.le_of_ble_eq_true rfl, Nat.le_of_ble_eq_true rfl, Nat.le_of_ble_eq_true rfl⟩ (Nat.le_of_ble_eq_true rfl) (c_X1_write X (b := b) hb (fun I1 J1 Q1 w1 X1 p1 => ?_))
  refine s_aload_n (pc' := 6) dX1_numberOn_5 rfl rfl ?_
  refine s_getS (pc' := 9) (b := 38) dX1_numberOn_6 rfl (by decide) rfl (by decide) fa_X1_29_1 rfl rfl ?_
  refine s_iload_n (pc' := 10) dX1_numberOn_9 rfl rfl ?_
  refine s_bipush (pc' := 12) (v := 10) dX1_numberOn_10 rfl (by decide) ?_
  refine s_imul (pc' := 13) dX1_numberOn_12 rfl ?_
  refine s_iload_n (pc' := 14) dX1_numberOn_13 rfl rfl ?_
  refine s_iadd (pc' := 15) dX1_numberOn_14 rfl ?_
  refine t_lald (pc' := 16) (q := 10 * b + v) dX1_numberOn_15 rfl sh_38 (by show nI b * nI 10 + nI v = _; rw [pk_mul, nI_add, Nat.mul_comm]) (by have := X.2.1.nv; omega) ?_
  exact s_lret dX1_numberOn_16 rfl (by decide) (by decide) (by have zz := (X1.page hb p1).1 v hv; have z := zz.1; unfold gX at z; rw [z]; exact hk zz.2 I1 J1 Q1 w1 X1)
set_option maxHeartbeats 200000 in
theorem c_X11_numberNowB {N : Nat} {S : Nat → Nat × Nat} {I : Nat → Nat → Int32} {J : Nat → Nat → Int64} {Q : Nat → Nat → Option Nat} {κ : Option Value → HP → Prop} {D : Nat → Nat → Int32} {nv nr ns : Nat} {ad td : Nat → Nat} {e : Nat} (X : XB N S I J Q D nv nr ns ad td e) {md : Nat} (hm : D 75 3 = nI md) (hmd : md < 256) {v : Nat} (hv : v < nv) (hk : nb (gS D nv nr ns md v) (2 ^ 60) → ∀ I' J' Q', WW I I' J J' Q Q' → XB N S I' J' Q' D nv nr ns ad td e → κ (some (.long (gS D nv nr ns md v))) (N, S, I', J', Q')) : CT E1 M_X11_numberNow [.ref 0, .int (nI v)] (N, S, I, J, Q) κ := by
  refine ofSP mk_X11_numberNow (Nat.le_of_ble_eq_true rfl) (L := [.ref 0, .int _]) rfl ?_
  refine s_aload_n (pc' := 1) dX11_numberNow_0 rfl rfl ?_
  refine s_getS (pc' := 4) (b := 23) dX11_numberNow_1 rfl (by decide) rfl (by decide) fa_X11_24_11 rfl rfl ?_
  refine s_iload_n (pc' := 5) dX11_numberNow_4 rfl rfl ?_
  refine s_aload_n (pc' := 6) dX11_numberNow_5 rfl rfl ?_
  refine s_getS (pc' := 9) (b := 1) dX11_numberNow_6 rfl (by decide) rfl (by decide) fa_X11_10_11 rfl rfl ?_
  refine t_getI (pc' := 12) dX11_numberNow_9 rfl sh_1 (by decide) fa_X11_142_8 rfl ?_
  rw [X.1.md, hm]
  refine s_callV (pc' := 15) (As := [.int _, .int _]) dX11_numberNow_12 rfl mk_X1_numberOn ml_X11_212 im_X1_numberOn se_X1_X1_X1_numberOn sh_23 (by decide) rfl rfl rfl ⟨Nat.le_of_ble_eq_true rfl, Nat.le_of_ble_eq_true rfl, Nat.le_of_ble_eq_true rfl, Nat.le_of_ble_eq_true rfl⟩ (Nat.le_of_ble_eq_true rfl) (c_X1_numberOnB X hmd hv (fun nbg I1 J1 Q1 w1 X1 => ?_))
  exact s_lret dX11_numberNow_15 rfl (by decide) (by decide) (hk nbg I1 J1 Q1 w1 X1)
set_option maxHeartbeats 200000 in
theorem c_X11_dice {N : Nat} {S : Nat → Nat × Nat} {I : Nat → Nat → Int32} {J : Nat → Nat → Int64} {Q : Nat → Nat → Option Nat} {κ : Option Value → HP → Prop} {D : Nat → Nat → Int32} {nv nr ns : Nat} {ad td : Nat → Nat} {e : Nat} (X : XB N S I J Q D nv nr ns ad td e) {md : Nat} (hm : D 75 3 = nI md) (hmd : md < 256) {x w : Int32} (k1 : (∀ v, v < nv → x = nI v → D 55 v ≠ 3) → κ (some (.long (-1000000000000))) (N, S, I, J, Q)) (k2 : ∀ v, v < nv → x = nI v → D 55 v = 3 → ¬ inR w 0 (3 : Nat) → ∀ I' J' Q', WQ I I' J J' Q Q' → XB N S I' J' Q' D nv nr ns ad td e → κ (some (.long (-1000000000000))) (N, S, I', J', Q')) (k3 : ∀ v, v < nv → x = nI v → D 55 v = 3 → ∀ q, q < 4 → w = nI q → nb (gS D nv nr ns md v) (2 ^ 60) → ∀ I' J' Q', WQ I I' J J' Q Q' → XB N S I' J' Q' D nv nr ns ad td e → κ (some (.long (diS (gS D nv nr ns md v) (D 57 v) (D 58 v) q))) (N, S, I', J', Q')) : CT E1 M_X11_dice [.ref 0, .int x, .int w] (N, S, I, J, Q) κ := by
  refine ofSP mk_X11_dice (Nat.le_of_ble_eq_true rfl) (L := [.ref 0, .int _, .int _, .retAddr _, .retAddr _, .retAddr _, .retAddr _, .retAddr _, .retAddr _]) rfl ?_
  refine s_aload_n (pc' := 1) dX11_dice_0 rfl rfl ?_
  refine s_iload_n (pc' := 2) dX11_dice_1 rfl rfl ?_
  refine s_iconst (pc' := 3) (v := 3) dX11_dice_2 rfl (by decide) ?_
  refine s_callV (pc' := 6) (As := [.int _, .int _]) dX11_dice_3 rfl mk_X11_isOfKind ml_X11_166 im_X11_isOfKind se_X11_X11_X11_isOfKind sh_0 (by decide) rfl rfl rfl ⟨Nat.le_of_ble_eq_true rfl, Nat.le_of_ble_eq_true rfl, Nat.le_of_ble_eq_true rfl, Nat.le_of_ble_eq_true rfl⟩ (Nat.le_of_ble_eq_true rfl) (c_X11_isOfKind X.1.xv X.2.1.nv (fun j3 hj3 e3 o3 => ?_) (fun n3 => ?_))
  · subst e3
    refine s_ifneT (tgt := 13) dX11_dice_6 (by decide) (by decide) ?_
    have h55 : D 55 j3 = 3 := by rw [← (X.rd hj3).1]; exact o3
    have hn10 := X.2.1.nv
    refine s_aload_n (pc' := 14) dX11_dice_13 rfl rfl ?_
    refine s_getS (pc' := 17) (b := 1) dX11_dice_14 rfl (by decide) rfl (by decide) fa_X11_10_11 rfl rfl ?_
    refine s_iload_n (pc' := 18) dX11_dice_17 rfl rfl ?_
    refine s_callV (pc' := 21) (As := [.int _]) dX11_dice_18 rfl mk_X8_diceCount ml_X11_185 im_X8_diceCount se_X8_X8_X8_diceCount sh_1 (by decide) rfl rfl rfl ⟨Nat.le_of_ble_eq_true rfl, Nat.le_of_ble_eq_true rfl, Nat.le_of_ble_eq_true rfl, Nat.le_of_ble_eq_true rfl⟩ (Nat.le_of_ble_eq_true rfl) (c_X8_diceCount (by omega) ?_)
    rw [(dpk X hj3).1]
    refine t_istore_n (pc' := 22) (L' := [.ref 0, .int _, .int _, .int _, .retAddr _, .retAddr _, .retAddr _, .retAddr _, .retAddr _]) dX11_dice_21 rfl (Nat.le_of_ble_eq_true rfl) rfl ?_
    refine s_aload_n (pc' := 23) dX11_dice_22 rfl rfl ?_
    refine s_getS (pc' := 26) (b := 1) dX11_dice_23 rfl (by decide) rfl (by decide) fa_X11_10_11 rfl rfl ?_
    refine s_iload_n (pc' := 27) dX11_dice_26 rfl rfl ?_
    refine s_callV (pc' := 30) (As := [.int _]) dX11_dice_27 rfl mk_X8_diceSides ml_X11_188 im_X8_diceSides se_X8_X8_X8_diceSides sh_1 (by decide) rfl rfl rfl ⟨Nat.le_of_ble_eq_true rfl, Nat.le_of_ble_eq_true rfl, Nat.le_of_ble_eq_true rfl, Nat.le_of_ble_eq_true rfl⟩ (Nat.le_of_ble_eq_true rfl) (c_X8_diceSides (by omega) ?_)
    rw [(dpk X hj3).2]
    refine t_istore (pc' := 32) (L' := [.ref 0, .int _, .int _, .int _, .int _, .retAddr _, .retAddr _, .retAddr _, .retAddr _]) dX11_dice_30 rfl (Nat.le_of_ble_eq_true rfl) rfl ?_
    refine s_aload_n (pc' := 33) dX11_dice_32 rfl rfl ?_
    refine s_iload_n (pc' := 34) dX11_dice_33 rfl rfl ?_
    refine s_callV (pc' := 37) (As := [.int _]) dX11_dice_34 rfl mk_X11_numberNow ml_X11_169 im_X11_numberNow se_X11_X11_X11_numberNow sh_0 (by decide) rfl rfl rfl ⟨Nat.le_of_ble_eq_true rfl, Nat.le_of_ble_eq_true rfl, Nat.le_of_ble_eq_true rfl, Nat.le_of_ble_eq_true rfl⟩ (Nat.le_of_ble_eq_true rfl) (c_X11_numberNowB X hm hmd hj3 (fun nbg I1 J1 Q1 w1 X1 => ?_))
    refine t_lstore (pc' := 39) (L' := [.ref 0, .int _, .int _, .int _, .int _, .long _, .retAddr _, .retAddr _, .retAddr _]) dX11_dice_37 rfl (Nat.le_of_ble_eq_true rfl) rfl ?_
    refine s_iload_n (pc' := 40) dX11_dice_39 rfl rfl ?_
    refine s_iload (pc' := 42) dX11_dice_40 rfl rfl ?_
    refine s_iconst (pc' := 43) (v := 1) dX11_dice_42 rfl (by decide) ?_
    refine s_iadd (pc' := 44) dX11_dice_43 rfl ?_
    refine s_imul (pc' := 45) dX11_dice_44 rfl ?_
    refine t_istore (pc' := 47) (L' := [.ref 0, .int _, .int _, .int _, .int _, .long _, .retAddr _, .int _, .retAddr _]) dX11_dice_45 rfl (Nat.le_of_ble_eq_true rfl) rfl ?_
    refine s_iload (pc' := 49) dX11_dice_47 rfl rfl ?_
    refine s_iconst (pc' := 50) (v := 2) dX11_dice_49 rfl (by decide) ?_
    refine s_irem (pc' := 51) dX11_dice_50 rfl (by decide) ?_
    refine s_ifne (pc' := 54) (tgt := 58) dX11_dice_51 (by decide) rfl (fun c51 => ?_) (fun c51 => ?_)
    · refine s_iconst (pc' := 59) (v := 0) dX11_dice_58 rfl (by decide) ?_
      refine t_istore (pc' := 61) (L' := [.ref 0, .int _, .int _, .int _, .int _, .long _, .retAddr _, .int _, .int _]) dX11_dice_59 rfl (Nat.le_of_ble_eq_true rfl) rfl ?_
      refine s_iload_n (pc' := 62) dX11_dice_61 rfl rfl ?_
      by_cases hin : inR w 0 (3 : Nat)
      · obtain ⟨kw, hkw, ekw⟩ := in_n hin
        rcases (show kw = 0 ∨ kw = 1 ∨ kw = 2 ∨ kw = 3 by omega) with e6 | e6 | e6 | e6
        · rw [e6] at ekw
          refine s_tabIn (tgt := 92) (off := 30) dX11_dice_62 (by rw [ekw]; decide) (by rw [ekw]; decide) (by rw [ekw]; rfl) (by decide) ?_
          refine s_lload (pc' := 94) dX11_dice_92 rfl rfl ?_
          refine s_iload_n (pc' := 95) dX11_dice_94 rfl rfl ?_
          refine s_i2l (pc' := 96) dX11_dice_95 rfl ?_
          refine s_ladd (pc' := 97) dX11_dice_96 rfl ?_
          exact s_lret dX11_dice_97 rfl (by decide) (by decide) (by have q := k3 j3 hj3 rfl h55 0 (by decide) ekw nbg I1 J1 Q1 w1.q X1; unfold diS at q; rw [if_pos (show (0 : Nat) = 0 by decide)] at q; exact q)
        · rw [e6] at ekw
          refine s_tabIn (tgt := 98) (off := 36) dX11_dice_62 (by rw [ekw]; decide) (by rw [ekw]; decide) (by rw [ekw]; rfl) (by decide) ?_
          refine s_lload (pc' := 100) dX11_dice_98 rfl rfl ?_
          refine s_iload_n (pc' := 101) dX11_dice_100 rfl rfl ?_
          refine s_iload (pc' := 103) dX11_dice_101 rfl rfl ?_
          refine s_imul (pc' := 104) dX11_dice_103 rfl ?_
          refine s_i2l (pc' := 105) dX11_dice_104 rfl ?_
          refine s_ladd (pc' := 106) dX11_dice_105 rfl ?_
          exact s_lret dX11_dice_106 rfl (by decide) (by decide) (by have q := k3 j3 hj3 rfl h55 1 (by decide) ekw nbg I1 J1 Q1 w1.q X1; unfold diS at q; rw [if_neg (show ¬ (1 : Nat) = 0 by decide), if_pos (show (1 : Nat) = 1 by decide)] at q; exact q)
        · rw [e6] at ekw
          refine s_tabIn (tgt := 107) (off := 45) dX11_dice_62 (by rw [ekw]; decide) (by rw [ekw]; decide) (by rw [ekw]; rfl) (by decide) ?_
          refine s_iload (pc' := 109) dX11_dice_107 rfl rfl ?_
          refine s_ifeqT (tgt := 123) dX11_dice_109 (by decide) (by decide) ?_
          refine s_lload (pc' := 125) dX11_dice_123 rfl rfl ?_
          refine s_ldc2 (pc' := 128) dX11_dice_125 rfl kl_X11_292 ?_
          refine s_lmul (pc' := 129) dX11_dice_128 rfl ?_
          refine s_iload (pc' := 131) dX11_dice_129 rfl rfl ?_
          refine s_i2l (pc' := 132) dX11_dice_131 rfl ?_
          refine s_ladd (pc' := 133) dX11_dice_132 rfl ?_
          exact s_lret dX11_dice_133 rfl (by decide) (by decide) (by have q := k3 j3 hj3 rfl h55 2 (by decide) ekw nbg I1 J1 Q1 w1.q X1; unfold diS at q; rw [if_neg (show ¬ (2 : Nat) = 0 by decide), if_neg (show ¬ (2 : Nat) = 1 by decide), if_pos (show (2 : Nat) = 2 by decide), if_neg c51] at q; exact q)
        · rw [e6] at ekw
          refine s_tabIn (tgt := 134) (off := 72) dX11_dice_62 (by rw [ekw]; decide) (by rw [ekw]; decide) (by rw [ekw]; rfl) (by decide) ?_
          refine s_iload (pc' := 136) dX11_dice_134 rfl rfl ?_
          refine s_ifeqT (tgt := 143) dX11_dice_136 (by decide) (by decide) ?_
          refine s_ldc2 (pc' := 146) dX11_dice_143 rfl kl_X11_292 ?_
          exact s_lret dX11_dice_146 rfl (by decide) (by decide) (by have q := k3 j3 hj3 rfl h55 3 (by decide) ekw nbg I1 J1 Q1 w1.q X1; unfold diS at q; rw [if_neg (show ¬ (3 : Nat) = 0 by decide), if_neg (show ¬ (3 : Nat) = 1 by decide), if_neg (show ¬ (3 : Nat) = 2 by decide), if_neg c51] at q; exact q)
      · refine s_tabOut (tgt := 147) dX11_dice_62 (by (try decide); exact out8 hin) (by decide) ?_
        refine s_ldc2 (pc' := 150) dX11_dice_147 rfl kl_X11_207 ?_
        exact s_lret dX11_dice_150 rfl (by decide) (by decide) (k2 j3 hj3 rfl h55 hin I1 J1 Q1 w1.q X1)
    · refine s_iconst (pc' := 55) (v := 1) dX11_dice_54 rfl (by decide) ?_
      refine s_goto (tgt := 59) dX11_dice_55 (by decide) ?_
      refine t_istore (pc' := 61) (L' := [.ref 0, .int _, .int _, .int _, .int _, .long _, .retAddr _, .int _, .int _]) dX11_dice_59 rfl (Nat.le_of_ble_eq_true rfl) rfl ?_
      refine s_iload_n (pc' := 62) dX11_dice_61 rfl rfl ?_
      by_cases hin : inR w 0 (3 : Nat)
      · obtain ⟨kw, hkw, ekw⟩ := in_n hin
        rcases (show kw = 0 ∨ kw = 1 ∨ kw = 2 ∨ kw = 3 by omega) with e6 | e6 | e6 | e6
        · rw [e6] at ekw
          refine s_tabIn (tgt := 92) (off := 30) dX11_dice_62 (by rw [ekw]; decide) (by rw [ekw]; decide) (by rw [ekw]; rfl) (by decide) ?_
          refine s_lload (pc' := 94) dX11_dice_92 rfl rfl ?_
          refine s_iload_n (pc' := 95) dX11_dice_94 rfl rfl ?_
          refine s_i2l (pc' := 96) dX11_dice_95 rfl ?_
          refine s_ladd (pc' := 97) dX11_dice_96 rfl ?_
          exact s_lret dX11_dice_97 rfl (by decide) (by decide) (by have q := k3 j3 hj3 rfl h55 0 (by decide) ekw nbg I1 J1 Q1 w1.q X1; unfold diS at q; rw [if_pos (show (0 : Nat) = 0 by decide)] at q; exact q)
        · rw [e6] at ekw
          refine s_tabIn (tgt := 98) (off := 36) dX11_dice_62 (by rw [ekw]; decide) (by rw [ekw]; decide) (by rw [ekw]; rfl) (by decide) ?_
          refine s_lload (pc' := 100) dX11_dice_98 rfl rfl ?_
          refine s_iload_n (pc' := 101) dX11_dice_100 rfl rfl ?_
          refine s_iload (pc' := 103) dX11_dice_101 rfl rfl ?_
          refine s_imul (pc' := 104) dX11_dice_103 rfl ?_
          refine s_i2l (pc' := 105) dX11_dice_104 rfl ?_
          refine s_ladd (pc' := 106) dX11_dice_105 rfl ?_
          exact s_lret dX11_dice_106 rfl (by decide) (by decide) (by have q := k3 j3 hj3 rfl h55 1 (by decide) ekw nbg I1 J1 Q1 w1.q X1; unfold diS at q; rw [if_neg (show ¬ (1 : Nat) = 0 by decide), if_pos (show (1 : Nat) = 1 by decide)] at q; exact q)
        · rw [e6] at ekw
          refine s_tabIn (tgt := 107) (off := 45) dX11_dice_62 (by rw [ekw]; decide) (by rw [ekw]; decide) (by rw [ekw]; rfl) (by decide) ?_
          refine s_iload (pc' := 109) dX11_dice_107 rfl rfl ?_
          refine s_ifeqF (pc' := 112) (tgt := 123) dX11_dice_109 (by decide) rfl (by decide) ?_
          refine s_lload (pc' := 114) dX11_dice_112 rfl rfl ?_
          refine s_iload (pc' := 116) dX11_dice_114 rfl rfl ?_
          refine s_iconst (pc' := 117) (v := 2) dX11_dice_116 rfl (by decide) ?_
          refine s_idiv (pc' := 118) dX11_dice_117 rfl (by decide) ?_
          refine s_i2l (pc' := 119) dX11_dice_118 rfl ?_
          refine s_ladd (pc' := 120) dX11_dice_119 rfl ?_
          refine s_goto (tgt := 133) dX11_dice_120 (by decide) ?_
          exact s_lret dX11_dice_133 rfl (by decide) (by decide) (by have q := k3 j3 hj3 rfl h55 2 (by decide) ekw nbg I1 J1 Q1 w1.q X1; unfold diS at q; rw [if_neg (show ¬ (2 : Nat) = 0 by decide), if_neg (show ¬ (2 : Nat) = 1 by decide), if_pos (show (2 : Nat) = 2 by decide), if_pos (by first | exact c51 | exact Decidable.not_not.mp c51)] at q; exact q)
        · rw [e6] at ekw
          refine s_tabIn (tgt := 134) (off := 72) dX11_dice_62 (by rw [ekw]; decide) (by rw [ekw]; decide) (by rw [ekw]; rfl) (by decide) ?_
          refine s_iload (pc' := 136) dX11_dice_134 rfl rfl ?_
          refine s_ifeqF (pc' := 139) (tgt := 143) dX11_dice_136 (by decide) rfl (by decide) ?_
          refine s_lconst (pc' := 140) (v := 1) dX11_dice_139 rfl (by decide) ?_
          refine s_goto (tgt := 146) dX11_dice_140 (by decide) ?_
          exact s_lret dX11_dice_146 rfl (by decide) (by decide) (by have q := k3 j3 hj3 rfl h55 3 (by decide) ekw nbg I1 J1 Q1 w1.q X1; unfold diS at q; rw [if_neg (show ¬ (3 : Nat) = 0 by decide), if_neg (show ¬ (3 : Nat) = 1 by decide), if_neg (show ¬ (3 : Nat) = 2 by decide), if_pos (by first | exact c51 | exact Decidable.not_not.mp c51)] at q; exact q)
      · refine s_tabOut (tgt := 147) dX11_dice_62 (by (try decide); exact out8 hin) (by decide) ?_
        refine s_ldc2 (pc' := 150) dX11_dice_147 rfl kl_X11_207 ?_
        exact s_lret dX11_dice_150 rfl (by decide) (by decide) (k2 j3 hj3 rfl h55 hin I1 J1 Q1 w1.q X1)
  · refine s_ifneF (pc' := 9) (tgt := 13) dX11_dice_6 (by decide) rfl (by decide) ?_
    refine s_ldc2 (pc' := 12) dX11_dice_9 rfl kl_X11_207 ?_
    exact s_lret dX11_dice_12 rfl (by decide) (by decide) (k1 (fun v hv ev z => n3 v hv ev (by rw [(X.rd hv).1]; exact z)))
