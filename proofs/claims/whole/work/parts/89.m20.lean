/-- dice() as the model tells it -/
def diM (g : Int64) (c s : Int32) (w : Nat) : Int64 :=
  if w = 0 then c.toInt64 + g else if w = 1 then (c * s).toInt64 + g
  else if w = 2 then (if (c * (s + 1)).toInt64 + 2 * g - ((c * (s + 1)).toInt64 + 2 * g) / 2 * 2 = 0 then ((c * (s + 1)).toInt64 + 2 * g) / 2 else (c * (s + 1)).toInt64 + 2 * g)
  else (if (c * (s + 1)).toInt64 + 2 * g - ((c * (s + 1)).toInt64 + 2 * g) / 2 * 2 = 0 then 1 else 2)
theorem in03b {w : Int32} (h : inR w 0 3) (h0 : ¬ w = 0) (h1 : w ≠ 1) (h2 : w ≠ 2) : w = nI 3 := in03 h h0 h1 h2
set_option maxHeartbeats 200000 in
theorem c_X12_dice {N : Nat} {S : Nat → Nat × Nat} {I : Nat → Nat → Int32} {J : Nat → Nat → Int64} {Q : Nat → Nat → Option Nat} {κ : Option Value → HP → Prop} {D : Nat → Nat → Int32} {nv nr ns md : Nat} (M : MOD I J D nv nr ns) (hm : D 75 3 = nI md) (hmd : md < 256) {x y : Int32} (k1 : ((∀ v, v < nv → x = nI v → D 55 v ≠ 3) ∨ ¬ inR y 0 3) → κ (some (.long (-1000000000000))) (N, S, I, J, Q)) (k2 : ∀ v, v < nv → x = nI v → D 55 v = 3 → ∀ q, q < 4 → y = nI q → ∀ I' J', MQu I I' J J' D nv nr ns → κ (some (.long (diM (gS D nv nr ns md v) (D 57 v) (D 58 v) q))) (N, S, I', J', Q)) : CT E1 M_X12_dice [.ref 54, .int x, .int y] (N, S, I, J, Q) κ := by
  refine ofSP mk_X12_dice (Nat.le_of_ble_eq_true rfl) (L := [.ref 54, .int _, .int _, .retAddr _, .retAddr _, .retAddr _, .retAddr _, .retAddr _]) rfl ?_
  refine s_aload_n (pc' := 1) dX12_dice_0 rfl rfl ?_
  refine s_iload_n (pc' := 2) dX12_dice_1 rfl rfl ?_
  refine s_callV (pc' := 5) (As := [.int _]) dX12_dice_2 rfl mk_X12_isValue ml_X12_170 im_X12_isValue se_X12_X12_X12_isValue sh_54 (by decide) rfl rfl rfl ⟨Nat.le_of_ble_eq_true rfl, Nat.le_of_ble_eq_true rfl, Nat.le_of_ble_eq_true rfl, Nat.le_of_ble_eq_true rfl⟩ (Nat.le_of_ble_eq_true rfl) (c_X12_isValue (M.2.1.vn M.1) (by have := M.2.1.nv; omega) (fun j2 hj2 e2 => ?_) (fun n2 => ?_))
  · subst e2
    refine s_ifeqF (pc' := 8) (tgt := 30) dX12_dice_5 (by decide) rfl (by decide) ?_
    refine s_aload_n (pc' := 9) dX12_dice_8 rfl rfl ?_
    refine s_getS (pc' := 12) (b := 55) dX12_dice_9 rfl (by decide) rfl (by decide) fa_X12_7_12 rfl rfl ?_
    refine s_iload_n (pc' := 13) dX12_dice_12 rfl rfl ?_
    refine t_iald (pc' := 14) dX12_dice_13 rfl sh_55 rfl (by have := M.2.1.nv; omega) ?_
    refine s_iconst (pc' := 15) (v := 3) dX12_dice_14 rfl (by decide) ?_
    refine s_icmpne (pc' := 18) (tgt := 30) dX12_dice_15 (by decide) rfl (fun c15 => ?_) (fun c15 => ?_)
    · refine s_ldc2 (pc' := 33) dX12_dice_30 rfl kl_X12_290 ?_
      exact s_lret dX12_dice_33 rfl (by decide) (by decide) (k1 (Or.inl (fun v hv ev z => by obtain rfl := ixe ev (by have := M.2.1.nv; omega) (by have := M.2.1.nv; omega); exact c15 (by rw [M.1 55 (by decide) (by decide)]; exact z))))
    · refine s_iload_n (pc' := 19) dX12_dice_18 rfl rfl ?_
      refine s_i2l (pc' := 20) dX12_dice_19 rfl ?_
      refine s_lconst (pc' := 21) (v := 0) dX12_dice_20 rfl (by decide) ?_
      refine s_ldc2 (pc' := 24) dX12_dice_21 rfl kl_X12_298 ?_
      refine s_callS (pc' := 27) (As := [.long _, .long _, .long _]) dX12_dice_24 rfl mk_X12_isIn ml_X12_135 sm_X12_isIn rfl rfl ⟨Nat.le_of_ble_eq_true rfl, Nat.le_of_ble_eq_true rfl, Nat.le_of_ble_eq_true rfl, Nat.le_of_ble_eq_true rfl⟩ (Nat.le_of_ble_eq_true rfl) (c_isInR (a' := 0) (b' := 3) rfl rfl (fun i24 => ?_) (fun i24 => ?_))
      · refine s_ifneT (tgt := 34) dX12_dice_27 (by decide) (by decide) ?_
        refine s_aload_n (pc' := 35) dX12_dice_34 rfl rfl ?_
        refine s_callV (pc' := 38) (As := []) dX12_dice_35 rfl mk_X12_lay ml_X12_208 im_X12_lay se_X12_X12_X12_lay sh_54 (by decide) rfl rfl rfl ⟨Nat.le_of_ble_eq_true rfl, Nat.le_of_ble_eq_true rfl, Nat.le_of_ble_eq_true rfl, Nat.le_of_ble_eq_true rfl⟩ (Nat.le_of_ble_eq_true rfl) (e_lay M (fun I1 J1 h1 => ?_))
        have hD1 := h1.1.da M.1
        have G1 := h1.2.2.2.g M.2.1 M.2.2.1
        have e75 : I1 75 3 = nI md := by rw [hD1 75 (by decide) (by decide)]; exact hm
        refine s_aload_n (pc' := 39) dX12_dice_38 rfl rfl ?_
        refine s_getS (pc' := 42) (b := 80) dX12_dice_39 rfl (by decide) rfl (by decide) fa_X12_85_12 rfl rfl ?_
        refine s_bipush (pc' := 44) (v := 10) dX12_dice_42 rfl (by decide) ?_
        refine s_aload_n (pc' := 45) dX12_dice_44 rfl rfl ?_
        refine s_getS (pc' := 48) (b := 75) dX12_dice_45 rfl (by decide) rfl (by decide) fa_X12_70_12 rfl rfl ?_
        refine s_iconst (pc' := 49) (v := 3) dX12_dice_48 rfl (by decide) ?_
        refine t_iald (pc' := 50) (q := 3) dX12_dice_49 rfl sh_75 rfl (by decide) ?_
        refine s_imul (pc' := 51) dX12_dice_50 rfl ?_
        refine s_iload_n (pc' := 52) dX12_dice_51 rfl rfl ?_
        refine s_iadd (pc' := 53) dX12_dice_52 rfl ?_
        refine t_lald (pc' := 54) (q := 10 * md + j2) dX12_dice_53 rfl sh_80 (by rw [e75]; exact ix10 hmd (by have := M.2.1.nv; omega)) (by have := M.2.1.nv; omega) ?_
        refine t_lstore_n (pc' := 55) (L' := [.ref 54, .int _, .int _, .long _, .retAddr _, .retAddr _, .retAddr _, .retAddr _]) dX12_dice_54 rfl (Nat.le_of_ble_eq_true rfl) rfl ?_
        rw [(G1 md hmd).1 j2 hj2]
        refine s_iload_n (pc' := 56) dX12_dice_55 rfl rfl ?_
        refine s_ifne (pc' := 59) (tgt := 69) dX12_dice_56 (by decide) rfl (fun c56 => ?_) (fun c56 => ?_)
        · refine s_iload_n (pc' := 70) dX12_dice_69 rfl rfl ?_
          refine s_iconst (pc' := 71) (v := 1) dX12_dice_70 rfl (by decide) ?_
          refine s_icmpne (pc' := 74) (tgt := 91) dX12_dice_71 (by decide) rfl (fun c71 => ?_) (fun c71 => ?_)
          · refine s_aload_n (pc' := 92) dX12_dice_91 rfl rfl ?_
            refine s_getS (pc' := 95) (b := 57) dX12_dice_92 rfl (by decide) rfl (by decide) fa_X12_16_12 rfl rfl ?_
            refine s_iload_n (pc' := 96) dX12_dice_95 rfl rfl ?_
            refine t_iald (pc' := 97) dX12_dice_96 rfl sh_57 rfl (by have := M.2.1.nv; omega) ?_
            refine s_aload_n (pc' := 98) dX12_dice_97 rfl rfl ?_
            refine s_getS (pc' := 101) (b := 58) dX12_dice_98 rfl (by decide) rfl (by decide) fa_X12_19_12 rfl rfl ?_
            refine s_iload_n (pc' := 102) dX12_dice_101 rfl rfl ?_
            refine t_iald (pc' := 103) dX12_dice_102 rfl sh_58 rfl (by have := M.2.1.nv; omega) ?_
            rw [hD1.a (i := 57) (by decide) (by decide), hD1.a (i := 58) (by decide) (by decide)]
            refine s_iconst (pc' := 104) (v := 1) dX12_dice_103 rfl (by decide) ?_
            refine s_iadd (pc' := 105) dX12_dice_104 rfl ?_
            refine s_imul (pc' := 106) dX12_dice_105 rfl ?_
            refine s_i2l (pc' := 107) dX12_dice_106 rfl ?_
            refine s_ldc2 (pc' := 110) dX12_dice_107 rfl kl_X12_145 ?_
            refine s_lload_n (pc' := 111) dX12_dice_110 rfl rfl ?_
            refine s_lmul (pc' := 112) dX12_dice_111 rfl ?_
            refine s_ladd (pc' := 113) dX12_dice_112 rfl ?_
            refine t_lstore (pc' := 115) (L' := [.ref 54, .int _, .int _, .long _, .retAddr _, .long _, .retAddr _, .retAddr _]) dX12_dice_113 rfl (Nat.le_of_ble_eq_true rfl) rfl ?_
            refine s_lload (pc' := 117) dX12_dice_115 rfl rfl ?_
            refine s_ldc2 (pc' := 120) dX12_dice_117 rfl kl_X12_145 ?_
            refine s_lrem (pc' := 121) dX12_dice_120 rfl (by decide) ?_
            refine s_lconst (pc' := 122) (v := 0) dX12_dice_121 rfl (by decide) ?_
            refine s_lcmp (pc' := 123) dX12_dice_122 rfl ?_
            refine s_ifne (pc' := 126) (tgt := 130) dX12_dice_123 (by decide) rfl (fun c123 => ?_) (fun c123 => ?_)
            · rw [ne_eq, lg_cmp_eq] at c123
              refine s_iconst (pc' := 131) (v := 0) dX12_dice_130 rfl (by decide) ?_
              refine t_istore (pc' := 133) (L' := [.ref 54, .int _, .int _, .long _, .retAddr _, .long _, .retAddr _, .int _]) dX12_dice_131 rfl (Nat.le_of_ble_eq_true rfl) rfl ?_
              refine s_iload_n (pc' := 134) dX12_dice_133 rfl rfl ?_
              refine s_iconst (pc' := 135) (v := 2) dX12_dice_134 rfl (by decide) ?_
              refine s_icmpne (pc' := 138) (tgt := 157) dX12_dice_135 (by decide) rfl (fun c135 => ?_) (fun c135 => ?_)
              · refine s_iload (pc' := 159) dX12_dice_157 rfl rfl ?_
                refine s_ifeqT (tgt := 166) dX12_dice_159 (by decide) (by decide) ?_
                refine s_ldc2 (pc' := 169) dX12_dice_166 rfl kl_X12_145 ?_
                exact s_lret dX12_dice_169 rfl (by decide) (by decide) (by have q := k2 j2 hj2 rfl (by rw [← M.1 55 (by decide) (by decide)]; first | exact c15 | exact Decidable.not_not.mp c15) 3 (by decide) (in03b i24 c56 c71 c135) I1 J1 h1.mq; unfold diM at q; rw [if_neg (show ¬ (3 : Nat) = 0 by decide), if_neg (show ¬ (3 : Nat) = 1 by decide), if_neg (show ¬ (3 : Nat) = 2 by decide), if_neg c123] at q; exact q)
              · refine s_iload (pc' := 140) dX12_dice_138 rfl rfl ?_
                refine s_ifeqT (tgt := 152) dX12_dice_140 (by decide) (by decide) ?_
                refine s_lload (pc' := 154) dX12_dice_152 rfl rfl ?_
                refine s_goto (tgt := 169) dX12_dice_154 (by decide) ?_
                exact s_lret dX12_dice_169 rfl (by decide) (by decide) (by have q := k2 j2 hj2 rfl (by rw [← M.1 55 (by decide) (by decide)]; first | exact c15 | exact Decidable.not_not.mp c15) 2 (by decide) (show y = nI 2 by first | exact c135 | exact Decidable.not_not.mp c135) I1 J1 h1.mq; unfold diM at q; rw [if_neg (show ¬ (2 : Nat) = 0 by decide), if_neg (show ¬ (2 : Nat) = 1 by decide), if_pos (show (2 : Nat) = 2 by decide), if_neg c123] at q; exact q)
            · rw [lg_cmp_eq] at c123
              refine s_iconst (pc' := 127) (v := 1) dX12_dice_126 rfl (by decide) ?_
              refine s_goto (tgt := 131) dX12_dice_127 (by decide) ?_
              refine t_istore (pc' := 133) (L' := [.ref 54, .int _, .int _, .long _, .retAddr _, .long _, .retAddr _, .int _]) dX12_dice_131 rfl (Nat.le_of_ble_eq_true rfl) rfl ?_
              refine s_iload_n (pc' := 134) dX12_dice_133 rfl rfl ?_
              refine s_iconst (pc' := 135) (v := 2) dX12_dice_134 rfl (by decide) ?_
              refine s_icmpne (pc' := 138) (tgt := 157) dX12_dice_135 (by decide) rfl (fun c135 => ?_) (fun c135 => ?_)
              · refine s_iload (pc' := 159) dX12_dice_157 rfl rfl ?_
                refine s_ifeqF (pc' := 162) (tgt := 166) dX12_dice_159 (by decide) rfl (by decide) ?_
                refine s_lconst (pc' := 163) (v := 1) dX12_dice_162 rfl (by decide) ?_
                refine s_goto (tgt := 169) dX12_dice_163 (by decide) ?_
                exact s_lret dX12_dice_169 rfl (by decide) (by decide) (by have q := k2 j2 hj2 rfl (by rw [← M.1 55 (by decide) (by decide)]; first | exact c15 | exact Decidable.not_not.mp c15) 3 (by decide) (in03b i24 c56 c71 c135) I1 J1 h1.mq; unfold diM at q; rw [if_neg (show ¬ (3 : Nat) = 0 by decide), if_neg (show ¬ (3 : Nat) = 1 by decide), if_neg (show ¬ (3 : Nat) = 2 by decide), if_pos c123] at q; exact q)
              · refine s_iload (pc' := 140) dX12_dice_138 rfl rfl ?_
                refine s_ifeqF (pc' := 143) (tgt := 152) dX12_dice_140 (by decide) rfl (by decide) ?_
                refine s_lload (pc' := 145) dX12_dice_143 rfl rfl ?_
                refine s_ldc2 (pc' := 148) dX12_dice_145 rfl kl_X12_145 ?_
                refine s_ldiv (pc' := 149) dX12_dice_148 rfl (by decide) ?_
                refine s_goto (tgt := 169) dX12_dice_149 (by decide) ?_
                exact s_lret dX12_dice_169 rfl (by decide) (by decide) (by have q := k2 j2 hj2 rfl (by rw [← M.1 55 (by decide) (by decide)]; first | exact c15 | exact Decidable.not_not.mp c15) 2 (by decide) (show y = nI 2 by first | exact c135 | exact Decidable.not_not.mp c135) I1 J1 h1.mq; unfold diM at q; rw [if_neg (show ¬ (2 : Nat) = 0 by decide), if_neg (show ¬ (2 : Nat) = 1 by decide), if_pos (show (2 : Nat) = 2 by decide), if_pos c123] at q; exact q)
          · refine s_aload_n (pc' := 75) dX12_dice_74 rfl rfl ?_
            refine s_getS (pc' := 78) (b := 57) dX12_dice_75 rfl (by decide) rfl (by decide) fa_X12_16_12 rfl rfl ?_
            refine s_iload_n (pc' := 79) dX12_dice_78 rfl rfl ?_
            refine t_iald (pc' := 80) dX12_dice_79 rfl sh_57 rfl (by have := M.2.1.nv; omega) ?_
            refine s_aload_n (pc' := 81) dX12_dice_80 rfl rfl ?_
            refine s_getS (pc' := 84) (b := 58) dX12_dice_81 rfl (by decide) rfl (by decide) fa_X12_19_12 rfl rfl ?_
            refine s_iload_n (pc' := 85) dX12_dice_84 rfl rfl ?_
            refine t_iald (pc' := 86) dX12_dice_85 rfl sh_58 rfl (by have := M.2.1.nv; omega) ?_
            rw [hD1.a (i := 57) (by decide) (by decide), hD1.a (i := 58) (by decide) (by decide)]
            refine s_imul (pc' := 87) dX12_dice_86 rfl ?_
            refine s_i2l (pc' := 88) dX12_dice_87 rfl ?_
            refine s_lload_n (pc' := 89) dX12_dice_88 rfl rfl ?_
            refine s_ladd (pc' := 90) dX12_dice_89 rfl ?_
            exact s_lret dX12_dice_90 rfl (by decide) (by decide) (by have q := k2 j2 hj2 rfl (by rw [← M.1 55 (by decide) (by decide)]; first | exact c15 | exact Decidable.not_not.mp c15) 1 (by decide) (show y = nI 1 by first | exact c71 | exact Decidable.not_not.mp c71) I1 J1 h1.mq; unfold diM at q; rw [if_neg (show ¬ (1 : Nat) = 0 by decide), if_pos (show (1 : Nat) = 1 by decide)] at q; exact q)
        · refine s_aload_n (pc' := 60) dX12_dice_59 rfl rfl ?_
          refine s_getS (pc' := 63) (b := 57) dX12_dice_60 rfl (by decide) rfl (by decide) fa_X12_16_12 rfl rfl ?_
          refine s_iload_n (pc' := 64) dX12_dice_63 rfl rfl ?_
          refine t_iald (pc' := 65) dX12_dice_64 rfl sh_57 rfl (by have := M.2.1.nv; omega) ?_
          rw [hD1.a (i := 57) (by decide) (by decide)]
          refine s_i2l (pc' := 66) dX12_dice_65 rfl ?_
          refine s_lload_n (pc' := 67) dX12_dice_66 rfl rfl ?_
          refine s_ladd (pc' := 68) dX12_dice_67 rfl ?_
          exact s_lret dX12_dice_68 rfl (by decide) (by decide) (by have q := k2 j2 hj2 rfl (by rw [← M.1 55 (by decide) (by decide)]; first | exact c15 | exact Decidable.not_not.mp c15) 0 (by decide) (show y = nI 0 by first | exact c56 | exact Decidable.not_not.mp c56) I1 J1 h1.mq; unfold diM at q; rw [if_pos (show (0 : Nat) = 0 by decide)] at q; exact q)
      · refine s_ifneF (pc' := 30) (tgt := 34) dX12_dice_27 (by decide) rfl (by decide) ?_
        refine s_ldc2 (pc' := 33) dX12_dice_30 rfl kl_X12_290 ?_
        exact s_lret dX12_dice_33 rfl (by decide) (by decide) (k1 (Or.inr i24))
  · refine s_ifeqT (tgt := 30) dX12_dice_5 (by decide) (by decide) ?_
    refine s_ldc2 (pc' := 33) dX12_dice_30 rfl kl_X12_290 ?_
    exact s_lret dX12_dice_33 rfl (by decide) (by decide) (k1 (Or.inl (fun v hv ev _ => n2 v hv ev)))
