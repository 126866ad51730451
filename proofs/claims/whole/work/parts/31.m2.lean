/-- dice as told: COUNT and 8 times SIDES -/
def dOk (more : Int32) : Prop := ∃ c s : Nat, 1 ≤ c ∧ c ≤ 5 ∧ 2 ≤ s ∧ s ≤ 12 ∧ more = nI (c + 8 * s)
def vOk (kind base more : Int32) : Prop := inR kind 0 4 ∧ inR base (-99) 99 ∧ (kind = 3 → dOk more)
theorem toNat_of {x : Int32} {a b : Int} (h : inR x a b) (ha : 0 ≤ a) : ∃ n : Nat, x = nI n ∧ (n : Int) = x.toInt ∧ n < 2 ^ 31 := by
  have h0 : ¬ x < 0 := by rw [Int32.lt_iff_toInt_lt, Int32.toInt_zero]; have := h.1; omega
  obtain ⟨j, hj, e⟩ := nI_of h0
  exact ⟨j, e, by rw [e, nI_toInt hj], hj⟩
theorem rem8 {m : Nat} (hm : m < 2 ^ 31) : nI m - nI m / 8 * 8 = nI (m % 8) := pk_rem (d := 8) hm (by decide) (by decide)
theorem div8 {m : Nat} (hm : m < 2 ^ 31) : nI m / 8 = nI (m / 8) := pk_div (d := 8) hm (by decide) (by decide)
theorem dOk_of {more : Int32} (h0 : ¬ more < 0) (h1 : inR (more - more / 8 * 8) 1 5) (h2 : inR (more / 8) 2 12) : ∃ c s : Nat, 1 ≤ c ∧ c ≤ 5 ∧ 2 ≤ s ∧ s ≤ 12 ∧ more = nI (c + 8 * s) ∧ more - more / 8 * 8 = nI c ∧ more / 8 = nI s := by
  obtain ⟨m, hm, rfl⟩ := nI_of h0
  rw [rem8 hm] at h1 ⊢
  rw [div8 hm] at h2 ⊢
  unfold inR at h1 h2
  rw [nI_toInt (by omega)] at h1 h2
  exact ⟨m % 8, m / 8, by omega, by omega, by omega, by omega, by congr 1; omega, rfl, rfl⟩
theorem dOk_r {more : Int32} (h : dOk more) : ¬ more < 0 ∧ inR (more - more / 8 * 8) 1 5 ∧ inR (more / 8) 2 12 := by
  obtain ⟨c, s, h1, h2, h3, h4, rfl⟩ := h
  have hm : c + 8 * s < 2 ^ 31 := by omega
  refine ⟨nI_pos hm, ?_, ?_⟩
  · rw [rem8 hm]; unfold inR; rw [nI_toInt (by omega)]; omega
  · rw [div8 hm]; unfold inR; rw [nI_toInt (by omega)]; omega
theorem nv_eq {I : Nat → Nat → Int32} {a j nv m : Nat} (hv : I a j = nI nv) (hn : nv < 1000 ∧ m < 1000) (c : I a j = nI m) : nv = m := by
  rw [hv] at c; exact (nI_eq (by omega) (by omega)).mp c
theorem nv_ne {I : Nat → Nat → Int32} {a j nv m : Nat} (hv : I a j = nI nv) (c : I a j ≠ nI m) : nv ≠ m := fun z => c (by rw [hv, z])
theorem c_X12_value {N : Nat} {S : Nat → Nat × Nat} {I : Nat → Nat → Int32} {J : Nat → Nat → Int64} {Q : Nat → Nat → Option Nat} {κ : Option Value → HP → Prop} {kind base more : Int32} {nv : Nat} (hv : I 75 0 = nI nv) (hn : nv ≤ 10) (k1 : ¬ vOk kind base more → κ (some (.int (-1))) (N, S, up2 I 54 24 1, J, Q)) (k2 : vOk kind base more → nv = 10 → κ (some (.int (-1))) (N, S, up2 I 54 24 2, J, Q)) (k3 : ∀ cc sd : Int32, vOk kind base more → nv ≠ 10 → (kind = 3 → ∃ c s : Nat, 1 ≤ c ∧ c ≤ 5 ∧ 2 ≤ s ∧ s ≤ 12 ∧ more = nI (c + 8 * s) ∧ cc = nI c ∧ sd = nI s) → (kind ≠ 3 → cc = 0 ∧ sd = 0) → κ (some (.int (I 75 0))) (N, S, (up2 (up2 (up2 (up2 (up2 (up2 (up2 (up2 I 75 0 (I 75 0 + 1)) 55 nv kind) 56 nv base) 57 nv cc) 58 nv sd) 59 nv 0) 54 37 0) 54 24 0), J, Q)) : CT E1 M_X12_value [.ref 54, .int kind, .int base, .int more] (N, S, I, J, Q) κ := by
  refine ofSP mk_X12_value (Nat.le_of_ble_eq_true rfl) (L := [.ref 54, .int _, .int _, .int _, .retAddr _, .retAddr _]) rfl ?_
  refine s_iload_n (pc' := 1) dX12_value_0 rfl rfl ?_
  refine s_iconst (pc' := 2) (v := 3) dX12_value_1 rfl (by decide) ?_
  refine s_icmpne (pc' := 5) (tgt := 9) dX12_value_2 (by decide) rfl (fun c2 => ?_) (fun c2 => ?_)
  · refine s_iconst (pc' := 10) (v := 0) dX12_value_9 rfl (by decide) ?_
    refine t_istore (pc' := 12) (L' := [.ref 54, .int _, .int _, .int _, .int _, .retAddr _]) dX12_value_10 rfl (Nat.le_of_ble_eq_true rfl) rfl ?_
    refine s_iload_n (pc' := 13) dX12_value_12 rfl rfl ?_
    refine s_i2l (pc' := 14) dX12_value_13 rfl ?_
    refine s_lconst (pc' := 15) (v := 0) dX12_value_14 rfl (by decide) ?_
    refine s_ldc2 (pc' := 18) dX12_value_15 rfl kl_X12_133 ?_
    refine s_callS (pc' := 21) (As := [.long _, .long _, .long _]) dX12_value_18 rfl mk_X12_isIn ml_X12_135 sm_X12_isIn rfl rfl ⟨Nat.le_of_ble_eq_true rfl, Nat.le_of_ble_eq_true rfl, Nat.le_of_ble_eq_true rfl, Nat.le_of_ble_eq_true rfl⟩ (Nat.le_of_ble_eq_true rfl) (c_isInR (a' := 0) (b' := 4) rfl rfl (fun i18 => ?_) (fun i18 => ?_))
    · refine s_ifeqF (pc' := 24) (tgt := 79) dX12_value_21 (by decide) rfl (by decide) ?_
      refine s_iload_n (pc' := 25) dX12_value_24 rfl rfl ?_
      refine s_i2l (pc' := 26) dX12_value_25 rfl ?_
      refine s_ldc2 (pc' := 29) dX12_value_26 rfl kl_X12_139 ?_
      refine s_ldc2 (pc' := 32) dX12_value_29 rfl kl_X12_141 ?_
      refine s_callS (pc' := 35) (As := [.long _, .long _, .long _]) dX12_value_32 rfl mk_X12_isIn ml_X12_135 sm_X12_isIn rfl rfl ⟨Nat.le_of_ble_eq_true rfl, Nat.le_of_ble_eq_true rfl, Nat.le_of_ble_eq_true rfl, Nat.le_of_ble_eq_true rfl⟩ (Nat.le_of_ble_eq_true rfl) (c_isInR (a' := -99) (b' := 99) rfl rfl (fun i32 => ?_) (fun i32 => ?_))
      · refine s_ifeqF (pc' := 38) (tgt := 79) dX12_value_35 (by decide) rfl (by decide) ?_
        refine s_iload (pc' := 40) dX12_value_38 rfl rfl ?_
        refine s_ifeqT (tgt := 85) dX12_value_40 (by decide) (by decide) ?_
        refine s_aload_n (pc' := 86) dX12_value_85 rfl rfl ?_
        refine s_getS (pc' := 89) (b := 75) dX12_value_86 rfl (by decide) rfl (by decide) fa_X12_70_12 rfl rfl ?_
        refine s_iconst (pc' := 90) (v := 0) dX12_value_89 rfl (by decide) ?_
        refine t_iald (pc' := 91) (q := 0) dX12_value_90 rfl sh_75 rfl (by decide) ?_
        refine s_bipush (pc' := 93) (v := 10) dX12_value_91 rfl (by decide) ?_
        refine s_icmpne (pc' := 96) (tgt := 102) dX12_value_93 (by decide) rfl (fun c93 => ?_) (fun c93 => ?_)
        · refine s_aload_n (pc' := 103) dX12_value_102 rfl rfl ?_
          refine s_getS (pc' := 106) (b := 75) dX12_value_103 rfl (by decide) rfl (by decide) fa_X12_70_12 rfl rfl ?_
          refine s_iconst (pc' := 107) (v := 0) dX12_value_106 rfl (by decide) ?_
          refine t_iald (pc' := 108) (q := 0) dX12_value_107 rfl sh_75 rfl (by decide) ?_
          refine t_istore (pc' := 110) (L' := [.ref 54, .int _, .int _, .int _, .int _, .int _]) dX12_value_108 rfl (Nat.le_of_ble_eq_true rfl) rfl ?_
          refine s_aload_n (pc' := 111) dX12_value_110 rfl rfl ?_
          refine s_getS (pc' := 114) (b := 75) dX12_value_111 rfl (by decide) rfl (by decide) fa_X12_70_12 rfl rfl ?_
          refine s_iconst (pc' := 115) (v := 0) dX12_value_114 rfl (by decide) ?_
          refine s_dup2 (pc' := 116) dX12_value_115 rfl rfl rfl ?_
          refine t_iald (pc' := 117) (q := 0) dX12_value_116 rfl sh_75 rfl (by decide) ?_
          refine s_iconst (pc' := 118) (v := 1) dX12_value_117 rfl (by decide) ?_
          refine s_iadd (pc' := 119) dX12_value_118 rfl ?_
          refine t_iast (pc' := 120) (q := 0) dX12_value_119 rfl sh_75 rfl (by decide) ?_
          refine s_aload_n (pc' := 121) dX12_value_120 rfl rfl ?_
          refine s_getS (pc' := 124) (b := 55) dX12_value_121 rfl (by decide) rfl (by decide) fa_X12_7_12 rfl rfl ?_
          refine s_iload (pc' := 126) dX12_value_124 rfl rfl ?_
          refine s_iload_n (pc' := 127) dX12_value_126 rfl rfl ?_
          refine t_iast (pc' := 128) dX12_value_127 rfl sh_55 hv (by have := nv_ne (m := 10) hv c93; omega) ?_
          refine s_aload_n (pc' := 129) dX12_value_128 rfl rfl ?_
          refine s_getS (pc' := 132) (b := 56) dX12_value_129 rfl (by decide) rfl (by decide) fa_X12_13_12 rfl rfl ?_
          refine s_iload (pc' := 134) dX12_value_132 rfl rfl ?_
          refine s_iload_n (pc' := 135) dX12_value_134 rfl rfl ?_
          refine t_iast (pc' := 136) dX12_value_135 rfl sh_56 hv (by have := nv_ne (m := 10) hv c93; omega) ?_
          refine s_aload_n (pc' := 137) dX12_value_136 rfl rfl ?_
          refine s_getS (pc' := 140) (b := 57) dX12_value_137 rfl (by decide) rfl (by decide) fa_X12_16_12 rfl rfl ?_
          refine s_iload (pc' := 142) dX12_value_140 rfl rfl ?_
          refine s_iload (pc' := 144) dX12_value_142 rfl rfl ?_
          refine s_ifeqT (tgt := 154) dX12_value_144 (by decide) (by decide) ?_
          refine s_iconst (pc' := 155) (v := 0) dX12_value_154 rfl (by decide) ?_
          refine t_iast (pc' := 156) dX12_value_155 rfl sh_57 hv (by have := nv_ne (m := 10) hv c93; omega) ?_
          refine s_aload_n (pc' := 157) dX12_value_156 rfl rfl ?_
          refine s_getS (pc' := 160) (b := 58) dX12_value_157 rfl (by decide) rfl (by decide) fa_X12_19_12 rfl rfl ?_
          refine s_iload (pc' := 162) dX12_value_160 rfl rfl ?_
          refine s_iload (pc' := 164) dX12_value_162 rfl rfl ?_
          refine s_ifeqT (tgt := 174) dX12_value_164 (by decide) (by decide) ?_
          refine s_iconst (pc' := 175) (v := 0) dX12_value_174 rfl (by decide) ?_
          refine t_iast (pc' := 176) dX12_value_175 rfl sh_58 hv (by have := nv_ne (m := 10) hv c93; omega) ?_
          refine s_aload_n (pc' := 177) dX12_value_176 rfl rfl ?_
          refine s_getS (pc' := 180) (b := 59) dX12_value_177 rfl (by decide) rfl (by decide) fa_X12_22_12 rfl rfl ?_
          refine s_iload (pc' := 182) dX12_value_180 rfl rfl ?_
          refine s_iconst (pc' := 183) (v := 0) dX12_value_182 rfl (by decide) ?_
          refine t_iast (pc' := 184) dX12_value_183 rfl sh_59 hv (by have := nv_ne (m := 10) hv c93; omega) ?_
          refine s_aload_n (pc' := 185) dX12_value_184 rfl rfl ?_
          refine s_iconst (pc' := 186) (v := 0) dX12_value_185 rfl (by decide) ?_
          refine t_putI (pc' := 189) dX12_value_186 rfl sh_54 (by decide) fa_X12_153_12 (Or.inl rfl) rfl rfl rfl ?_
          refine s_aload_n (pc' := 190) dX12_value_189 rfl rfl ?_
          refine s_iload (pc' := 192) dX12_value_190 rfl rfl ?_
          refine s_callV (pc' := 195) (As := [.int _]) dX12_value_192 rfl mk_X12_done ml_X12_157 im_X12_done se_X12_X12_X12_done sh_54 (by decide) rfl rfl rfl ⟨Nat.le_of_ble_eq_true rfl, Nat.le_of_ble_eq_true rfl, Nat.le_of_ble_eq_true rfl, Nat.le_of_ble_eq_true rfl⟩ (Nat.le_of_ble_eq_true rfl) (c_X12_done ?_)
          exact s_iret dX12_value_195 rfl (by decide) (by decide) (k3 _ _ ⟨i18, i32, fun z => absurd z c2⟩ (nv_ne hv c93) (fun z => absurd z c2) (fun z => ⟨rfl, rfl⟩))
        · refine s_aload_n (pc' := 97) dX12_value_96 rfl rfl ?_
          refine s_iconst (pc' := 98) (v := 2) dX12_value_97 rfl (by decide) ?_
          refine s_callV (pc' := 101) (As := [.int _]) dX12_value_98 rfl mk_X12_refused ml_X12_149 im_X12_refused se_X12_X12_X12_refused sh_54 (by decide) rfl rfl rfl ⟨Nat.le_of_ble_eq_true rfl, Nat.le_of_ble_eq_true rfl, Nat.le_of_ble_eq_true rfl, Nat.le_of_ble_eq_true rfl⟩ (Nat.le_of_ble_eq_true rfl) (c_X12_refused ?_)
          exact s_iret dX12_value_101 rfl (by decide) (by decide) (k2 ⟨i18, i32, fun z => absurd z c2⟩ (nv_eq hv (by omega) c93))
      · refine s_ifeqT (tgt := 79) dX12_value_35 (by decide) (by decide) ?_
        refine s_aload_n (pc' := 80) dX12_value_79 rfl rfl ?_
        refine s_iconst (pc' := 81) (v := 1) dX12_value_80 rfl (by decide) ?_
        refine s_callV (pc' := 84) (As := [.int _]) dX12_value_81 rfl mk_X12_refused ml_X12_149 im_X12_refused se_X12_X12_X12_refused sh_54 (by decide) rfl rfl rfl ⟨Nat.le_of_ble_eq_true rfl, Nat.le_of_ble_eq_true rfl, Nat.le_of_ble_eq_true rfl, Nat.le_of_ble_eq_true rfl⟩ (Nat.le_of_ble_eq_true rfl) (c_X12_refused ?_)
        exact s_iret dX12_value_84 rfl (by decide) (by decide) (k1 (fun z => i32 z.2.1))
    · refine s_ifeqT (tgt := 79) dX12_value_21 (by decide) (by decide) ?_
      refine s_aload_n (pc' := 80) dX12_value_79 rfl rfl ?_
      refine s_iconst (pc' := 81) (v := 1) dX12_value_80 rfl (by decide) ?_
      refine s_callV (pc' := 84) (As := [.int _]) dX12_value_81 rfl mk_X12_refused ml_X12_149 im_X12_refused se_X12_X12_X12_refused sh_54 (by decide) rfl rfl rfl ⟨Nat.le_of_ble_eq_true rfl, Nat.le_of_ble_eq_true rfl, Nat.le_of_ble_eq_true rfl, Nat.le_of_ble_eq_true rfl⟩ (Nat.le_of_ble_eq_true rfl) (c_X12_refused ?_)
      exact s_iret dX12_value_84 rfl (by decide) (by decide) (k1 (fun z => i18 z.1))
  · refine s_iconst (pc' := 6) (v := 1) dX12_value_5 rfl (by decide) ?_
    refine s_goto (tgt := 10) dX12_value_6 (by decide) ?_
    refine t_istore (pc' := 12) (L' := [.ref 54, .int _, .int _, .int _, .int _, .retAddr _]) dX12_value_10 rfl (Nat.le_of_ble_eq_true rfl) rfl ?_
    refine s_iload_n (pc' := 13) dX12_value_12 rfl rfl ?_
    refine s_i2l (pc' := 14) dX12_value_13 rfl ?_
    refine s_lconst (pc' := 15) (v := 0) dX12_value_14 rfl (by decide) ?_
    refine s_ldc2 (pc' := 18) dX12_value_15 rfl kl_X12_133 ?_
    refine s_callS (pc' := 21) (As := [.long _, .long _, .long _]) dX12_value_18 rfl mk_X12_isIn ml_X12_135 sm_X12_isIn rfl rfl ⟨Nat.le_of_ble_eq_true rfl, Nat.le_of_ble_eq_true rfl, Nat.le_of_ble_eq_true rfl, Nat.le_of_ble_eq_true rfl⟩ (Nat.le_of_ble_eq_true rfl) (c_isInR (a' := 0) (b' := 4) rfl rfl (fun i18 => ?_) (fun i18 => ?_))
    · refine s_ifeqF (pc' := 24) (tgt := 79) dX12_value_21 (by decide) rfl (by decide) ?_
      refine s_iload_n (pc' := 25) dX12_value_24 rfl rfl ?_
      refine s_i2l (pc' := 26) dX12_value_25 rfl ?_
      refine s_ldc2 (pc' := 29) dX12_value_26 rfl kl_X12_139 ?_
      refine s_ldc2 (pc' := 32) dX12_value_29 rfl kl_X12_141 ?_
      refine s_callS (pc' := 35) (As := [.long _, .long _, .long _]) dX12_value_32 rfl mk_X12_isIn ml_X12_135 sm_X12_isIn rfl rfl ⟨Nat.le_of_ble_eq_true rfl, Nat.le_of_ble_eq_true rfl, Nat.le_of_ble_eq_true rfl, Nat.le_of_ble_eq_true rfl⟩ (Nat.le_of_ble_eq_true rfl) (c_isInR (a' := -99) (b' := 99) rfl rfl (fun i32 => ?_) (fun i32 => ?_))
      · refine s_ifeqF (pc' := 38) (tgt := 79) dX12_value_35 (by decide) rfl (by decide) ?_
        refine s_iload (pc' := 40) dX12_value_38 rfl rfl ?_
        refine s_ifeqF (pc' := 43) (tgt := 85) dX12_value_40 (by decide) rfl (by decide) ?_
        refine s_iload_n (pc' := 44) dX12_value_43 rfl rfl ?_
        refine s_iflt (pc' := 47) (tgt := 79) dX12_value_44 (by decide) rfl (fun c44 => ?_) (fun c44 => ?_)
        · refine s_aload_n (pc' := 80) dX12_value_79 rfl rfl ?_
          refine s_iconst (pc' := 81) (v := 1) dX12_value_80 rfl (by decide) ?_
          refine s_callV (pc' := 84) (As := [.int _]) dX12_value_81 rfl mk_X12_refused ml_X12_149 im_X12_refused se_X12_X12_X12_refused sh_54 (by decide) rfl rfl rfl ⟨Nat.le_of_ble_eq_true rfl, Nat.le_of_ble_eq_true rfl, Nat.le_of_ble_eq_true rfl, Nat.le_of_ble_eq_true rfl⟩ (Nat.le_of_ble_eq_true rfl) (c_X12_refused ?_)
          exact s_iret dX12_value_84 rfl (by decide) (by decide) (k1 (fun z => (dOk_r (z.2.2 c2)).1 c44))
        · refine s_iload_n (pc' := 48) dX12_value_47 rfl rfl ?_
          refine s_bipush (pc' := 50) (v := 8) dX12_value_48 rfl (by decide) ?_
          refine s_irem (pc' := 51) dX12_value_50 rfl (by decide) ?_
          refine s_i2l (pc' := 52) dX12_value_51 rfl ?_
          refine s_lconst (pc' := 53) (v := 1) dX12_value_52 rfl (by decide) ?_
          refine s_ldc2 (pc' := 56) dX12_value_53 rfl kl_X12_143 ?_
          refine s_callS (pc' := 59) (As := [.long _, .long _, .long _]) dX12_value_56 rfl mk_X12_isIn ml_X12_135 sm_X12_isIn rfl rfl ⟨Nat.le_of_ble_eq_true rfl, Nat.le_of_ble_eq_true rfl, Nat.le_of_ble_eq_true rfl, Nat.le_of_ble_eq_true rfl⟩ (Nat.le_of_ble_eq_true rfl) (c_isInR (a' := 1) (b' := 5) rfl rfl (fun i56 => ?_) (fun i56 => ?_))
          · refine s_ifeqF (pc' := 62) (tgt := 79) dX12_value_59 (by decide) rfl (by decide) ?_
            refine s_iload_n (pc' := 63) dX12_value_62 rfl rfl ?_
            refine s_bipush (pc' := 65) (v := 8) dX12_value_63 rfl (by decide) ?_
            refine s_idiv (pc' := 66) dX12_value_65 rfl (by decide) ?_
            refine s_i2l (pc' := 67) dX12_value_66 rfl ?_
            refine s_ldc2 (pc' := 70) dX12_value_67 rfl kl_X12_145 ?_
            refine s_ldc2 (pc' := 73) dX12_value_70 rfl kl_X12_147 ?_
            refine s_callS (pc' := 76) (As := [.long _, .long _, .long _]) dX12_value_73 rfl mk_X12_isIn ml_X12_135 sm_X12_isIn rfl rfl ⟨Nat.le_of_ble_eq_true rfl, Nat.le_of_ble_eq_true rfl, Nat.le_of_ble_eq_true rfl, Nat.le_of_ble_eq_true rfl⟩ (Nat.le_of_ble_eq_true rfl) (c_isInR (a' := 2) (b' := 12) rfl rfl (fun i73 => ?_) (fun i73 => ?_))
            · refine s_ifneT (tgt := 85) dX12_value_76 (by decide) (by decide) ?_
              refine s_aload_n (pc' := 86) dX12_value_85 rfl rfl ?_
              refine s_getS (pc' := 89) (b := 75) dX12_value_86 rfl (by decide) rfl (by decide) fa_X12_70_12 rfl rfl ?_
              refine s_iconst (pc' := 90) (v := 0) dX12_value_89 rfl (by decide) ?_
              refine t_iald (pc' := 91) (q := 0) dX12_value_90 rfl sh_75 rfl (by decide) ?_
              refine s_bipush (pc' := 93) (v := 10) dX12_value_91 rfl (by decide) ?_
              refine s_icmpne (pc' := 96) (tgt := 102) dX12_value_93 (by decide) rfl (fun c93 => ?_) (fun c93 => ?_)
              · refine s_aload_n (pc' := 103) dX12_value_102 rfl rfl ?_
                refine s_getS (pc' := 106) (b := 75) dX12_value_103 rfl (by decide) rfl (by decide) fa_X12_70_12 rfl rfl ?_
                refine s_iconst (pc' := 107) (v := 0) dX12_value_106 rfl (by decide) ?_
                refine t_iald (pc' := 108) (q := 0) dX12_value_107 rfl sh_75 rfl (by decide) ?_
                refine t_istore (pc' := 110) (L' := [.ref 54, .int _, .int _, .int _, .int _, .int _]) dX12_value_108 rfl (Nat.le_of_ble_eq_true rfl) rfl ?_
                refine s_aload_n (pc' := 111) dX12_value_110 rfl rfl ?_
                refine s_getS (pc' := 114) (b := 75) dX12_value_111 rfl (by decide) rfl (by decide) fa_X12_70_12 rfl rfl ?_
                refine s_iconst (pc' := 115) (v := 0) dX12_value_114 rfl (by decide) ?_
                refine s_dup2 (pc' := 116) dX12_value_115 rfl rfl rfl ?_
                refine t_iald (pc' := 117) (q := 0) dX12_value_116 rfl sh_75 rfl (by decide) ?_
                refine s_iconst (pc' := 118) (v := 1) dX12_value_117 rfl (by decide) ?_
                refine s_iadd (pc' := 119) dX12_value_118 rfl ?_
                refine t_iast (pc' := 120) (q := 0) dX12_value_119 rfl sh_75 rfl (by decide) ?_
                refine s_aload_n (pc' := 121) dX12_value_120 rfl rfl ?_
                refine s_getS (pc' := 124) (b := 55) dX12_value_121 rfl (by decide) rfl (by decide) fa_X12_7_12 rfl rfl ?_
                refine s_iload (pc' := 126) dX12_value_124 rfl rfl ?_
                refine s_iload_n (pc' := 127) dX12_value_126 rfl rfl ?_
                refine t_iast (pc' := 128) dX12_value_127 rfl sh_55 hv (by have := nv_ne (m := 10) hv c93; omega) ?_
                refine s_aload_n (pc' := 129) dX12_value_128 rfl rfl ?_
                refine s_getS (pc' := 132) (b := 56) dX12_value_129 rfl (by decide) rfl (by decide) fa_X12_13_12 rfl rfl ?_
                refine s_iload (pc' := 134) dX12_value_132 rfl rfl ?_
                refine s_iload_n (pc' := 135) dX12_value_134 rfl rfl ?_
                refine t_iast (pc' := 136) dX12_value_135 rfl sh_56 hv (by have := nv_ne (m := 10) hv c93; omega) ?_
                refine s_aload_n (pc' := 137) dX12_value_136 rfl rfl ?_
                refine s_getS (pc' := 140) (b := 57) dX12_value_137 rfl (by decide) rfl (by decide) fa_X12_16_12 rfl rfl ?_
                refine s_iload (pc' := 142) dX12_value_140 rfl rfl ?_
                refine s_iload (pc' := 144) dX12_value_142 rfl rfl ?_
                refine s_ifeqF (pc' := 147) (tgt := 154) dX12_value_144 (by decide) rfl (by decide) ?_
                refine s_iload_n (pc' := 148) dX12_value_147 rfl rfl ?_
                refine s_bipush (pc' := 150) (v := 8) dX12_value_148 rfl (by decide) ?_
                refine s_irem (pc' := 151) dX12_value_150 rfl (by decide) ?_
                refine s_goto (tgt := 155) dX12_value_151 (by decide) ?_
                refine t_iast (pc' := 156) dX12_value_155 rfl sh_57 hv (by have := nv_ne (m := 10) hv c93; omega) ?_
                refine s_aload_n (pc' := 157) dX12_value_156 rfl rfl ?_
                refine s_getS (pc' := 160) (b := 58) dX12_value_157 rfl (by decide) rfl (by decide) fa_X12_19_12 rfl rfl ?_
                refine s_iload (pc' := 162) dX12_value_160 rfl rfl ?_
                refine s_iload (pc' := 164) dX12_value_162 rfl rfl ?_
                refine s_ifeqF (pc' := 167) (tgt := 174) dX12_value_164 (by decide) rfl (by decide) ?_
                refine s_iload_n (pc' := 168) dX12_value_167 rfl rfl ?_
                refine s_bipush (pc' := 170) (v := 8) dX12_value_168 rfl (by decide) ?_
                refine s_idiv (pc' := 171) dX12_value_170 rfl (by decide) ?_
                refine s_goto (tgt := 175) dX12_value_171 (by decide) ?_
                refine t_iast (pc' := 176) dX12_value_175 rfl sh_58 hv (by have := nv_ne (m := 10) hv c93; omega) ?_
                refine s_aload_n (pc' := 177) dX12_value_176 rfl rfl ?_
                refine s_getS (pc' := 180) (b := 59) dX12_value_177 rfl (by decide) rfl (by decide) fa_X12_22_12 rfl rfl ?_
                refine s_iload (pc' := 182) dX12_value_180 rfl rfl ?_
                refine s_iconst (pc' := 183) (v := 0) dX12_value_182 rfl (by decide) ?_
                refine t_iast (pc' := 184) dX12_value_183 rfl sh_59 hv (by have := nv_ne (m := 10) hv c93; omega) ?_
                refine s_aload_n (pc' := 185) dX12_value_184 rfl rfl ?_
                refine s_iconst (pc' := 186) (v := 0) dX12_value_185 rfl (by decide) ?_
                refine t_putI (pc' := 189) dX12_value_186 rfl sh_54 (by decide) fa_X12_153_12 (Or.inl rfl) rfl rfl rfl ?_
                refine s_aload_n (pc' := 190) dX12_value_189 rfl rfl ?_
                refine s_iload (pc' := 192) dX12_value_190 rfl rfl ?_
                refine s_callV (pc' := 195) (As := [.int _]) dX12_value_192 rfl mk_X12_done ml_X12_157 im_X12_done se_X12_X12_X12_done sh_54 (by decide) rfl rfl rfl ⟨Nat.le_of_ble_eq_true rfl, Nat.le_of_ble_eq_true rfl, Nat.le_of_ble_eq_true rfl, Nat.le_of_ble_eq_true rfl⟩ (Nat.le_of_ble_eq_true rfl) (c_X12_done ?_)
                exact s_iret dX12_value_195 rfl (by decide) (by decide) (k3 _ _ ⟨i18, i32, fun _ => by obtain ⟨c, s, h1, h2, h3, h4, h5, -⟩ := dOk_of c44 i56 i73; exact ⟨c, s, h1, h2, h3, h4, h5⟩⟩ (nv_ne hv c93) (fun z => (by obtain ⟨c, s, h1, h2, h3, h4, h5, h6, h7⟩ := dOk_of c44 i56 i73; exact ⟨c, s, h1, h2, h3, h4, h5, h6, h7⟩)) (fun z => absurd c2 z))
              · refine s_aload_n (pc' := 97) dX12_value_96 rfl rfl ?_
                refine s_iconst (pc' := 98) (v := 2) dX12_value_97 rfl (by decide) ?_
                refine s_callV (pc' := 101) (As := [.int _]) dX12_value_98 rfl mk_X12_refused ml_X12_149 im_X12_refused se_X12_X12_X12_refused sh_54 (by decide) rfl rfl rfl ⟨Nat.le_of_ble_eq_true rfl, Nat.le_of_ble_eq_true rfl, Nat.le_of_ble_eq_true rfl, Nat.le_of_ble_eq_true rfl⟩ (Nat.le_of_ble_eq_true rfl) (c_X12_refused ?_)
                exact s_iret dX12_value_101 rfl (by decide) (by decide) (k2 ⟨i18, i32, fun _ => by obtain ⟨c, s, h1, h2, h3, h4, h5, -⟩ := dOk_of c44 i56 i73; exact ⟨c, s, h1, h2, h3, h4, h5⟩⟩ (nv_eq hv (by omega) c93))
            · refine s_ifneF (pc' := 79) (tgt := 85) dX12_value_76 (by decide) rfl (by decide) ?_
              refine s_aload_n (pc' := 80) dX12_value_79 rfl rfl ?_
              refine s_iconst (pc' := 81) (v := 1) dX12_value_80 rfl (by decide) ?_
              refine s_callV (pc' := 84) (As := [.int _]) dX12_value_81 rfl mk_X12_refused ml_X12_149 im_X12_refused se_X12_X12_X12_refused sh_54 (by decide) rfl rfl rfl ⟨Nat.le_of_ble_eq_true rfl, Nat.le_of_ble_eq_true rfl, Nat.le_of_ble_eq_true rfl, Nat.le_of_ble_eq_true rfl⟩ (Nat.le_of_ble_eq_true rfl) (c_X12_refused ?_)
              exact s_iret dX12_value_84 rfl (by decide) (by decide) (k1 (fun z => i73 (dOk_r (z.2.2 c2)).2.2))
          · refine s_ifeqT (tgt := 79) dX12_value_59 (by decide) (by decide) ?_
            refine s_aload_n (pc' := 80) dX12_value_79 rfl rfl ?_
            refine s_iconst (pc' := 81) (v := 1) dX12_value_80 rfl (by decide) ?_
            refine s_callV (pc' := 84) (As := [.int _]) dX12_value_81 rfl mk_X12_refused ml_X12_149 im_X12_refused se_X12_X12_X12_refused sh_54 (by decide) rfl rfl rfl ⟨Nat.le_of_ble_eq_true rfl, Nat.le_of_ble_eq_true rfl, Nat.le_of_ble_eq_true rfl, Nat.le_of_ble_eq_true rfl⟩ (Nat.le_of_ble_eq_true rfl) (c_X12_refused ?_)
            exact s_iret dX12_value_84 rfl (by decide) (by decide) (k1 (fun z => i56 (dOk_r (z.2.2 c2)).2.1))
      · refine s_ifeqT (tgt := 79) dX12_value_35 (by decide) (by decide) ?_
        refine s_aload_n (pc' := 80) dX12_value_79 rfl rfl ?_
        refine s_iconst (pc' := 81) (v := 1) dX12_value_80 rfl (by decide) ?_
        refine s_callV (pc' := 84) (As := [.int _]) dX12_value_81 rfl mk_X12_refused ml_X12_149 im_X12_refused se_X12_X12_X12_refused sh_54 (by decide) rfl rfl rfl ⟨Nat.le_of_ble_eq_true rfl, Nat.le_of_ble_eq_true rfl, Nat.le_of_ble_eq_true rfl, Nat.le_of_ble_eq_true rfl⟩ (Nat.le_of_ble_eq_true rfl) (c_X12_refused ?_)
        exact s_iret dX12_value_84 rfl (by decide) (by decide) (k1 (fun z => i32 z.2.1))
    · refine s_ifeqT (tgt := 79) dX12_value_21 (by decide) (by decide) ?_
      refine s_aload_n (pc' := 80) dX12_value_79 rfl rfl ?_
      refine s_iconst (pc' := 81) (v := 1) dX12_value_80 rfl (by decide) ?_
      refine s_callV (pc' := 84) (As := [.int _]) dX12_value_81 rfl mk_X12_refused ml_X12_149 im_X12_refused se_X12_X12_X12_refused sh_54 (by decide) rfl rfl rfl ⟨Nat.le_of_ble_eq_true rfl, Nat.le_of_ble_eq_true rfl, Nat.le_of_ble_eq_true rfl, Nat.le_of_ble_eq_true rfl⟩ (Nat.le_of_ble_eq_true rfl) (c_X12_refused ?_)
      exact s_iret dX12_value_84 rfl (by decide) (by decide) (k1 (fun z => i18 z.1))
theorem up2_d {α : Type} {f : Nat → Nat → α} {a j b i : Nat} {x : α} (h : b ≠ a) : up2 f a j x b i = f b i := by simp [up2, h]
theorem up2_e {α : Type} {f : Nat → Nat → α} {a j i : Nat} {x : α} (h : i ≠ j) : up2 f a j x a i = f a i := by simp [up2, h]
/-- a set with a bit, or without it -/
def wb (x : Int32) (j : Nat) (b : Int32) : Int32 := if b = 0 then x &&& (((1 : Int32) <<< (nI j &&& 31)) ^^^ (-1)) else x ||| ((1 : Int32) <<< (nI j &&& 31))
theorem wb_0 {x : Int32} {j : Nat} {b : Int32} (h : b = 0) : wb x j b = x &&& (((1 : Int32) <<< (nI j &&& 31)) ^^^ (-1)) := if_pos h
theorem wb_1 {x : Int32} {j : Nat} {b : Int32} (h : ¬ b = 0) : wb x j b = x ||| ((1 : Int32) <<< (nI j &&& 31)) := if_neg h
theorem c_X12_free {N : Nat} {S : Nat → Nat × Nat} {I : Nat → Nat → Int32} {J : Nat → Nat → Int64} {Q : Nat → Nat → Option Nat} {κ : Option Value → HP → Prop} {v b : Int32} (k1 : (∀ j, j < 8 → v ≠ nI j) → κ (some (.int (-1))) (N, S, up2 I 54 24 1, J, Q)) (k2 : ∀ j, j < 8 → v = nI j → κ (some (.int (if I 75 4 = wb (I 75 4) j b then 0 else 1))) (N, S, (up2 (up2 (up2 I 75 4 (wb (I 75 4) j b)) 54 37 0) 54 24 0), J, Q)) : CT E1 M_X12_free [.ref 54, .int v, .int b] (N, S, I, J, Q) κ := by
  refine ofSP mk_X12_free (Nat.le_of_ble_eq_true rfl) (L := [.ref 54, .int _, .int _, .retAddr _]) rfl ?_
  refine s_iload_n (pc' := 1) dX12_free_0 rfl rfl ?_
  refine s_callS (pc' := 4) (As := [.int _]) dX12_free_1 rfl mk_X12_isChoice ml_X12_160 sm_X12_isChoice rfl rfl ⟨Nat.le_of_ble_eq_true rfl, Nat.le_of_ble_eq_true rfl, Nat.le_of_ble_eq_true rfl, Nat.le_of_ble_eq_true rfl⟩ (Nat.le_of_ble_eq_true rfl) (c_X12_isChoice (fun j1 hj1 e1 => ?_) (fun n1 => ?_))
  · subst e1
    refine s_ifneT (tgt := 13) dX12_free_4 (by decide) (by decide) ?_
    refine s_aload_n (pc' := 14) dX12_free_13 rfl rfl ?_
    refine s_getS (pc' := 17) (b := 75) dX12_free_14 rfl (by decide) rfl (by decide) fa_X12_70_12 rfl rfl ?_
    refine s_iconst (pc' := 18) (v := 4) dX12_free_17 rfl (by decide) ?_
    refine t_iald (pc' := 19) (q := 4) dX12_free_18 rfl sh_75 rfl (by decide) ?_
    refine t_istore_n (pc' := 20) (L' := [.ref 54, .int _, .int _, .int _]) dX12_free_19 rfl (Nat.le_of_ble_eq_true rfl) rfl ?_
    refine s_aload_n (pc' := 21) dX12_free_20 rfl rfl ?_
    refine s_getS (pc' := 24) (b := 75) dX12_free_21 rfl (by decide) rfl (by decide) fa_X12_70_12 rfl rfl ?_
    refine s_iconst (pc' := 25) (v := 4) dX12_free_24 rfl (by decide) ?_
    refine s_iload_n (pc' := 26) dX12_free_25 rfl rfl ?_
    refine s_ifeq (pc' := 29) (tgt := 37) dX12_free_26 (by decide) rfl (fun c26 => ?_) (fun c26 => ?_)
    · refine s_iload_n (pc' := 38) dX12_free_37 rfl rfl ?_
      refine s_iconst (pc' := 39) (v := 1) dX12_free_38 rfl (by decide) ?_
      refine s_iload_n (pc' := 40) dX12_free_39 rfl rfl ?_
      refine s_ishl (pc' := 41) dX12_free_40 rfl ?_
      refine s_iconst (pc' := 42) (v := -1) dX12_free_41 rfl (by decide) ?_
      refine s_ixor (pc' := 43) dX12_free_42 rfl ?_
      refine s_iand (pc' := 44) dX12_free_43 rfl ?_
      refine t_iast (pc' := 45) (q := 4) dX12_free_44 rfl sh_75 rfl (by decide) ?_
      refine s_aload_n (pc' := 46) dX12_free_45 rfl rfl ?_
      refine s_iconst (pc' := 47) (v := 0) dX12_free_46 rfl (by decide) ?_
      refine t_putI (pc' := 50) dX12_free_47 rfl sh_54 (by decide) fa_X12_153_12 (Or.inl rfl) rfl rfl rfl ?_
      refine s_aload_n (pc' := 51) dX12_free_50 rfl rfl ?_
      refine s_iload_n (pc' := 52) dX12_free_51 rfl rfl ?_
      refine s_aload_n (pc' := 53) dX12_free_52 rfl rfl ?_
      refine s_getS (pc' := 56) (b := 75) dX12_free_53 rfl (by decide) rfl (by decide) fa_X12_70_12 rfl rfl ?_
      refine s_iconst (pc' := 57) (v := 4) dX12_free_56 rfl (by decide) ?_
      refine t_iald (pc' := 58) (q := 4) dX12_free_57 rfl sh_75 rfl (by decide) ?_
      refine s_icmpne (pc' := 61) (tgt := 65) dX12_free_58 (by decide) rfl (fun c58 => ?_) (fun c58 => ?_)
      · refine s_iconst (pc' := 66) (v := 1) dX12_free_65 rfl (by decide) ?_
        refine s_callV (pc' := 69) (As := [.int _]) dX12_free_66 rfl mk_X12_done ml_X12_157 im_X12_done se_X12_X12_X12_done sh_54 (by decide) rfl rfl rfl ⟨Nat.le_of_ble_eq_true rfl, Nat.le_of_ble_eq_true rfl, Nat.le_of_ble_eq_true rfl, Nat.le_of_ble_eq_true rfl⟩ (Nat.le_of_ble_eq_true rfl) (c_X12_done ?_)
        exact s_iret dX12_free_69 rfl (by decide) (by decide) (by have z0 := k2 _ (by assumption) (by first | rfl | assumption); (try simp (disch := decide) only [up2_d, up2_e, up2_s] at c58); rw [wb_0 c26] at z0; (first | rw [if_pos c58] at z0 | rw [if_neg c58] at z0); exact z0)
      · refine s_iconst (pc' := 62) (v := 0) dX12_free_61 rfl (by decide) ?_
        refine s_goto (tgt := 66) dX12_free_62 (by decide) ?_
        refine s_callV (pc' := 69) (As := [.int _]) dX12_free_66 rfl mk_X12_done ml_X12_157 im_X12_done se_X12_X12_X12_done sh_54 (by decide) rfl rfl rfl ⟨Nat.le_of_ble_eq_true rfl, Nat.le_of_ble_eq_true rfl, Nat.le_of_ble_eq_true rfl, Nat.le_of_ble_eq_true rfl⟩ (Nat.le_of_ble_eq_true rfl) (c_X12_done ?_)
        exact s_iret dX12_free_69 rfl (by decide) (by decide) (by have z0 := k2 _ (by assumption) (by first | rfl | assumption); (try simp (disch := decide) only [up2_d, up2_e, up2_s] at c58); rw [wb_0 c26] at z0; (first | rw [if_pos c58] at z0 | rw [if_neg c58] at z0); exact z0)
    · refine s_iload_n (pc' := 30) dX12_free_29 rfl rfl ?_
      refine s_iconst (pc' := 31) (v := 1) dX12_free_30 rfl (by decide) ?_
      refine s_iload_n (pc' := 32) dX12_free_31 rfl rfl ?_
      refine s_ishl (pc' := 33) dX12_free_32 rfl ?_
      refine s_ior (pc' := 34) dX12_free_33 rfl ?_
      refine s_goto (tgt := 44) dX12_free_34 (by decide) ?_
      refine t_iast (pc' := 45) (q := 4) dX12_free_44 rfl sh_75 rfl (by decide) ?_
      refine s_aload_n (pc' := 46) dX12_free_45 rfl rfl ?_
      refine s_iconst (pc' := 47) (v := 0) dX12_free_46 rfl (by decide) ?_
      refine t_putI (pc' := 50) dX12_free_47 rfl sh_54 (by decide) fa_X12_153_12 (Or.inl rfl) rfl rfl rfl ?_
      refine s_aload_n (pc' := 51) dX12_free_50 rfl rfl ?_
      refine s_iload_n (pc' := 52) dX12_free_51 rfl rfl ?_
      refine s_aload_n (pc' := 53) dX12_free_52 rfl rfl ?_
      refine s_getS (pc' := 56) (b := 75) dX12_free_53 rfl (by decide) rfl (by decide) fa_X12_70_12 rfl rfl ?_
      refine s_iconst (pc' := 57) (v := 4) dX12_free_56 rfl (by decide) ?_
      refine t_iald (pc' := 58) (q := 4) dX12_free_57 rfl sh_75 rfl (by decide) ?_
      refine s_icmpne (pc' := 61) (tgt := 65) dX12_free_58 (by decide) rfl (fun c58 => ?_) (fun c58 => ?_)
      · refine s_iconst (pc' := 66) (v := 1) dX12_free_65 rfl (by decide) ?_
        refine s_callV (pc' := 69) (As := [.int _]) dX12_free_66 rfl mk_X12_done ml_X12_157 im_X12_done se_X12_X12_X12_done sh_54 (by decide) rfl rfl rfl ⟨Nat.le_of_ble_eq_true rfl, Nat.le_of_ble_eq_true rfl, Nat.le_of_ble_eq_true rfl, Nat.le_of_ble_eq_true rfl⟩ (Nat.le_of_ble_eq_true rfl) (c_X12_done ?_)
        exact s_iret dX12_free_69 rfl (by decide) (by decide) (by have z0 := k2 _ (by assumption) (by first | rfl | assumption); (try simp (disch := decide) only [up2_d, up2_e, up2_s] at c58); rw [wb_1 c26] at z0; (first | rw [if_pos c58] at z0 | rw [if_neg c58] at z0); exact z0)
      · refine s_iconst (pc' := 62) (v := 0) dX12_free_61 rfl (by decide) ?_
        refine s_goto (tgt := 66) dX12_free_62 (by decide) ?_
        refine s_callV (pc' := 69) (As := [.int _]) dX12_free_66 rfl mk_X12_done ml_X12_157 im_X12_done se_X12_X12_X12_done sh_54 (by decide) rfl rfl rfl ⟨Nat.le_of_ble_eq_true rfl, Nat.le_of_ble_eq_true rfl, Nat.le_of_ble_eq_true rfl, Nat.le_of_ble_eq_true rfl⟩ (Nat.le_of_ble_eq_true rfl) (c_X12_done ?_)
        exact s_iret dX12_free_69 rfl (by decide) (by decide) (by have z0 := k2 _ (by assumption) (by first | rfl | assumption); (try simp (disch := decide) only [up2_d, up2_e, up2_s] at c58); rw [wb_1 c26] at z0; (first | rw [if_pos c58] at z0 | rw [if_neg c58] at z0); exact z0)
  · refine s_ifneF (pc' := 7) (tgt := 13) dX12_free_4 (by decide) rfl (by decide) ?_
    refine s_aload_n (pc' := 8) dX12_free_7 rfl rfl ?_
    refine s_iconst (pc' := 9) (v := 1) dX12_free_8 rfl (by decide) ?_
    refine s_callV (pc' := 12) (As := [.int _]) dX12_free_9 rfl mk_X12_refused ml_X12_149 im_X12_refused se_X12_X12_X12_refused sh_54 (by decide) rfl rfl rfl ⟨Nat.le_of_ble_eq_true rfl, Nat.le_of_ble_eq_true rfl, Nat.le_of_ble_eq_true rfl, Nat.le_of_ble_eq_true rfl⟩ (Nat.le_of_ble_eq_true rfl) (c_X12_refused ?_)
    exact s_iret dX12_free_12 rfl (by decide) (by decide) (k1 n1)
