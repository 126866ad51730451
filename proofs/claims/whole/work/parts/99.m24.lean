set_option maxHeartbeats 400000 in
theorem i3l {p z : Nat} (hp : p < 2 ^ 31) (hz : z ≤ 40) : ((nI p).toInt64 + 3 ≤ (nI z).toInt64) ↔ p + 3 ≤ z := by
  rw [Int64.le_iff_toInt_le, Int64.toInt_add, Int32.toInt_toInt64, Int32.toInt_toInt64, nI_toInt hp, nI_toInt (by omega), show (3 : Int64).toInt = 3 by decide, Int.bmod_eq_of_le (by omega) (by omega)]
  omega
theorem m16 {x : Int32} {m : Nat} (h : inR x (-1000) 1000) (e : 16 * x = nI m) (hm : m < 1000) : (m : Int) = 16 * x.toInt := by
  have := congrArg Int32.toInt e
  rw [nI_toInt (by omega), Int32.toInt_mul, show (16 : Int32).toInt = 16 by decide] at this
  unfold inR at h
  rw [Int.bmod_eq_of_le (by omega) (by omega)] at this
  omega
theorem m16n {x : Int32} (h : inR x 0 20) : ∃ so, so ≤ 20 ∧ x = nI so ∧ 16 * x = nI (0 + 16 * so) := by
  obtain ⟨so, -, h2, rfl⟩ := in_nI (a := 0) (b := 20) h (by decide)
  refine ⟨so, h2, rfl, ?_⟩
  rw [show (16 : Int32) = nI 16 from rfl, pk_mul, Nat.zero_add]
set_option maxHeartbeats 200000 in
theorem c_X12_row {N : Nat} {S : Nat → Nat × Nat} {I : Nat → Nat → Int32} {J : Nat → Nat → Int64} {Q : Nat → Nat → Option Nat} {κ : Option Value → HP → Prop} {D : Nat → Nat → Int32} {nv nr ns : Nat} (hD : DA I D) (hW : DW D nv nr ns) (hR : ∀ w, w < nv → RKP D nv nr w) (hS : ∀ s, s < 4 → ∃ z, z ≤ 40 ∧ I 92 s = nI z) (hC : ∀ s, s < 4 → ∀ j, j < 40 → inR (I 93 (40 * s + j)) (-1000) 1000) {sh srt i : Int32} (k1 : ((∀ s, s < 4 → sh ≠ nI s) ∨ ¬ inR srt 0 2) → κ (some (.int (-1))) (N, S, up2 I 54 24 1, J, Q)) (k2 : ∀ s, s < 4 → sh = nI s → inR srt 0 2 → nr = 30 → κ (some (.int (-1))) (N, S, up2 I 54 24 2, J, Q)) (k3 : ∀ s, s < 4 → sh = nI s → inR srt 0 2 → nr < 30 → I 91 s = 0 → κ (some (.int (-1))) (N, S, up2 I 54 24 10, J, Q)) (k4 : ∀ s, s < 4 → sh = nI s → inR srt 0 2 → nr < 30 → I 91 s ≠ 0 → I 91 s ≠ srt + 1 → κ (some (.int (-1))) (N, S, up2 I 54 24 11, J, Q)) (k5 : ∀ s, s < 4 → sh = nI s → inR srt 0 2 → nr < 30 → I 91 s ≠ 0 → I 91 s = srt + 1 → ∀ z, z ≤ 40 → I 92 s = nI z → (∀ p, p + 3 ≤ z → i ≠ nI p) → κ (some (.int (-1))) (N, S, up2 I 54 24 12, J, Q)) (k6 : ∀ s, s < 4 → sh = nI s → inR srt 0 2 → nr < 30 → I 91 s ≠ 0 → I 91 s = srt + 1 → ∀ z, z ≤ 40 → I 92 s = nI z → ∀ p, p + 3 ≤ z → i = nI p → (∀ a ra so am b fa, ¬ RGO nv nr (I 54 25) 0 (I 93 (40 * s + p)) (16 * I 93 (40 * s + p + 2)) (I 93 (40 * s + p + 1)) (-1) a ra so am b fa) → κ (some (.int (-1))) (N, S, up2 I 54 24 3, J, Q)) (k7 : ∀ s, s < 4 → sh = nI s → inR srt 0 2 → nr < 30 → I 91 s ≠ 0 → I 91 s = srt + 1 → ∀ z, z ≤ 40 → I 92 s = nI z → ∀ p, p + 3 ≤ z → i = nI p → ∀ a ra so am b fa, RGO nv nr (I 54 25) 0 (I 93 (40 * s + p)) (16 * I 93 (40 * s + p + 2)) (I 93 (40 * s + p + 1)) (-1) a ra so am b fa → ∀ m r, MNR D nr a (rdS (I 54 25) (I 54 26) b) m → RNG D nr a (rdS (I 54 25) (I 54 26) b) m r → ∀ I', RGI I I' D nr a (rdS (I 54 25) (I 54 26) b) m m r → κ (some (.int (-1))) (N, S, up2 I' 54 24 4, J, Q)) (k8 : ∀ s, s < 4 → sh = nI s → inR srt 0 2 → nr < 30 → I 91 s ≠ 0 → I 91 s = srt + 1 → ∀ z, z ≤ 40 → I 92 s = nI z → ∀ p, p + 3 ≤ z → i = nI p → ∀ a ra so am b fa, RGO nv nr (I 54 25) 0 (I 93 (40 * s + p)) (16 * I 93 (40 * s + p + 2)) (I 93 (40 * s + p + 1)) (-1) a ra so am b fa → (∀ v, v < 10 → bt (rdS (I 54 25) (I 54 26) b) v = true → dst D nr a v = 100) → ∀ I', (∀ c, c ≠ 77 → c ≠ 78 → I' c = I c) → κ (some (.int (nI nr))) (N, S, up2 (up2 (nwD I' nr (nI 0) (nI a) (nI ra) (nI so) 0 0 am b fa (I 54 25) (I 54 26) (I 54 27)) 54 37 0) 54 24 0, J, Q)) : CT E1 M_X12_row [.ref 54, .int sh, .int srt, .int i] (N, S, I, J, Q) κ := by
  refine ofSP mk_X12_row (Nat.le_of_ble_eq_true rfl) (L := [.ref 54, .int _, .int _, .int _, .retAddr _]) rfl ?_
  refine s_iload_n (pc' := 1) dX12_row_0 rfl rfl ?_
  refine s_i2l (pc' := 2) dX12_row_1 rfl ?_
  refine s_lconst (pc' := 3) (v := 0) dX12_row_2 rfl (by decide) ?_
  refine s_ldc2 (pc' := 6) dX12_row_3 rfl kl_X12_298 ?_
  refine s_callS (pc' := 9) (As := [.long _, .long _, .long _]) dX12_row_6 rfl mk_X12_isIn ml_X12_135 sm_X12_isIn rfl rfl ⟨Nat.le_of_ble_eq_true rfl, Nat.le_of_ble_eq_true rfl, Nat.le_of_ble_eq_true rfl, Nat.le_of_ble_eq_true rfl⟩ (Nat.le_of_ble_eq_true rfl) (c_isInR (a' := 0) (b' := 3) rfl rfl (fun i6 => ?_) (fun i6 => ?_))
  · refine s_ifeqF (pc' := 12) (tgt := 24) dX12_row_9 (by decide) rfl (by decide) ?_
    obtain ⟨s, -, hs3, rfl⟩ := in_nI (a := 0) (b := 3) i6 (by decide)
    have hs : s < 4 := by omega
    obtain ⟨z, hz1, hz2⟩ := hS s hs
    refine s_iload_n (pc' := 13) dX12_row_12 rfl rfl ?_
    refine s_i2l (pc' := 14) dX12_row_13 rfl ?_
    refine s_lconst (pc' := 15) (v := 0) dX12_row_14 rfl (by decide) ?_
    refine s_ldc2 (pc' := 18) dX12_row_15 rfl kl_X12_145 ?_
    refine s_callS (pc' := 21) (As := [.long _, .long _, .long _]) dX12_row_18 rfl mk_X12_isIn ml_X12_135 sm_X12_isIn rfl rfl ⟨Nat.le_of_ble_eq_true rfl, Nat.le_of_ble_eq_true rfl, Nat.le_of_ble_eq_true rfl, Nat.le_of_ble_eq_true rfl⟩ (Nat.le_of_ble_eq_true rfl) (c_isInR (a' := 0) (b' := 2) rfl rfl (fun i18 => ?_) (fun i18 => ?_))
    · refine s_ifneT (tgt := 30) dX12_row_21 (by decide) (by decide) ?_
      refine s_aload_n (pc' := 31) dX12_row_30 rfl rfl ?_
      refine s_getS (pc' := 34) (b := 75) dX12_row_31 rfl (by decide) rfl (by decide) fa_X12_70_12 rfl rfl ?_
      refine s_iconst (pc' := 35) (v := 1) dX12_row_34 rfl (by decide) ?_
      refine t_iald (pc' := 36) (q := 1) dX12_row_35 rfl sh_75 rfl (by decide) ?_
      refine s_bipush (pc' := 38) (v := 30) dX12_row_36 rfl (by decide) ?_
      refine s_icmpne (pc' := 41) (tgt := 47) dX12_row_38 (by decide) rfl (fun c38 => ?_) (fun c38 => ?_)
      · have n30 : nr < 30 := by have := hW.nr; have : nr ≠ 30 := fun z => c38 (by rw [hW.rn hD, z]; rfl); omega
        refine s_aload_n (pc' := 48) dX12_row_47 rfl rfl ?_
        refine s_getS (pc' := 51) (b := 91) dX12_row_48 rfl (by decide) rfl (by decide) fa_X12_120_12 rfl rfl ?_
        refine s_iload_n (pc' := 52) dX12_row_51 rfl rfl ?_
        refine t_iald (pc' := 53) (q := s) dX12_row_52 rfl sh_91 rfl hs ?_
        refine s_ifne (pc' := 56) (tgt := 63) dX12_row_53 (by decide) rfl (fun c53 => ?_) (fun c53 => ?_)
        · refine s_aload_n (pc' := 64) dX12_row_63 rfl rfl ?_
          refine s_getS (pc' := 67) (b := 91) dX12_row_64 rfl (by decide) rfl (by decide) fa_X12_120_12 rfl rfl ?_
          refine s_iload_n (pc' := 68) dX12_row_67 rfl rfl ?_
          refine t_iald (pc' := 69) (q := s) dX12_row_68 rfl sh_91 rfl hs ?_
          refine s_iload_n (pc' := 70) dX12_row_69 rfl rfl ?_
          refine s_iconst (pc' := 71) (v := 1) dX12_row_70 rfl (by decide) ?_
          refine s_iadd (pc' := 72) dX12_row_71 rfl ?_
          refine s_icmpeq (pc' := 75) (tgt := 82) dX12_row_72 (by decide) rfl (fun c72 => ?_) (fun c72 => ?_)
          · refine s_iload_n (pc' := 83) dX12_row_82 rfl rfl ?_
            refine s_iflt (pc' := 86) (tgt := 103) dX12_row_83 (by decide) rfl (fun c83 => ?_) (fun c83 => ?_)
            · refine s_aload_n (pc' := 104) dX12_row_103 rfl rfl ?_
              refine s_bipush (pc' := 106) (v := 12) dX12_row_104 rfl (by decide) ?_
              refine s_callV (pc' := 109) (As := [.int _]) dX12_row_106 rfl mk_X12_refused ml_X12_149 im_X12_refused se_X12_X12_X12_refused sh_54 (by decide) rfl rfl rfl ⟨Nat.le_of_ble_eq_true rfl, Nat.le_of_ble_eq_true rfl, Nat.le_of_ble_eq_true rfl, Nat.le_of_ble_eq_true rfl⟩ (Nat.le_of_ble_eq_true rfl) (c_X12_refused ?_)
              exact s_iret dX12_row_109 rfl (by decide) (by decide) (k5 s hs rfl i18 n30 c53 (by first | exact c72 | exact Decidable.not_not.mp c72) z hz1 hz2 (fun p hp e => nI_n0 (m := p) (by omega) (by rw [← e]; exact c83)))
            · obtain ⟨p, hp, rfl⟩ := nI_of c83
              have hp31 : p < 2 ^ 31 := hp
              refine s_iload_n (pc' := 87) dX12_row_86 rfl rfl ?_
              refine s_i2l (pc' := 88) dX12_row_87 rfl ?_
              refine s_ldc2 (pc' := 91) dX12_row_88 rfl kl_X12_298 ?_
              refine s_ladd (pc' := 92) dX12_row_91 rfl ?_
              refine s_aload_n (pc' := 93) dX12_row_92 rfl rfl ?_
              refine s_getS (pc' := 96) (b := 92) dX12_row_93 rfl (by decide) rfl (by decide) fa_X12_123_12 rfl rfl ?_
              refine s_iload_n (pc' := 97) dX12_row_96 rfl rfl ?_
              refine t_iald (pc' := 98) (q := s) dX12_row_97 rfl sh_92 rfl hs ?_
              refine s_i2l (pc' := 99) dX12_row_98 rfl ?_
              refine s_lcmp (pc' := 100) dX12_row_99 rfl ?_
              refine s_ifle (pc' := 103) (tgt := 110) dX12_row_100 (by decide) rfl (fun c100 => ?_) (fun c100 => ?_)
              · have hp3 : p + 3 ≤ z := by rw [lg_cmp_le, hz2] at c100; exact (i3l hp31 hz1).mp c100
                refine s_bipush (pc' := 112) (v := 40) dX12_row_110 rfl (by decide) ?_
                refine s_iload_n (pc' := 113) dX12_row_112 rfl rfl ?_
                refine s_imul (pc' := 114) dX12_row_113 rfl ?_
                refine s_iload_n (pc' := 115) dX12_row_114 rfl rfl ?_
                refine s_iadd (pc' := 116) dX12_row_115 rfl ?_
                refine t_istore (pc' := 118) (L' := [.ref 54, .int _, .int _, .int _, .int _]) dX12_row_116 rfl (Nat.le_of_ble_eq_true rfl) rfl ?_
                refine s_aload_n (pc' := 119) dX12_row_118 rfl rfl ?_
                refine s_aload_n (pc' := 120) dX12_row_119 rfl rfl ?_
                refine s_getS (pc' := 123) (b := 93) dX12_row_120 rfl (by decide) rfl (by decide) fa_X12_126_12 rfl rfl ?_
                refine s_iload (pc' := 125) dX12_row_123 rfl rfl ?_
                refine t_iald (pc' := 126) (q := 40 * s + p) dX12_row_125 rfl sh_93 (by rw [ix40]) (by omega) ?_
                refine s_callV (pc' := 129) (As := [.int _]) dX12_row_126 rfl mk_X12_isValue ml_X12_170 im_X12_isValue se_X12_X12_X12_isValue sh_54 (by decide) rfl rfl rfl ⟨Nat.le_of_ble_eq_true rfl, Nat.le_of_ble_eq_true rfl, Nat.le_of_ble_eq_true rfl, Nat.le_of_ble_eq_true rfl⟩ (Nat.le_of_ble_eq_true rfl) (c_X12_isValue (hW.vn hD) (by have := hW.nv; omega) (fun j126 hj126 e126 => ?_) (fun n126 => ?_))
                · refine s_ifeqF (pc' := 132) (tgt := 174) dX12_row_129 (by decide) rfl (by decide) ?_
                  refine s_aload_n (pc' := 133) dX12_row_132 rfl rfl ?_
                  refine s_getS (pc' := 136) (b := 93) dX12_row_133 rfl (by decide) rfl (by decide) fa_X12_126_12 rfl rfl ?_
                  refine s_iload (pc' := 138) dX12_row_136 rfl rfl ?_
                  refine s_iconst (pc' := 139) (v := 1) dX12_row_138 rfl (by decide) ?_
                  refine s_iadd (pc' := 140) dX12_row_139 rfl ?_
                  refine t_iald (pc' := 141) (q := 40 * s + p + 1) dX12_row_140 rfl sh_93 (by rw [ix40]; exact nI_add _ 1) (by omega) ?_
                  refine s_i2l (pc' := 142) dX12_row_141 rfl ?_
                  refine s_ldc2 (pc' := 145) dX12_row_142 rfl kl_X12_173 ?_
                  refine s_ldc2 (pc' := 148) dX12_row_145 rfl kl_X12_175 ?_
                  refine s_callS (pc' := 151) (As := [.long _, .long _, .long _]) dX12_row_148 rfl mk_X12_isIn ml_X12_135 sm_X12_isIn rfl rfl ⟨Nat.le_of_ble_eq_true rfl, Nat.le_of_ble_eq_true rfl, Nat.le_of_ble_eq_true rfl, Nat.le_of_ble_eq_true rfl⟩ (Nat.le_of_ble_eq_true rfl) (c_isInR (a' := -1000) (b' := 1000) rfl rfl (fun i148 => ?_) (fun i148 => ?_))
                  · refine s_ifeqF (pc' := 154) (tgt := 174) dX12_row_151 (by decide) rfl (by decide) ?_
                    refine s_aload_n (pc' := 155) dX12_row_154 rfl rfl ?_
                    refine s_getS (pc' := 158) (b := 93) dX12_row_155 rfl (by decide) rfl (by decide) fa_X12_126_12 rfl rfl ?_
                    refine s_iload (pc' := 160) dX12_row_158 rfl rfl ?_
                    refine s_iconst (pc' := 161) (v := 2) dX12_row_160 rfl (by decide) ?_
                    refine s_iadd (pc' := 162) dX12_row_161 rfl ?_
                    refine t_iald (pc' := 163) (q := 40 * s + p + 2) dX12_row_162 rfl sh_93 (by rw [ix40]; exact nI_add _ 2) (by omega) ?_
                    refine s_i2l (pc' := 164) dX12_row_163 rfl ?_
                    refine s_lconst (pc' := 165) (v := 0) dX12_row_164 rfl (by decide) ?_
                    refine s_ldc2 (pc' := 168) dX12_row_165 rfl kl_X12_188 ?_
                    refine s_callS (pc' := 171) (As := [.long _, .long _, .long _]) dX12_row_168 rfl mk_X12_isIn ml_X12_135 sm_X12_isIn rfl rfl ⟨Nat.le_of_ble_eq_true rfl, Nat.le_of_ble_eq_true rfl, Nat.le_of_ble_eq_true rfl, Nat.le_of_ble_eq_true rfl⟩ (Nat.le_of_ble_eq_true rfl) (c_isInR (a' := 0) (b' := 20) rfl rfl (fun i168 => ?_) (fun i168 => ?_))
                    · refine s_ifneT (tgt := 180) dX12_row_171 (by decide) (by decide) ?_
                      obtain ⟨so0, q1, q2, q3⟩ := m16n i168
                      have g0 : RGO nv nr (I 54 25) 0 (I 93 (40 * s + p)) (16 * I 93 (40 * s + p + 2)) (I 93 (40 * s + p + 1)) (-1) j126 0 so0 (I 93 (40 * s + p + 1)) (-1) 0 := ⟨e126, by have := hW.nv; omega, fun _ => hj126, fun z => absurd z (by decide), fun z => absurd z (by decide), Nat.zero_le _, q1, q3, fun _ => ⟨rfl, i148, Or.inl ⟨rfl, rfl, rfl⟩⟩, fun z => absurd z (by decide)⟩
                      refine s_aload_n (pc' := 181) dX12_row_180 rfl rfl ?_
                      refine s_iconst (pc' := 182) (v := 0) dX12_row_181 rfl (by decide) ?_
                      refine s_aload_n (pc' := 183) dX12_row_182 rfl rfl ?_
                      refine s_getS (pc' := 186) (b := 93) dX12_row_183 rfl (by decide) rfl (by decide) fa_X12_126_12 rfl rfl ?_
                      refine s_iload (pc' := 188) dX12_row_186 rfl rfl ?_
                      refine t_iald (pc' := 189) (q := 40 * s + p) dX12_row_188 rfl sh_93 (by rw [ix40]) (by omega) ?_
                      refine s_bipush (pc' := 191) (v := 16) dX12_row_189 rfl (by decide) ?_
                      refine s_aload_n (pc' := 192) dX12_row_191 rfl rfl ?_
                      refine s_getS (pc' := 195) (b := 93) dX12_row_192 rfl (by decide) rfl (by decide) fa_X12_126_12 rfl rfl ?_
                      refine s_iload (pc' := 197) dX12_row_195 rfl rfl ?_
                      refine s_iconst (pc' := 198) (v := 2) dX12_row_197 rfl (by decide) ?_
                      refine s_iadd (pc' := 199) dX12_row_198 rfl ?_
                      refine t_iald (pc' := 200) (q := 40 * s + p + 2) dX12_row_199 rfl sh_93 (by rw [ix40]; exact nI_add _ 2) (by omega) ?_
                      refine s_imul (pc' := 201) dX12_row_200 rfl ?_
                      refine s_aload_n (pc' := 202) dX12_row_201 rfl rfl ?_
                      refine s_getS (pc' := 205) (b := 93) dX12_row_202 rfl (by decide) rfl (by decide) fa_X12_126_12 rfl rfl ?_
                      refine s_iload (pc' := 207) dX12_row_205 rfl rfl ?_
                      refine s_iconst (pc' := 208) (v := 1) dX12_row_207 rfl (by decide) ?_
                      refine s_iadd (pc' := 209) dX12_row_208 rfl ?_
                      refine t_iald (pc' := 210) (q := 40 * s + p + 1) dX12_row_209 rfl sh_93 (by rw [ix40]; exact nI_add _ 1) (by omega) ?_
                      refine s_iconst (pc' := 211) (v := -1) dX12_row_210 rfl (by decide) ?_
                      refine s_iconst (pc' := 212) (v := 0) dX12_row_211 rfl (by decide) ?_
                      refine s_iconst (pc' := 213) (v := 0) dX12_row_212 rfl (by decide) ?_
                      refine s_callV (pc' := 216) (As := [.int _, .int _, .int _, .int _, .int _, .int _, .int _]) dX12_row_213 rfl mk_X12_adds ml_X12_182 im_X12_adds se_X12_X12_X12_adds sh_54 (by decide) rfl rfl rfl ⟨Nat.le_of_ble_eq_true rfl, Nat.le_of_ble_eq_true rfl, Nat.le_of_ble_eq_true rfl, Nat.le_of_ble_eq_true rfl⟩ (Nat.le_of_ble_eq_true rfl) (c_X12_adds (kn := 0) hD hW hR (by decide) (fun z0 => ?_) (fun a ra so am b fa g hr => ?_) (fun a ra so am b fa g hr hv m r hm hrg I1 hri => ?_) (fun a ra so am b fa g hr hv I1 f1 => ?_))
                      · exact s_iret dX12_row_216 rfl (by decide) (by decide) (absurd g0 (z0 _ _ _ _ _ _))
                      · exact s_iret dX12_row_216 rfl (by decide) (by decide) (absurd hr (by omega))
                      · exact s_iret dX12_row_216 rfl (by decide) (by decide) (k7 s hs rfl i18 n30 c53 (by first | exact c72 | exact Decidable.not_not.mp c72) z hz1 hz2 p hp3 rfl a ra so am b fa g m r hm hrg I1 hri)
                      · exact s_iret dX12_row_216 rfl (by decide) (by decide) (k8 s hs rfl i18 n30 c53 (by first | exact c72 | exact Decidable.not_not.mp c72) z hz1 hz2 p hp3 rfl a ra so am b fa g (hv (by decide)) I1 f1)
                    · refine s_ifneF (pc' := 174) (tgt := 180) dX12_row_171 (by decide) rfl (by decide) ?_
                      refine s_aload_n (pc' := 175) dX12_row_174 rfl rfl ?_
                      refine s_iconst (pc' := 176) (v := 3) dX12_row_175 rfl (by decide) ?_
                      refine s_callV (pc' := 179) (As := [.int _]) dX12_row_176 rfl mk_X12_refused ml_X12_149 im_X12_refused se_X12_X12_X12_refused sh_54 (by decide) rfl rfl rfl ⟨Nat.le_of_ble_eq_true rfl, Nat.le_of_ble_eq_true rfl, Nat.le_of_ble_eq_true rfl, Nat.le_of_ble_eq_true rfl⟩ (Nat.le_of_ble_eq_true rfl) (c_X12_refused ?_)
                      exact s_iret dX12_row_179 rfl (by decide) (by decide) (k6 s hs rfl i18 n30 c53 (by first | exact c72 | exact Decidable.not_not.mp c72) z hz1 hz2 p hp3 rfl (fun a ra so am b fa g => i168 (by have q := m16 (hC s hs (p + 2) (by omega)) g.2.2.2.2.2.2.2.1 (by have := g.2.2.2.2.2.1; have := g.2.2.2.2.2.2.1; omega); have := g.2.2.2.2.2.1; have := g.2.2.2.2.2.2.1; have e0 : (I 93 (40 * s + p + 2)) = I 93 (40 * s + (p + 2)) := rfl; unfold inR; rw [e0]; omega)))
                  · refine s_ifeqT (tgt := 174) dX12_row_151 (by decide) (by decide) ?_
                    refine s_aload_n (pc' := 175) dX12_row_174 rfl rfl ?_
                    refine s_iconst (pc' := 176) (v := 3) dX12_row_175 rfl (by decide) ?_
                    refine s_callV (pc' := 179) (As := [.int _]) dX12_row_176 rfl mk_X12_refused ml_X12_149 im_X12_refused se_X12_X12_X12_refused sh_54 (by decide) rfl rfl rfl ⟨Nat.le_of_ble_eq_true rfl, Nat.le_of_ble_eq_true rfl, Nat.le_of_ble_eq_true rfl, Nat.le_of_ble_eq_true rfl⟩ (Nat.le_of_ble_eq_true rfl) (c_X12_refused ?_)
                    exact s_iret dX12_row_179 rfl (by decide) (by decide) (k6 s hs rfl i18 n30 c53 (by first | exact c72 | exact Decidable.not_not.mp c72) z hz1 hz2 p hp3 rfl (fun a ra so am b fa g => i148 (hC s hs (p + 1) (by omega))))
                · refine s_ifeqT (tgt := 174) dX12_row_129 (by decide) (by decide) ?_
                  refine s_aload_n (pc' := 175) dX12_row_174 rfl rfl ?_
                  refine s_iconst (pc' := 176) (v := 3) dX12_row_175 rfl (by decide) ?_
                  refine s_callV (pc' := 179) (As := [.int _]) dX12_row_176 rfl mk_X12_refused ml_X12_149 im_X12_refused se_X12_X12_X12_refused sh_54 (by decide) rfl rfl rfl ⟨Nat.le_of_ble_eq_true rfl, Nat.le_of_ble_eq_true rfl, Nat.le_of_ble_eq_true rfl, Nat.le_of_ble_eq_true rfl⟩ (Nat.le_of_ble_eq_true rfl) (c_X12_refused ?_)
                  exact s_iret dX12_row_179 rfl (by decide) (by decide) (k6 s hs rfl i18 n30 c53 (by first | exact c72 | exact Decidable.not_not.mp c72) z hz1 hz2 p hp3 rfl (fun a ra so am b fa g => n126 a (g.2.2.1 (by decide)) g.1))
              · refine s_aload_n (pc' := 104) dX12_row_103 rfl rfl ?_
                refine s_bipush (pc' := 106) (v := 12) dX12_row_104 rfl (by decide) ?_
                refine s_callV (pc' := 109) (As := [.int _]) dX12_row_106 rfl mk_X12_refused ml_X12_149 im_X12_refused se_X12_X12_X12_refused sh_54 (by decide) rfl rfl rfl ⟨Nat.le_of_ble_eq_true rfl, Nat.le_of_ble_eq_true rfl, Nat.le_of_ble_eq_true rfl, Nat.le_of_ble_eq_true rfl⟩ (Nat.le_of_ble_eq_true rfl) (c_X12_refused ?_)
                exact s_iret dX12_row_109 rfl (by decide) (by decide) (k5 s hs rfl i18 n30 c53 (by first | exact c72 | exact Decidable.not_not.mp c72) z hz1 hz2 (fun p2 hp2 e2 => by obtain rfl := (nI_eq hp31 (by omega)).mp e2; exact c100 (by rw [lg_cmp_le, hz2]; exact (i3l hp31 hz1).mpr hp2)))
          · refine s_aload_n (pc' := 76) dX12_row_75 rfl rfl ?_
            refine s_bipush (pc' := 78) (v := 11) dX12_row_76 rfl (by decide) ?_
            refine s_callV (pc' := 81) (As := [.int _]) dX12_row_78 rfl mk_X12_refused ml_X12_149 im_X12_refused se_X12_X12_X12_refused sh_54 (by decide) rfl rfl rfl ⟨Nat.le_of_ble_eq_true rfl, Nat.le_of_ble_eq_true rfl, Nat.le_of_ble_eq_true rfl, Nat.le_of_ble_eq_true rfl⟩ (Nat.le_of_ble_eq_true rfl) (c_X12_refused ?_)
            exact s_iret dX12_row_81 rfl (by decide) (by decide) (k4 s hs rfl i18 n30 c53 c72)
        · refine s_aload_n (pc' := 57) dX12_row_56 rfl rfl ?_
          refine s_bipush (pc' := 59) (v := 10) dX12_row_57 rfl (by decide) ?_
          refine s_callV (pc' := 62) (As := [.int _]) dX12_row_59 rfl mk_X12_refused ml_X12_149 im_X12_refused se_X12_X12_X12_refused sh_54 (by decide) rfl rfl rfl ⟨Nat.le_of_ble_eq_true rfl, Nat.le_of_ble_eq_true rfl, Nat.le_of_ble_eq_true rfl, Nat.le_of_ble_eq_true rfl⟩ (Nat.le_of_ble_eq_true rfl) (c_X12_refused ?_)
          exact s_iret dX12_row_62 rfl (by decide) (by decide) (k3 s hs rfl i18 n30 (by first | exact c53 | exact Decidable.not_not.mp c53))
      · refine s_aload_n (pc' := 42) dX12_row_41 rfl rfl ?_
        refine s_iconst (pc' := 43) (v := 2) dX12_row_42 rfl (by decide) ?_
        refine s_callV (pc' := 46) (As := [.int _]) dX12_row_43 rfl mk_X12_refused ml_X12_149 im_X12_refused se_X12_X12_X12_refused sh_54 (by decide) rfl rfl rfl ⟨Nat.le_of_ble_eq_true rfl, Nat.le_of_ble_eq_true rfl, Nat.le_of_ble_eq_true rfl, Nat.le_of_ble_eq_true rfl⟩ (Nat.le_of_ble_eq_true rfl) (c_X12_refused ?_)
        exact s_iret dX12_row_46 rfl (by decide) (by decide) (k2 s hs rfl i18 (ixe (b := 30) ((hW.rn hD).symm.trans (by first | exact c38 | exact Decidable.not_not.mp c38)) (by have := hW.nr; omega) (by decide)))
    · refine s_ifneF (pc' := 24) (tgt := 30) dX12_row_21 (by decide) rfl (by decide) ?_
      refine s_aload_n (pc' := 25) dX12_row_24 rfl rfl ?_
      refine s_iconst (pc' := 26) (v := 1) dX12_row_25 rfl (by decide) ?_
      refine s_callV (pc' := 29) (As := [.int _]) dX12_row_26 rfl mk_X12_refused ml_X12_149 im_X12_refused se_X12_X12_X12_refused sh_54 (by decide) rfl rfl rfl ⟨Nat.le_of_ble_eq_true rfl, Nat.le_of_ble_eq_true rfl, Nat.le_of_ble_eq_true rfl, Nat.le_of_ble_eq_true rfl⟩ (Nat.le_of_ble_eq_true rfl) (c_X12_refused ?_)
      exact s_iret dX12_row_29 rfl (by decide) (by decide) (k1 (Or.inr i18))
  · refine s_ifeqT (tgt := 24) dX12_row_9 (by decide) (by decide) ?_
    refine s_aload_n (pc' := 25) dX12_row_24 rfl rfl ?_
    refine s_iconst (pc' := 26) (v := 1) dX12_row_25 rfl (by decide) ?_
    refine s_callV (pc' := 29) (As := [.int _]) dX12_row_26 rfl mk_X12_refused ml_X12_149 im_X12_refused se_X12_X12_X12_refused sh_54 (by decide) rfl rfl rfl ⟨Nat.le_of_ble_eq_true rfl, Nat.le_of_ble_eq_true rfl, Nat.le_of_ble_eq_true rfl, Nat.le_of_ble_eq_true rfl⟩ (Nat.le_of_ble_eq_true rfl) (c_X12_refused ?_)
    exact s_iret dX12_row_29 rfl (by decide) (by decide) (k1 (Or.inl (fun s hs e => i6 (by rw [e]; exact nI_ir (c := 0) (d := 3) (by omega) (by omega) (by decide)))))
