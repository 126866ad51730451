set_option maxHeartbeats 200000 in
theorem c_X12_forge {N : Nat} {S : Nat → Nat × Nat} {I : Nat → Nat → Int32} {J : Nat → Nat → Int64} {Q : Nat → Nat → Option Nat} {κ : Option Value → HP → Prop} {D : Nat → Nat → Int32} {nv nr ns : Nat} (M : MOD I J D nv nr ns) {wh n x : Int32} {sz : Nat → Nat} (hS : ∀ s, s < 4 → I 92 s = nI (sz s) ∧ sz s ≤ 40) (k1 : (¬ inR wh 0 6 ∨ ¬ inR n (-100) 100 ∨ ¬ inR x (-100) 100) → κ (some (.int (-1))) (N, S, up2 I 54 24 1, J, Q)) (k2 : ∀ w, w ≤ 6 → wh = nI w → inR n (-100) 100 → inR x (-100) 100 → κ (some (.int (fgR D (I 91) (I 93) nr sz w n x).1)) (N, S, (up2 I 54 24 (fgR D (I 91) (I 93) nr sz w n x).2), J, Q)) : CT E1 M_X12_forge [.ref 54, .int wh, .int n, .int x] (N, S, I, J, Q) κ := by
  refine ofSP mk_X12_forge (Nat.le_of_ble_eq_true rfl) (L := [.ref 54, .int _, .int _, .int _, .retAddr _, .retAddr _, .retAddr _, .retAddr _]) rfl ?_
  refine s_iload_n (pc' := 1) dX12_forge_0 rfl rfl ?_
  refine s_i2l (pc' := 2) dX12_forge_1 rfl ?_
  refine s_lconst (pc' := 3) (v := 0) dX12_forge_2 rfl (by decide) ?_
  refine s_ldc2 (pc' := 6) dX12_forge_3 rfl kl_X12_343 ?_
  refine s_callS (pc' := 9) (As := [.long _, .long _, .long _]) dX12_forge_6 rfl mk_X12_isIn ml_X12_135 sm_X12_isIn rfl rfl ⟨Nat.le_of_ble_eq_true rfl, Nat.le_of_ble_eq_true rfl, Nat.le_of_ble_eq_true rfl, Nat.le_of_ble_eq_true rfl⟩ (Nat.le_of_ble_eq_true rfl) (c_isInR (a' := 0) (b' := 6) rfl rfl (fun i6 => ?_) (fun i6 => ?_))
  · refine s_ifeqF (pc' := 12) (tgt := 40) dX12_forge_9 (by decide) rfl (by decide) ?_
    refine s_iload_n (pc' := 13) dX12_forge_12 rfl rfl ?_
    refine s_i2l (pc' := 14) dX12_forge_13 rfl ?_
    refine s_ldc2 (pc' := 17) dX12_forge_14 rfl kl_X12_345 ?_
    refine s_ldc2 (pc' := 20) dX12_forge_17 rfl kl_X12_347 ?_
    refine s_callS (pc' := 23) (As := [.long _, .long _, .long _]) dX12_forge_20 rfl mk_X12_isIn ml_X12_135 sm_X12_isIn rfl rfl ⟨Nat.le_of_ble_eq_true rfl, Nat.le_of_ble_eq_true rfl, Nat.le_of_ble_eq_true rfl, Nat.le_of_ble_eq_true rfl⟩ (Nat.le_of_ble_eq_true rfl) (c_isInR (a' := -100) (b' := 100) rfl rfl (fun i20 => ?_) (fun i20 => ?_))
    · refine s_ifeqF (pc' := 26) (tgt := 40) dX12_forge_23 (by decide) rfl (by decide) ?_
      refine s_iload_n (pc' := 27) dX12_forge_26 rfl rfl ?_
      refine s_i2l (pc' := 28) dX12_forge_27 rfl ?_
      refine s_ldc2 (pc' := 31) dX12_forge_28 rfl kl_X12_345 ?_
      refine s_ldc2 (pc' := 34) dX12_forge_31 rfl kl_X12_347 ?_
      refine s_callS (pc' := 37) (As := [.long _, .long _, .long _]) dX12_forge_34 rfl mk_X12_isIn ml_X12_135 sm_X12_isIn rfl rfl ⟨Nat.le_of_ble_eq_true rfl, Nat.le_of_ble_eq_true rfl, Nat.le_of_ble_eq_true rfl, Nat.le_of_ble_eq_true rfl⟩ (Nat.le_of_ble_eq_true rfl) (c_isInR (a' := -100) (b' := 100) rfl rfl (fun i34 => ?_) (fun i34 => ?_))
      · refine s_ifneT (tgt := 46) dX12_forge_37 (by decide) (by decide) ?_
        refine s_iload_n (pc' := 47) dX12_forge_46 rfl rfl ?_
        refine s_bipush (pc' := 49) (v := 30) dX12_forge_47 rfl (by decide) ?_
        refine s_callS (pc' := 52) (As := [.int _, .int _]) dX12_forge_49 rfl mk_X12_modulo ml_X12_349 sm_X12_modulo rfl rfl ⟨Nat.le_of_ble_eq_true rfl, Nat.le_of_ble_eq_true rfl, Nat.le_of_ble_eq_true rfl, Nat.le_of_ble_eq_true rfl⟩ (Nat.le_of_ble_eq_true rfl) (c_X12_modulo (by decide) ?_)
        rw [(mdM_in i34).1]
        refine t_istore (pc' := 54) (L' := [.ref 54, .int _, .int _, .int _, .int _, .retAddr _, .retAddr _, .retAddr _]) dX12_forge_52 rfl (Nat.le_of_ble_eq_true rfl) rfl ?_
        refine s_iload_n (pc' := 55) dX12_forge_54 rfl rfl ?_
        refine s_iconst (pc' := 56) (v := 4) dX12_forge_55 rfl (by decide) ?_
        refine s_callS (pc' := 59) (As := [.int _, .int _]) dX12_forge_56 rfl mk_X12_modulo ml_X12_349 sm_X12_modulo rfl rfl ⟨Nat.le_of_ble_eq_true rfl, Nat.le_of_ble_eq_true rfl, Nat.le_of_ble_eq_true rfl, Nat.le_of_ble_eq_true rfl⟩ (Nat.le_of_ble_eq_true rfl) (c_X12_modulo (by decide) ?_)
        rw [(mdM_in i34).2.1]
        refine t_istore (pc' := 61) (L' := [.ref 54, .int _, .int _, .int _, .int _, .int _, .retAddr _, .retAddr _]) dX12_forge_59 rfl (Nat.le_of_ble_eq_true rfl) rfl ?_
        refine s_iload_n (pc' := 62) dX12_forge_61 rfl rfl ?_
        obtain ⟨kw, hkw, ekw⟩ := in_n (show inR wh 0 (6 : Nat) from i6)
        rcases (show kw = 0 ∨ kw = 1 ∨ kw = 2 ∨ kw = 3 ∨ kw = 4 ∨ kw = 5 ∨ kw = 6 by omega) with e6 | e6 | e6 | e6 | e6 | e6 | e6
        · rw [e6] at ekw
          refine s_tabIn (tgt := 100) (off := 38) dX12_forge_62 (by rw [ekw]; decide) (by rw [ekw]; decide) (by rw [ekw]; rfl) (by decide) ?_
          refine s_iload_n (pc' := 101) dX12_forge_100 rfl rfl ?_
          refine s_bipush (pc' := 103) (v := 7) dX12_forge_101 rfl (by decide) ?_
          refine s_callS (pc' := 106) (As := [.int _, .int _]) dX12_forge_103 rfl mk_X12_modulo ml_X12_349 sm_X12_modulo rfl rfl ⟨Nat.le_of_ble_eq_true rfl, Nat.le_of_ble_eq_true rfl, Nat.le_of_ble_eq_true rfl, Nat.le_of_ble_eq_true rfl⟩ (Nat.le_of_ble_eq_true rfl) (c_X12_modulo (by decide) ?_)
          rw [(mdM_in i20).2.2.1]
          refine t_istore (pc' := 108) (L' := [.ref 54, .int _, .int _, .int _, .int _, .int _, .int _, .retAddr _]) dX12_forge_106 rfl (Nat.le_of_ble_eq_true rfl) rfl ?_
          refine s_aload_n (pc' := 109) dX12_forge_108 rfl rfl ?_
          refine s_iload (pc' := 111) dX12_forge_109 rfl rfl ?_
          refine s_callV (pc' := 114) (As := [.int _]) dX12_forge_111 rfl mk_X12_isRule ml_X12_190 im_X12_isRule se_X12_X12_X12_isRule sh_54 (by decide) rfl rfl rfl ⟨Nat.le_of_ble_eq_true rfl, Nat.le_of_ble_eq_true rfl, Nat.le_of_ble_eq_true rfl, Nat.le_of_ble_eq_true rfl⟩ (Nat.le_of_ble_eq_true rfl) (c_X12_isRule (M.2.1.rn M.1) (by have := M.2.1.nr; omega) (fun j111 hj111 e111 => ?_) (fun n111 => ?_))
          · refine s_ifneT (tgt := 124) dX12_forge_114 (by decide) (by decide) ?_
            refine s_iload (pc' := 126) dX12_forge_124 rfl rfl ?_
            refine s_ifeq (pc' := 129) (tgt := 159) dX12_forge_126 (by decide) rfl (fun c126 => ?_) (fun c126 => ?_)
            · refine s_iconst (pc' := 160) (v := 1) dX12_forge_159 rfl (by decide) ?_
              refine s_goto (tgt := 164) dX12_forge_160 (by decide) ?_
              refine t_istore (pc' := 166) (L' := [.ref 54, .int _, .int _, .int _, .int _, .int _, .int _, .int _]) dX12_forge_164 rfl (Nat.le_of_ble_eq_true rfl) rfl ?_
              refine s_iload (pc' := 168) dX12_forge_166 rfl rfl ?_
              refine s_ifeqF (pc' := 171) (tgt := 185) dX12_forge_168 (by decide) rfl (by decide) ?_
              refine s_aload_n (pc' := 172) dX12_forge_171 rfl rfl ?_
              refine s_aload_n (pc' := 173) dX12_forge_172 rfl rfl ?_
              refine s_getS (pc' := 176) (b := 60) dX12_forge_173 rfl (by decide) rfl (by decide) fa_X12_25_12 rfl rfl ?_
              refine s_iload (pc' := 178) dX12_forge_176 rfl rfl ?_
              refine t_iald (pc' := 179) dX12_forge_178 rfl sh_60 rfl (by have := mdl_lt (x := x) (m := 30) (by decide); omega) ?_
              refine s_callV (pc' := 182) (As := [.int _]) dX12_forge_179 rfl mk_X12_done ml_X12_157 im_X12_done se_X12_X12_X12_done sh_54 (by decide) rfl rfl rfl ⟨Nat.le_of_ble_eq_true rfl, Nat.le_of_ble_eq_true rfl, Nat.le_of_ble_eq_true rfl, Nat.le_of_ble_eq_true rfl⟩ (Nat.le_of_ble_eq_true rfl) (c_X12_done ?_)
              refine s_goto (tgt := 191) dX12_forge_182 (by decide) ?_
              exact s_iret dX12_forge_191 rfl (by decide) (by decide) (by
    have hl : mdl x 30 < nr := by rw [(nI_eq (by have := mdl_lt (x := x) (m := 30) (by decide); omega) (by have := M.2.1.nr; omega)).mp e111]; exact hj111
    have h7 := mdl_lt (x := n) (m := 7) (by decide)
    have h0 : mdl n 7 = 0 := (nI_eq (by omega) (by decide)).mp (show nI (mdl n 7) = nI 0 from c126)
    have q := k2 0 (by decide) ekw i20 i34
    unfold fgR at q
    rw [if_pos rfl, if_pos hl, if_pos (Or.inl h0), ← M.1 60 (by decide) (by decide)] at q
    exact q)
            · refine s_aload_n (pc' := 130) dX12_forge_129 rfl rfl ?_
              refine s_getS (pc' := 133) (b := 60) dX12_forge_130 rfl (by decide) rfl (by decide) fa_X12_25_12 rfl rfl ?_
              refine s_iload (pc' := 135) dX12_forge_133 rfl rfl ?_
              refine t_iald (pc' := 136) dX12_forge_135 rfl sh_60 rfl (by have := mdl_lt (x := x) (m := 30) (by decide); omega) ?_
              refine s_iload (pc' := 138) dX12_forge_136 rfl rfl ?_
              refine s_icmpeq (pc' := 141) (tgt := 159) dX12_forge_138 (by decide) rfl (fun c138 => ?_) (fun c138 => ?_)
              · refine s_iconst (pc' := 160) (v := 1) dX12_forge_159 rfl (by decide) ?_
                refine s_goto (tgt := 164) dX12_forge_160 (by decide) ?_
                refine t_istore (pc' := 166) (L' := [.ref 54, .int _, .int _, .int _, .int _, .int _, .int _, .int _]) dX12_forge_164 rfl (Nat.le_of_ble_eq_true rfl) rfl ?_
                refine s_iload (pc' := 168) dX12_forge_166 rfl rfl ?_
                refine s_ifeqF (pc' := 171) (tgt := 185) dX12_forge_168 (by decide) rfl (by decide) ?_
                refine s_aload_n (pc' := 172) dX12_forge_171 rfl rfl ?_
                refine s_aload_n (pc' := 173) dX12_forge_172 rfl rfl ?_
                refine s_getS (pc' := 176) (b := 60) dX12_forge_173 rfl (by decide) rfl (by decide) fa_X12_25_12 rfl rfl ?_
                refine s_iload (pc' := 178) dX12_forge_176 rfl rfl ?_
                refine t_iald (pc' := 179) dX12_forge_178 rfl sh_60 rfl (by have := mdl_lt (x := x) (m := 30) (by decide); omega) ?_
                refine s_callV (pc' := 182) (As := [.int _]) dX12_forge_179 rfl mk_X12_done ml_X12_157 im_X12_done se_X12_X12_X12_done sh_54 (by decide) rfl rfl rfl ⟨Nat.le_of_ble_eq_true rfl, Nat.le_of_ble_eq_true rfl, Nat.le_of_ble_eq_true rfl, Nat.le_of_ble_eq_true rfl⟩ (Nat.le_of_ble_eq_true rfl) (c_X12_done ?_)
                refine s_goto (tgt := 191) dX12_forge_182 (by decide) ?_
                exact s_iret dX12_forge_191 rfl (by decide) (by decide) (by
    have hl : mdl x 30 < nr := by rw [(nI_eq (by have := mdl_lt (x := x) (m := 30) (by decide); omega) (by have := M.2.1.nr; omega)).mp e111]; exact hj111
    have h0 : D 60 (mdl x 30) = nI (mdl n 7) := by rw [← M.1 60 (by decide) (by decide)]; exact c138
    have q := k2 0 (by decide) ekw i20 i34
    unfold fgR at q
    rw [if_pos rfl, if_pos hl, if_pos (Or.inr (Or.inl h0)), ← M.1 60 (by decide) (by decide)] at q
    exact q)
              · refine s_iload (pc' := 143) dX12_forge_141 rfl rfl ?_
                refine s_iconst (pc' := 144) (v := 5) dX12_forge_143 rfl (by decide) ?_
                refine s_icmpne (pc' := 147) (tgt := 163) dX12_forge_144 (by decide) rfl (fun c144 => ?_) (fun c144 => ?_)
                · refine s_iconst (pc' := 164) (v := 0) dX12_forge_163 rfl (by decide) ?_
                  refine t_istore (pc' := 166) (L' := [.ref 54, .int _, .int _, .int _, .int _, .int _, .int _, .int _]) dX12_forge_164 rfl (Nat.le_of_ble_eq_true rfl) rfl ?_
                  refine s_iload (pc' := 168) dX12_forge_166 rfl rfl ?_
                  refine s_ifeqT (tgt := 185) dX12_forge_168 (by decide) (by decide) ?_
                  refine s_aload_n (pc' := 186) dX12_forge_185 rfl rfl ?_
                  refine s_bipush (pc' := 188) (v := 11) dX12_forge_186 rfl (by decide) ?_
                  refine s_callV (pc' := 191) (As := [.int _]) dX12_forge_188 rfl mk_X12_refused ml_X12_149 im_X12_refused se_X12_X12_X12_refused sh_54 (by decide) rfl rfl rfl ⟨Nat.le_of_ble_eq_true rfl, Nat.le_of_ble_eq_true rfl, Nat.le_of_ble_eq_true rfl, Nat.le_of_ble_eq_true rfl⟩ (Nat.le_of_ble_eq_true rfl) (c_X12_refused ?_)
                  exact s_iret dX12_forge_191 rfl (by decide) (by decide) (by
    have hl : mdl x 30 < nr := by rw [(nI_eq (by have := mdl_lt (x := x) (m := 30) (by decide); omega) (by have := M.2.1.nr; omega)).mp e111]; exact hj111
    have n0 : mdl n 7 ≠ 0 := fun z => c126 (by rw [z]; rfl)
    have n1 : D 60 (mdl x 30) ≠ nI (mdl n 7) := by rw [← M.1 60 (by decide) (by decide)]; exact c138
    have q := k2 0 (by decide) ekw i20 i34
    unfold fgR at q
    rw [if_pos rfl, if_pos hl, if_neg (by rintro (z | z | z); exact n0 z; exact n1 z; exact c144 (by rw [z.1]; rfl))] at q
    exact q)
                · refine s_aload_n (pc' := 148) dX12_forge_147 rfl rfl ?_
                  refine s_getS (pc' := 151) (b := 60) dX12_forge_148 rfl (by decide) rfl (by decide) fa_X12_25_12 rfl rfl ?_
                  refine s_iload (pc' := 153) dX12_forge_151 rfl rfl ?_
                  refine t_iald (pc' := 154) dX12_forge_153 rfl sh_60 rfl (by have := mdl_lt (x := x) (m := 30) (by decide); omega) ?_
                  refine s_bipush (pc' := 156) (v := 6) dX12_forge_154 rfl (by decide) ?_
                  refine s_icmpne (pc' := 159) (tgt := 163) dX12_forge_156 (by decide) rfl (fun c156 => ?_) (fun c156 => ?_)
                  · refine s_iconst (pc' := 164) (v := 0) dX12_forge_163 rfl (by decide) ?_
                    refine t_istore (pc' := 166) (L' := [.ref 54, .int _, .int _, .int _, .int _, .int _, .int _, .int _]) dX12_forge_164 rfl (Nat.le_of_ble_eq_true rfl) rfl ?_
                    refine s_iload (pc' := 168) dX12_forge_166 rfl rfl ?_
                    refine s_ifeqT (tgt := 185) dX12_forge_168 (by decide) (by decide) ?_
                    refine s_aload_n (pc' := 186) dX12_forge_185 rfl rfl ?_
                    refine s_bipush (pc' := 188) (v := 11) dX12_forge_186 rfl (by decide) ?_
                    refine s_callV (pc' := 191) (As := [.int _]) dX12_forge_188 rfl mk_X12_refused ml_X12_149 im_X12_refused se_X12_X12_X12_refused sh_54 (by decide) rfl rfl rfl ⟨Nat.le_of_ble_eq_true rfl, Nat.le_of_ble_eq_true rfl, Nat.le_of_ble_eq_true rfl, Nat.le_of_ble_eq_true rfl⟩ (Nat.le_of_ble_eq_true rfl) (c_X12_refused ?_)
                    exact s_iret dX12_forge_191 rfl (by decide) (by decide) (by
    have hl : mdl x 30 < nr := by rw [(nI_eq (by have := mdl_lt (x := x) (m := 30) (by decide); omega) (by have := M.2.1.nr; omega)).mp e111]; exact hj111
    have n0 : mdl n 7 ≠ 0 := fun z => c126 (by rw [z]; rfl)
    have n1 : D 60 (mdl x 30) ≠ nI (mdl n 7) := by rw [← M.1 60 (by decide) (by decide)]; exact c138
    have q := k2 0 (by decide) ekw i20 i34
    unfold fgR at q
    rw [if_pos rfl, if_pos hl, if_neg (by rintro (z | z | z); exact n0 z; exact n1 z; exact c156 (by rw [M.1 60 (by decide) (by decide)]; exact z.2))] at q
    exact q)
                  · refine s_iconst (pc' := 160) (v := 1) dX12_forge_159 rfl (by decide) ?_
                    refine s_goto (tgt := 164) dX12_forge_160 (by decide) ?_
                    refine t_istore (pc' := 166) (L' := [.ref 54, .int _, .int _, .int _, .int _, .int _, .int _, .int _]) dX12_forge_164 rfl (Nat.le_of_ble_eq_true rfl) rfl ?_
                    refine s_iload (pc' := 168) dX12_forge_166 rfl rfl ?_
                    refine s_ifeqF (pc' := 171) (tgt := 185) dX12_forge_168 (by decide) rfl (by decide) ?_
                    refine s_aload_n (pc' := 172) dX12_forge_171 rfl rfl ?_
                    refine s_aload_n (pc' := 173) dX12_forge_172 rfl rfl ?_
                    refine s_getS (pc' := 176) (b := 60) dX12_forge_173 rfl (by decide) rfl (by decide) fa_X12_25_12 rfl rfl ?_
                    refine s_iload (pc' := 178) dX12_forge_176 rfl rfl ?_
                    refine t_iald (pc' := 179) dX12_forge_178 rfl sh_60 rfl (by have := mdl_lt (x := x) (m := 30) (by decide); omega) ?_
                    refine s_callV (pc' := 182) (As := [.int _]) dX12_forge_179 rfl mk_X12_done ml_X12_157 im_X12_done se_X12_X12_X12_done sh_54 (by decide) rfl rfl rfl ⟨Nat.le_of_ble_eq_true rfl, Nat.le_of_ble_eq_true rfl, Nat.le_of_ble_eq_true rfl, Nat.le_of_ble_eq_true rfl⟩ (Nat.le_of_ble_eq_true rfl) (c_X12_done ?_)
                    refine s_goto (tgt := 191) dX12_forge_182 (by decide) ?_
                    exact s_iret dX12_forge_191 rfl (by decide) (by decide) (by
    have hl : mdl x 30 < nr := by rw [(nI_eq (by have := mdl_lt (x := x) (m := 30) (by decide); omega) (by have := M.2.1.nr; omega)).mp e111]; exact hj111
    have h7 := mdl_lt (x := n) (m := 7) (by decide)
    have h5 : mdl n 7 = 5 := (nI_eq (by omega) (by decide)).mp (show nI (mdl n 7) = (5 : Int32) by simpa using c144)
    have h6 : D 60 (mdl x 30) = 6 := by rw [← M.1 60 (by decide) (by decide)]; simpa using c156
    have q := k2 0 (by decide) ekw i20 i34
    unfold fgR at q
    rw [if_pos rfl, if_pos hl, if_pos (Or.inr (Or.inr ⟨h5, h6⟩)), ← M.1 60 (by decide) (by decide)] at q
    exact q)
          · refine s_ifneF (pc' := 117) (tgt := 124) dX12_forge_114 (by decide) rfl (by decide) ?_
            refine s_aload_n (pc' := 118) dX12_forge_117 rfl rfl ?_
            refine s_bipush (pc' := 120) (v := 10) dX12_forge_118 rfl (by decide) ?_
            refine s_callV (pc' := 123) (As := [.int _]) dX12_forge_120 rfl mk_X12_refused ml_X12_149 im_X12_refused se_X12_X12_X12_refused sh_54 (by decide) rfl rfl rfl ⟨Nat.le_of_ble_eq_true rfl, Nat.le_of_ble_eq_true rfl, Nat.le_of_ble_eq_true rfl, Nat.le_of_ble_eq_true rfl⟩ (Nat.le_of_ble_eq_true rfl) (c_X12_refused ?_)
            exact s_iret dX12_forge_123 rfl (by decide) (by decide) (by
    have q := k2 0 (by decide) ekw i20 i34
    unfold fgR at q
    rw [if_pos rfl, if_neg (fun z => n111 _ z rfl)] at q
    exact q)
        · rw [e6] at ekw
          refine s_tabIn (tgt := 192) (off := 130) dX12_forge_62 (by rw [ekw]; decide) (by rw [ekw]; decide) (by rw [ekw]; rfl) (by decide) ?_
          refine s_iload_n (pc' := 193) dX12_forge_192 rfl rfl ?_
          refine s_ifge (pc' := 196) (tgt := 205) dX12_forge_193 (by decide) rfl (fun c193 => ?_) (fun c193 => ?_)
          · refine s_aload_n (pc' := 206) dX12_forge_205 rfl rfl ?_
            refine s_iload_n (pc' := 207) dX12_forge_206 rfl rfl ?_
            refine s_callV (pc' := 210) (As := [.int _]) dX12_forge_207 rfl mk_X12_done ml_X12_157 im_X12_done se_X12_X12_X12_done sh_54 (by decide) rfl rfl rfl ⟨Nat.le_of_ble_eq_true rfl, Nat.le_of_ble_eq_true rfl, Nat.le_of_ble_eq_true rfl, Nat.le_of_ble_eq_true rfl⟩ (Nat.le_of_ble_eq_true rfl) (c_X12_done ?_)
            exact s_iret dX12_forge_210 rfl (by decide) (by decide) (by
    have q := k2 1 (by decide) ekw i20 i34
    unfold fgR at q
    rw [if_neg (by decide), if_pos rfl, if_neg (Int32.not_lt.mpr c193)] at q
    exact q)
          · refine s_aload_n (pc' := 197) dX12_forge_196 rfl rfl ?_
            refine s_bipush (pc' := 199) (v := 13) dX12_forge_197 rfl (by decide) ?_
            refine s_callV (pc' := 202) (As := [.int _]) dX12_forge_199 rfl mk_X12_refused ml_X12_149 im_X12_refused se_X12_X12_X12_refused sh_54 (by decide) rfl rfl rfl ⟨Nat.le_of_ble_eq_true rfl, Nat.le_of_ble_eq_true rfl, Nat.le_of_ble_eq_true rfl, Nat.le_of_ble_eq_true rfl⟩ (Nat.le_of_ble_eq_true rfl) (c_X12_refused ?_)
            refine s_goto (tgt := 210) dX12_forge_202 (by decide) ?_
            exact s_iret dX12_forge_210 rfl (by decide) (by decide) (by
    have q := k2 1 (by decide) ekw i20 i34
    unfold fgR at q
    rw [if_neg (by decide), if_pos rfl, if_pos (Int32.not_le.mp c193)] at q
    exact q)
        · rw [e6] at ekw
          refine s_tabIn (tgt := 211) (off := 149) dX12_forge_62 (by rw [ekw]; decide) (by rw [ekw]; decide) (by rw [ekw]; rfl) (by decide) ?_
          have h4 := mdl_lt (x := x) (m := 4) (by decide)
          refine s_aload_n (pc' := 212) dX12_forge_211 rfl rfl ?_
          refine s_getS (pc' := 215) (b := 91) dX12_forge_212 rfl (by decide) rfl (by decide) fa_X12_120_12 rfl rfl ?_
          refine s_iload (pc' := 217) dX12_forge_215 rfl rfl ?_
          refine t_iald (pc' := 218) dX12_forge_217 rfl sh_91 rfl (by have := mdl_lt (x := x) (m := 4) (by decide); omega) ?_
          refine s_ifne (pc' := 221) (tgt := 228) dX12_forge_218 (by decide) rfl (fun c218 => ?_) (fun c218 => ?_)
          · refine s_aload_n (pc' := 229) dX12_forge_228 rfl rfl ?_
            refine s_getS (pc' := 232) (b := 91) dX12_forge_229 rfl (by decide) rfl (by decide) fa_X12_120_12 rfl rfl ?_
            refine s_iload (pc' := 234) dX12_forge_232 rfl rfl ?_
            refine t_iald (pc' := 235) dX12_forge_234 rfl sh_91 rfl (by have := mdl_lt (x := x) (m := 4) (by decide); omega) ?_
            refine s_iconst (pc' := 236) (v := 2) dX12_forge_235 rfl (by decide) ?_
            refine s_icmpeq (pc' := 239) (tgt := 246) dX12_forge_236 (by decide) rfl (fun c236 => ?_) (fun c236 => ?_)
            · refine s_iload_n (pc' := 247) dX12_forge_246 rfl rfl ?_
              refine s_i2l (pc' := 248) dX12_forge_247 rfl ?_
              refine s_lconst (pc' := 249) (v := 0) dX12_forge_248 rfl (by decide) ?_
              refine s_aload_n (pc' := 250) dX12_forge_249 rfl rfl ?_
              refine s_getS (pc' := 253) (b := 92) dX12_forge_250 rfl (by decide) rfl (by decide) fa_X12_123_12 rfl rfl ?_
              refine s_iload (pc' := 255) dX12_forge_253 rfl rfl ?_
              refine t_iald (pc' := 256) dX12_forge_255 rfl sh_92 rfl (by have := mdl_lt (x := x) (m := 4) (by decide); omega) ?_
              refine s_iconst (pc' := 257) (v := 1) dX12_forge_256 rfl (by decide) ?_
              refine s_isub (pc' := 258) dX12_forge_257 rfl ?_
              refine s_i2l (pc' := 259) dX12_forge_258 rfl ?_
              refine s_callS (pc' := 262) (As := [.long _, .long _, .long _]) dX12_forge_259 rfl mk_X12_isIn ml_X12_135 sm_X12_isIn rfl rfl ⟨Nat.le_of_ble_eq_true rfl, Nat.le_of_ble_eq_true rfl, Nat.le_of_ble_eq_true rfl, Nat.le_of_ble_eq_true rfl⟩ (Nat.le_of_ble_eq_true rfl) (c_isInR (a' := 0) (b' := (sz (mdl x 4) : Int) - 1) rfl (by rw [(hS _ h4).1]; exact nI_m1l (by have := (hS _ h4).2; omega)) (fun i259 => ?_) (fun i259 => ?_))
              · refine s_ifeqF (pc' := 265) (tgt := 284) dX12_forge_262 (by decide) rfl (by decide) ?_
                obtain ⟨j, hj, ej⟩ := inR_ix i259
                refine s_aload_n (pc' := 266) dX12_forge_265 rfl rfl ?_
                refine s_aload_n (pc' := 267) dX12_forge_266 rfl rfl ?_
                refine s_getS (pc' := 270) (b := 93) dX12_forge_267 rfl (by decide) rfl (by decide) fa_X12_126_12 rfl rfl ?_
                refine s_bipush (pc' := 272) (v := 40) dX12_forge_270 rfl (by decide) ?_
                refine s_iload (pc' := 274) dX12_forge_272 rfl rfl ?_
                refine s_imul (pc' := 275) dX12_forge_274 rfl ?_
                refine s_iload_n (pc' := 276) dX12_forge_275 rfl rfl ?_
                refine s_iadd (pc' := 277) dX12_forge_276 rfl ?_
                refine t_iald (pc' := 278) (q := 40 * mdl x 4 + j) dX12_forge_277 rfl sh_93 (by rw [ej]; exact ix40) (by have := (hS _ h4).2; omega) ?_
                refine s_callV (pc' := 281) (As := [.int _]) dX12_forge_278 rfl mk_X12_done ml_X12_157 im_X12_done se_X12_X12_X12_done sh_54 (by decide) rfl rfl rfl ⟨Nat.le_of_ble_eq_true rfl, Nat.le_of_ble_eq_true rfl, Nat.le_of_ble_eq_true rfl, Nat.le_of_ble_eq_true rfl⟩ (Nat.le_of_ble_eq_true rfl) (c_X12_done ?_)
                refine s_goto (tgt := 290) dX12_forge_281 (by decide) ?_
                exact s_iret dX12_forge_290 rfl (by decide) (by decide) (by
    have hz2 : 0 ≤ n.toInt ∧ n.toInt < sz (mdl x 4) := ⟨i259.1, by have := i259.2; omega⟩
    rw [show j = n.toInt.toNat by rw [ej, nI_toInt (by have := (hS _ h4).2; omega)]; rfl]
    have q := k2 2 (by decide) ekw i20 i34
    unfold fgR at q
    rw [if_neg (by decide), if_neg (by decide), if_pos rfl, if_neg c218, if_pos (show I 91 (mdl x 4) = 2 by simpa using c236), if_pos hz2] at q
    exact q)
              · refine s_ifeqT (tgt := 284) dX12_forge_262 (by decide) (by decide) ?_
                refine s_aload_n (pc' := 285) dX12_forge_284 rfl rfl ?_
                refine s_bipush (pc' := 287) (v := 12) dX12_forge_285 rfl (by decide) ?_
                refine s_callV (pc' := 290) (As := [.int _]) dX12_forge_287 rfl mk_X12_refused ml_X12_149 im_X12_refused se_X12_X12_X12_refused sh_54 (by decide) rfl rfl rfl ⟨Nat.le_of_ble_eq_true rfl, Nat.le_of_ble_eq_true rfl, Nat.le_of_ble_eq_true rfl, Nat.le_of_ble_eq_true rfl⟩ (Nat.le_of_ble_eq_true rfl) (c_X12_refused ?_)
                exact s_iret dX12_forge_290 rfl (by decide) (by decide) (by
    have q := k2 2 (by decide) ekw i20 i34
    unfold fgR at q
    rw [if_neg (by decide), if_neg (by decide), if_pos rfl, if_neg c218, if_pos (show I 91 (mdl x 4) = 2 by simpa using c236), if_neg (fun z => i259 ⟨z.1, by omega⟩)] at q
    exact q)
            · refine s_aload_n (pc' := 240) dX12_forge_239 rfl rfl ?_
              refine s_bipush (pc' := 242) (v := 11) dX12_forge_240 rfl (by decide) ?_
              refine s_callV (pc' := 245) (As := [.int _]) dX12_forge_242 rfl mk_X12_refused ml_X12_149 im_X12_refused se_X12_X12_X12_refused sh_54 (by decide) rfl rfl rfl ⟨Nat.le_of_ble_eq_true rfl, Nat.le_of_ble_eq_true rfl, Nat.le_of_ble_eq_true rfl, Nat.le_of_ble_eq_true rfl⟩ (Nat.le_of_ble_eq_true rfl) (c_X12_refused ?_)
              exact s_iret dX12_forge_245 rfl (by decide) (by decide) (by
    have q := k2 2 (by decide) ekw i20 i34
    unfold fgR at q
    rw [if_neg (by decide), if_neg (by decide), if_pos rfl, if_neg c218, if_neg c236] at q
    exact q)
          · refine s_aload_n (pc' := 222) dX12_forge_221 rfl rfl ?_
            refine s_bipush (pc' := 224) (v := 10) dX12_forge_222 rfl (by decide) ?_
            refine s_callV (pc' := 227) (As := [.int _]) dX12_forge_224 rfl mk_X12_refused ml_X12_149 im_X12_refused se_X12_X12_X12_refused sh_54 (by decide) rfl rfl rfl ⟨Nat.le_of_ble_eq_true rfl, Nat.le_of_ble_eq_true rfl, Nat.le_of_ble_eq_true rfl, Nat.le_of_ble_eq_true rfl⟩ (Nat.le_of_ble_eq_true rfl) (c_X12_refused ?_)
            exact s_iret dX12_forge_227 rfl (by decide) (by decide) (by
    have q := k2 2 (by decide) ekw i20 i34
    unfold fgR at q
    rw [if_neg (by decide), if_neg (by decide), if_pos rfl, if_pos (show I 91 (mdl x 4) = 0 by simpa using c218)] at q
    exact q)
        · rw [e6] at ekw
          refine s_tabIn (tgt := 291) (off := 229) dX12_forge_62 (by rw [ekw]; decide) (by rw [ekw]; decide) (by rw [ekw]; rfl) (by decide) ?_
          have h4 := mdl_lt (x := x) (m := 4) (by decide)
          refine s_aload_n (pc' := 292) dX12_forge_291 rfl rfl ?_
          refine s_iload (pc' := 294) dX12_forge_292 rfl rfl ?_
          refine s_iload_n (pc' := 295) dX12_forge_294 rfl rfl ?_
          refine s_callV (pc' := 298) (As := [.int _, .int _]) dX12_forge_295 rfl mk_X12_copied ml_X12_352 im_X12_copied se_X12_X12_X12_copied sh_54 (by decide) rfl rfl rfl ⟨Nat.le_of_ble_eq_true rfl, Nat.le_of_ble_eq_true rfl, Nat.le_of_ble_eq_true rfl, Nat.le_of_ble_eq_true rfl⟩ (Nat.le_of_ble_eq_true rfl) (c_X12_copied h4 (hS _ h4).2 (hS _ h4).1 i20 (fun g295 => ?_) (fun g295 f295 => ?_) (fun g295 f295 d295 => ?_) (fun g295 f295 k295 a295 b295 d295 => ?_))
          · exact s_iret dX12_forge_298 rfl (by decide) (by decide) (by
    have q := k2 3 (by decide) ekw i20 i34
    unfold fgR at q
    rw [if_neg (by decide), if_neg (by decide), if_neg (by decide), if_pos rfl, if_pos g295] at q
    exact q)
          · exact s_iret dX12_forge_298 rfl (by decide) (by decide) (by
    have q := k2 3 (by decide) ekw i20 i34
    unfold fgR at q
    rw [if_neg (by decide), if_neg (by decide), if_neg (by decide), if_pos rfl, if_neg g295, if_neg f295] at q
    exact q)
          · exact s_iret dX12_forge_298 rfl (by decide) (by decide) (by
    have q := k2 3 (by decide) ekw i20 i34
    unfold fgR at q
    rw [if_neg (by decide), if_neg (by decide), if_neg (by decide), if_pos rfl, if_neg g295, if_pos f295, if_neg (fun z => d295 (cpOk_iff.mpr z))] at q
    exact q)
          · exact s_iret dX12_forge_298 rfl (by decide) (by decide) (by
    have q := k2 3 (by decide) ekw i20 i34
    unfold fgR at q
    rw [if_neg (by decide), if_neg (by decide), if_neg (by decide), if_pos rfl, if_neg g295, if_pos f295, if_pos (cpOk_iff.mp ⟨k295, a295, b295, d295⟩), d295, nI_toInt (by omega)] at q
    exact q)
        · rw [e6] at ekw
          refine s_tabIn (tgt := 299) (off := 237) dX12_forge_62 (by rw [ekw]; decide) (by rw [ekw]; decide) (by rw [ekw]; rfl) (by decide) ?_
          refine s_aload_n (pc' := 300) dX12_forge_299 rfl rfl ?_
          refine s_iload (pc' := 302) dX12_forge_300 rfl rfl ?_
          refine s_callV (pc' := 305) (As := [.int _]) dX12_forge_302 rfl mk_X12_isRule ml_X12_190 im_X12_isRule se_X12_X12_X12_isRule sh_54 (by decide) rfl rfl rfl ⟨Nat.le_of_ble_eq_true rfl, Nat.le_of_ble_eq_true rfl, Nat.le_of_ble_eq_true rfl, Nat.le_of_ble_eq_true rfl⟩ (Nat.le_of_ble_eq_true rfl) (c_X12_isRule (M.2.1.rn M.1) (by have := M.2.1.nr; omega) (fun j302 hj302 e302 => ?_) (fun n302 => ?_))
          · refine s_ifneT (tgt := 314) dX12_forge_305 (by decide) (by decide) ?_
            refine s_aload_n (pc' := 315) dX12_forge_314 rfl rfl ?_
            refine s_getS (pc' := 318) (b := 60) dX12_forge_315 rfl (by decide) rfl (by decide) fa_X12_25_12 rfl rfl ?_
            refine s_iload (pc' := 320) dX12_forge_318 rfl rfl ?_
            refine t_iald (pc' := 321) dX12_forge_320 rfl sh_60 rfl (by have := mdl_lt (x := x) (m := 30) (by decide); omega) ?_
            refine s_iconst (pc' := 322) (v := 5) dX12_forge_321 rfl (by decide) ?_
            refine s_icmplt (pc' := 325) (tgt := 339) dX12_forge_322 (by decide) rfl (fun c322 => ?_) (fun c322 => ?_)
            · refine s_aload_n (pc' := 340) dX12_forge_339 rfl rfl ?_
              refine s_bipush (pc' := 342) (v := 14) dX12_forge_340 rfl (by decide) ?_
              refine s_callV (pc' := 345) (As := [.int _]) dX12_forge_342 rfl mk_X12_refused ml_X12_149 im_X12_refused se_X12_X12_X12_refused sh_54 (by decide) rfl rfl rfl ⟨Nat.le_of_ble_eq_true rfl, Nat.le_of_ble_eq_true rfl, Nat.le_of_ble_eq_true rfl, Nat.le_of_ble_eq_true rfl⟩ (Nat.le_of_ble_eq_true rfl) (c_X12_refused ?_)
              exact s_iret dX12_forge_345 rfl (by decide) (by decide) (by
    have hl : mdl x 30 < nr := by rw [(nI_eq (by have := mdl_lt (x := x) (m := 30) (by decide); omega) (by have := M.2.1.nr; omega)).mp e302]; exact hj302
    have q := k2 4 (by decide) ekw i20 i34
    unfold fgR at q
    rw [if_neg (by decide), if_neg (by decide), if_neg (by decide), if_neg (by decide), if_pos rfl, if_pos hl, if_neg (by rw [← M.1 60 (by decide) (by decide)]; exact Int32.not_le.mpr c322)] at q
    exact q)
            · refine s_aload_n (pc' := 326) dX12_forge_325 rfl rfl ?_
              refine s_aload_n (pc' := 327) dX12_forge_326 rfl rfl ?_
              refine s_getS (pc' := 330) (b := 60) dX12_forge_327 rfl (by decide) rfl (by decide) fa_X12_25_12 rfl rfl ?_
              refine s_iload (pc' := 332) dX12_forge_330 rfl rfl ?_
              refine t_iald (pc' := 333) dX12_forge_332 rfl sh_60 rfl (by have := mdl_lt (x := x) (m := 30) (by decide); omega) ?_
              refine s_callV (pc' := 336) (As := [.int _]) dX12_forge_333 rfl mk_X12_done ml_X12_157 im_X12_done se_X12_X12_X12_done sh_54 (by decide) rfl rfl rfl ⟨Nat.le_of_ble_eq_true rfl, Nat.le_of_ble_eq_true rfl, Nat.le_of_ble_eq_true rfl, Nat.le_of_ble_eq_true rfl⟩ (Nat.le_of_ble_eq_true rfl) (c_X12_done ?_)
              refine s_goto (tgt := 345) dX12_forge_336 (by decide) ?_
              exact s_iret dX12_forge_345 rfl (by decide) (by decide) (by
    have hl : mdl x 30 < nr := by rw [(nI_eq (by have := mdl_lt (x := x) (m := 30) (by decide); omega) (by have := M.2.1.nr; omega)).mp e302]; exact hj302
    have q := k2 4 (by decide) ekw i20 i34
    unfold fgR at q
    rw [if_neg (by decide), if_neg (by decide), if_neg (by decide), if_neg (by decide), if_pos rfl, if_pos hl, if_pos (by rw [← M.1 60 (by decide) (by decide)]; exact Int32.not_lt.mp c322), ← M.1 60 (by decide) (by decide)] at q
    exact q)
          · refine s_ifneF (pc' := 308) (tgt := 314) dX12_forge_305 (by decide) rfl (by decide) ?_
            refine s_aload_n (pc' := 309) dX12_forge_308 rfl rfl ?_
            refine s_iconst (pc' := 310) (v := 0) dX12_forge_309 rfl (by decide) ?_
            refine s_callV (pc' := 313) (As := [.int _]) dX12_forge_310 rfl mk_X12_done ml_X12_157 im_X12_done se_X12_X12_X12_done sh_54 (by decide) rfl rfl rfl ⟨Nat.le_of_ble_eq_true rfl, Nat.le_of_ble_eq_true rfl, Nat.le_of_ble_eq_true rfl, Nat.le_of_ble_eq_true rfl⟩ (Nat.le_of_ble_eq_true rfl) (c_X12_done ?_)
            exact s_iret dX12_forge_313 rfl (by decide) (by decide) (by
    have q := k2 4 (by decide) ekw i20 i34
    unfold fgR at q
    rw [if_neg (by decide), if_neg (by decide), if_neg (by decide), if_neg (by decide), if_pos rfl, if_neg (fun z => n302 _ z rfl)] at q
    exact q)
        · rw [e6] at ekw
          refine s_tabIn (tgt := 346) (off := 284) dX12_forge_62 (by rw [ekw]; decide) (by rw [ekw]; decide) (by rw [ekw]; rfl) (by decide) ?_
          refine s_iload_n (pc' := 347) dX12_forge_346 rfl rfl ?_
          refine s_ifne (pc' := 350) (tgt := 359) dX12_forge_347 (by decide) rfl (fun c347 => ?_) (fun c347 => ?_)
          · refine s_aload_n (pc' := 360) dX12_forge_359 rfl rfl ?_
            refine s_sipush (pc' := 363) (v := 1000) dX12_forge_360 rfl (by decide) ?_
            refine s_iload_n (pc' := 364) dX12_forge_363 rfl rfl ?_
            refine s_idiv (pc' := 365) dX12_forge_364 rfl (by simpa using c347) ?_
            refine s_callV (pc' := 368) (As := [.int _]) dX12_forge_365 rfl mk_X12_done ml_X12_157 im_X12_done se_X12_X12_X12_done sh_54 (by decide) rfl rfl rfl ⟨Nat.le_of_ble_eq_true rfl, Nat.le_of_ble_eq_true rfl, Nat.le_of_ble_eq_true rfl, Nat.le_of_ble_eq_true rfl⟩ (Nat.le_of_ble_eq_true rfl) (c_X12_done ?_)
            exact s_iret dX12_forge_368 rfl (by decide) (by decide) (by
    have q := k2 5 (by decide) ekw i20 i34
    unfold fgR at q
    rw [if_neg (by decide), if_neg (by decide), if_neg (by decide), if_neg (by decide), if_neg (by decide), if_pos rfl, if_neg c347] at q
    exact q)
          · refine s_aload_n (pc' := 351) dX12_forge_350 rfl rfl ?_
            refine s_bipush (pc' := 353) (v := 15) dX12_forge_351 rfl (by decide) ?_
            refine s_callV (pc' := 356) (As := [.int _]) dX12_forge_353 rfl mk_X12_refused ml_X12_149 im_X12_refused se_X12_X12_X12_refused sh_54 (by decide) rfl rfl rfl ⟨Nat.le_of_ble_eq_true rfl, Nat.le_of_ble_eq_true rfl, Nat.le_of_ble_eq_true rfl, Nat.le_of_ble_eq_true rfl⟩ (Nat.le_of_ble_eq_true rfl) (c_X12_refused ?_)
            refine s_goto (tgt := 368) dX12_forge_356 (by decide) ?_
            exact s_iret dX12_forge_368 rfl (by decide) (by decide) (by
    have q := k2 5 (by decide) ekw i20 i34
    unfold fgR at q
    rw [if_neg (by decide), if_neg (by decide), if_neg (by decide), if_neg (by decide), if_neg (by decide), if_pos rfl, if_pos (show n = 0 by simpa using c347)] at q
    exact q)
        · rw [e6] at ekw
          refine s_tabOut (tgt := 369) dX12_forge_62 (by rw [ekw]; decide) (by decide) ?_
          refine s_iload_n (pc' := 370) dX12_forge_369 rfl rfl ?_
          refine s_iconst (pc' := 371) (v := 2) dX12_forge_370 rfl (by decide) ?_
          refine s_callS (pc' := 374) (As := [.int _, .int _]) dX12_forge_371 rfl mk_X12_modulo ml_X12_349 sm_X12_modulo rfl rfl ⟨Nat.le_of_ble_eq_true rfl, Nat.le_of_ble_eq_true rfl, Nat.le_of_ble_eq_true rfl, Nat.le_of_ble_eq_true rfl⟩ (Nat.le_of_ble_eq_true rfl) (c_X12_modulo (by decide) ?_)
          rw [(mdM_in i20).2.2.2]
          refine s_ifne (pc' := 377) (tgt := 386) dX12_forge_374 (by decide) rfl (fun c374 => ?_) (fun c374 => ?_)
          · refine s_aload_n (pc' := 387) dX12_forge_386 rfl rfl ?_
            refine s_iconst (pc' := 388) (v := 1) dX12_forge_387 rfl (by decide) ?_
            refine s_callV (pc' := 391) (As := [.int _]) dX12_forge_388 rfl mk_X12_done ml_X12_157 im_X12_done se_X12_X12_X12_done sh_54 (by decide) rfl rfl rfl ⟨Nat.le_of_ble_eq_true rfl, Nat.le_of_ble_eq_true rfl, Nat.le_of_ble_eq_true rfl, Nat.le_of_ble_eq_true rfl⟩ (Nat.le_of_ble_eq_true rfl) (c_X12_done ?_)
            exact s_iret dX12_forge_391 rfl (by decide) (by decide) (by
    have q := k2 6 (by decide) ekw i20 i34
    unfold fgR at q
    rw [if_neg (by decide), if_neg (by decide), if_neg (by decide), if_neg (by decide), if_neg (by decide), if_neg (by decide), if_neg (fun z => c374 (by rw [z]; rfl))] at q
    exact q)
          · refine s_aload_n (pc' := 378) dX12_forge_377 rfl rfl ?_
            refine s_bipush (pc' := 380) (v := 10) dX12_forge_378 rfl (by decide) ?_
            refine s_callV (pc' := 383) (As := [.int _]) dX12_forge_380 rfl mk_X12_refused ml_X12_149 im_X12_refused se_X12_X12_X12_refused sh_54 (by decide) rfl rfl rfl ⟨Nat.le_of_ble_eq_true rfl, Nat.le_of_ble_eq_true rfl, Nat.le_of_ble_eq_true rfl, Nat.le_of_ble_eq_true rfl⟩ (Nat.le_of_ble_eq_true rfl) (c_X12_refused ?_)
            refine s_goto (tgt := 391) dX12_forge_383 (by decide) ?_
            exact s_iret dX12_forge_391 rfl (by decide) (by decide) (by
    have h2 := mdl_lt (x := n) (m := 2) (by decide)
    have q := k2 6 (by decide) ekw i20 i34
    unfold fgR at q
    rw [if_neg (by decide), if_neg (by decide), if_neg (by decide), if_neg (by decide), if_neg (by decide), if_neg (by decide), if_pos ((nI_eq (by omega) (by decide)).mp (show nI (mdl n 2) = (0 : Int32) by simpa using c374))] at q
    exact q)
      · refine s_ifneF (pc' := 40) (tgt := 46) dX12_forge_37 (by decide) rfl (by decide) ?_
        refine s_aload_n (pc' := 41) dX12_forge_40 rfl rfl ?_
        refine s_iconst (pc' := 42) (v := 1) dX12_forge_41 rfl (by decide) ?_
        refine s_callV (pc' := 45) (As := [.int _]) dX12_forge_42 rfl mk_X12_refused ml_X12_149 im_X12_refused se_X12_X12_X12_refused sh_54 (by decide) rfl rfl rfl ⟨Nat.le_of_ble_eq_true rfl, Nat.le_of_ble_eq_true rfl, Nat.le_of_ble_eq_true rfl, Nat.le_of_ble_eq_true rfl⟩ (Nat.le_of_ble_eq_true rfl) (c_X12_refused ?_)
        exact s_iret dX12_forge_45 rfl (by decide) (by decide) (k1 (Or.inr (Or.inr i34)))
    · refine s_ifeqT (tgt := 40) dX12_forge_23 (by decide) (by decide) ?_
      refine s_aload_n (pc' := 41) dX12_forge_40 rfl rfl ?_
      refine s_iconst (pc' := 42) (v := 1) dX12_forge_41 rfl (by decide) ?_
      refine s_callV (pc' := 45) (As := [.int _]) dX12_forge_42 rfl mk_X12_refused ml_X12_149 im_X12_refused se_X12_X12_X12_refused sh_54 (by decide) rfl rfl rfl ⟨Nat.le_of_ble_eq_true rfl, Nat.le_of_ble_eq_true rfl, Nat.le_of_ble_eq_true rfl, Nat.le_of_ble_eq_true rfl⟩ (Nat.le_of_ble_eq_true rfl) (c_X12_refused ?_)
      exact s_iret dX12_forge_45 rfl (by decide) (by decide) (k1 (Or.inr (Or.inl i20)))
  · refine s_ifeqT (tgt := 40) dX12_forge_9 (by decide) (by decide) ?_
    refine s_aload_n (pc' := 41) dX12_forge_40 rfl rfl ?_
    refine s_iconst (pc' := 42) (v := 1) dX12_forge_41 rfl (by decide) ?_
    refine s_callV (pc' := 45) (As := [.int _]) dX12_forge_42 rfl mk_X12_refused ml_X12_149 im_X12_refused se_X12_X12_X12_refused sh_54 (by decide) rfl rfl rfl ⟨Nat.le_of_ble_eq_true rfl, Nat.le_of_ble_eq_true rfl, Nat.le_of_ble_eq_true rfl, Nat.le_of_ble_eq_true rfl⟩ (Nat.le_of_ble_eq_true rfl) (c_X12_refused ?_)
    exact s_iret dX12_forge_45 rfl (by decide) (by decide) (k1 (Or.inl i6))
